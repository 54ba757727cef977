def rmX4_variable : Room := { frames := 20, cells := 0, slots := 0, locals := 400 }
set_option maxHeartbeats 4000000 in
set_option maxRecDepth 100000 in
theorem tX4_variable {l : Launch} {D : va_G} {K : Nat → Nat → Nat} {cs : Nat → ClassId} {q : Nat → Nat} {v_t_tapeSize v_t_textSize v_t_faultKind v_g_size v_h_size v_r_takes v_r_negative v_r_namePlace v_r_faultKind v_r_faultPlace v_a_size v_a_limit v_a_digits v_a_kind v_a_from v_a_to v_o_size v_b_size v_b_limit v_b_digits v_b_kind v_b_from v_b_to v_u_marksMade v_u_came v_u_guesses v_u_right v_u_taken v_s_things v_s_looked v_s_lookedTooOften v_s_arraysMade v_s_cellsMade : Int32} {a_t_tape a_t_text a_o_out a_u_outcomes a_u_indexes a_s_classes a_s_starts a_s_lengths a_vc : Nat → Int32} {a_g_beyond a_h_beyond a_r_scratch a_r_now a_u_atom a_u_other a_u_hand : Nat} {a_g_steps a_h_steps a_u_vars a_u_marks : Nat → Option Nat} {a_s_cells a_vd a_sj : Nat → Int64} {a_L : List Nat} {a_K a_iv a_inn : Nat → Nat} {a_si a_ac : Nat → Nat → Int32} (v9 : Int32) (p_0 : RF a_L a_K a_g_beyond a_h_beyond a_r_scratch a_g_steps a_h_steps a_u_atom a_u_other a_u_hand a_u_vars a_u_marks) : CtR l yX4_variable (wG yX4_variable cX4_variable 2 (some (.object "ArrayTrainer$Value"))) rmX4_variable D (twT cs) K [.ref (q 12), .int v9] (tw cs q v_t_tapeSize v_t_textSize v_t_faultKind a_t_tape a_t_text a_g_beyond v_g_size a_g_steps a_h_beyond v_h_size a_h_steps a_r_scratch a_r_now v_r_takes v_r_negative v_r_namePlace v_r_faultKind v_r_faultPlace v_a_size v_a_limit v_a_digits v_a_kind v_a_from v_a_to v_o_size a_o_out v_b_size v_b_limit v_b_digits v_b_kind v_b_from v_b_to a_u_atom a_u_other a_u_hand v_u_marksMade v_u_came v_u_guesses v_u_right v_u_taken a_u_vars a_u_marks a_u_outcomes a_u_indexes v_s_things v_s_looked v_s_lookedTooOften v_s_arraysMade v_s_cellsMade a_s_classes a_s_starts a_s_lengths a_s_cells a_L a_K a_vc a_vd a_si a_sj a_iv a_inn a_ac) (fun r w1 => w1 = (tw cs q v_t_tapeSize v_t_textSize v_t_faultKind a_t_tape a_t_text a_g_beyond v_g_size a_g_steps a_h_beyond v_h_size a_h_steps a_r_scratch a_r_now v_r_takes v_r_negative v_r_namePlace v_r_faultKind v_r_faultPlace v_a_size v_a_limit v_a_digits v_a_kind v_a_from v_a_to v_o_size a_o_out v_b_size v_b_limit v_b_digits v_b_kind v_b_from v_b_to a_u_atom a_u_other a_u_hand v_u_marksMade v_u_came v_u_guesses v_u_right v_u_taken a_u_vars a_u_marks a_u_outcomes a_u_indexes v_s_things v_s_looked v_s_lookedTooOften v_s_arraysMade v_s_cellsMade a_s_classes a_s_starts a_s_lengths a_s_cells a_L a_K a_vc a_vd a_si a_sj a_iv a_inn a_ac) ∧ (aV a_L a_K r)) 0 0 := by
  intro sz
  refine Met.ofW (cc := cX4_variable) (maxL := 2) (ret := (some (.object "ArrayTrainer$Value"))) (by decide) rfl ?_
  intro p e s m args below meth c s₁ B hml hv
  obtain ⟨rfl, hsz, hP, hK, hD0, hE⟩ := hv
  have hx := B.exec
  have hb := B.bytes
  have hr := B.returns
  have hts := atoms_spec (ws := (wG yX4_variable cX4_variable 2 (some (.object "ArrayTrainer$Value")))) B.pre
  have hown : s.vm.findClass RX4 = some m.cls := findClass_of_methodNamed B.named
  have hlocks := B.notSynchronized
  subst hsz
  have hD := hD0.self (sz := s.heap.size)
  obtain ⟨A, hAe⟩ : ∃ A : Nat → Prop, A = va_A (tw cs q v_t_tapeSize v_t_textSize v_t_faultKind a_t_tape a_t_text a_g_beyond v_g_size a_g_steps a_h_beyond v_h_size a_h_steps a_r_scratch a_r_now v_r_takes v_r_negative v_r_namePlace v_r_faultKind v_r_faultPlace v_a_size v_a_limit v_a_digits v_a_kind v_a_from v_a_to v_o_size a_o_out v_b_size v_b_limit v_b_digits v_b_kind v_b_from v_b_to a_u_atom a_u_other a_u_hand v_u_marksMade v_u_came v_u_guesses v_u_right v_u_taken a_u_vars a_u_marks a_u_outcomes a_u_indexes v_s_things v_s_looked v_s_lookedTooOften v_s_arraysMade v_s_cellsMade a_s_classes a_s_starts a_s_lengths a_s_cells a_L a_K a_vc a_vd a_si a_sj a_iv a_inn a_ac) s.heap.size := ⟨_, rfl⟩
  rw [← hAe] at hD hE
  have hA : ∀ q : Nat, s.heap.size ≤ q → A q := fun q h => by rw [hAe]; exact Or.inr h
  have hS : va_S A s.heap s.heap [] := va_S.rf
  have hl := lv_entry ([.ref (q 12), .int v9]) (n := 2) (Nat.le_of_ble_eq_true rfl)
  rw [lg_entry_eq]
  generalize (lg_sl ([.ref (q 12), .int v9]) ++ List.replicate (2 - (lg_sl ([.ref (q 12), .int v9])).length) Slot.unset).toArray = ls at hl ⊢
  have hl : lv_has ls 2 [(0, .ref (q 12)), (1, .int v9)] := hl
  refine wq (fun Q hQ => ?_)
  have hinX4 : ∀ w ∈ wsX40, w ∈ (wG yX4_variable cX4_variable 2 (some (.object "ArrayTrainer$Value"))) := fun w h => List.mem_cons_of_mem _ (inlX4 w h)
  have kc0 : (26 : Int32).toInt = 26 := by decide
  have k_4_13 := hts (.fieldLink RX4 41 "ArrayTrainer$Runner" "other" "LArrayTrainer$Value;") (List.mem_cons_of_mem _ (wr4 _ (List.mem_of_getElem? (i := 13) rfl)))
  have k_4_6 := hts (.fieldLink RX4 20 "ArrayTrainer$Runner" "vars" "[LArrayTrainer$Value;") (List.mem_cons_of_mem _ (wr4 _ (List.mem_of_getElem? (i := 6) rfl)))
  obtain ⟨H, hH⟩ : ∃ H : Heap, H = s.heap := ⟨_, rfl⟩
  obtain ⟨locs, hlc⟩ : ∃ L : List Loc, L = [] := ⟨_, rfl⟩
  have hP : va_P D vwCl (tw cs q v_t_tapeSize v_t_textSize v_t_faultKind a_t_tape a_t_text a_g_beyond v_g_size a_g_steps a_h_beyond v_h_size a_h_steps a_r_scratch a_r_now v_r_takes v_r_negative v_r_namePlace v_r_faultKind v_r_faultPlace v_a_size v_a_limit v_a_digits v_a_kind v_a_from v_a_to v_o_size a_o_out v_b_size v_b_limit v_b_digits v_b_kind v_b_from v_b_to a_u_atom a_u_other a_u_hand v_u_marksMade v_u_came v_u_guesses v_u_right v_u_taken a_u_vars a_u_marks a_u_outcomes a_u_indexes v_s_things v_s_looked v_s_lookedTooOften v_s_arraysMade v_s_cellsMade a_s_classes a_s_starts a_s_lengths a_s_cells a_L a_K a_vc a_vd a_si a_sj a_iv a_inn a_ac) H := by rw [hH]; exact hP
  have hS : va_S A s.heap H locs := by rw [hH, hlc]; exact hS
  refine wHL hH hlc ?_
  have b_v9 := iB v9
  refine lv_iload_n hx hb dX4_variable_0 rfl (lv_at hl 1 rfl) ?_
  refine m_if_lt (X := v9.toInt) (tgt := 19) hx hb dX4_variable_1 (by decide) rfl (fun c1 => ?_) (fun c1 => ?_)
  · skip
    refine lv_aload_n hx hb dX4_variable_19 rfl (lv_at hl 0 rfl) ?_
    have hf20 : aV a_L a_K a_u_other := by first | assumption | exact RF.z_uO (by assumption)
    refine va_get (D := D) (ci := 3) (v := .ref a_u_other) (C := RX4) (T := TX4) (N := 13) hx hb hts hinX4 hown hK hP 12 rfl rfl 6 (by decide) k_4_13 (fun _ h9 => h9) rfl dX4_variable_20 ?_
    subst hAe
    rw [hQ]
    exact W.aret (v := .ref a_u_other) hx hb hr (Or.inl ⟨_, rfl⟩) (Or.inr ⟨_, rfl⟩) (fun t ht hW => ⟨⟨_, _, rfl, trivial, ⟨⟨rfl, by first | assumption | omega | (intros; omega) | decide⟩, by rw [ht]; exact hP, va_K.moved hW.alike hK, hD⟩⟩, hS.F ht⟩) hS.2.2 dX4_variable_23
  · skip
    refine lv_iload_n hx hb dX4_variable_4 rfl (lv_at hl 1 rfl) ?_
    refine lv_bipush (v := 26) hx hb dX4_variable_5 (by decide) ?_
    refine m_icmp_ge (X := v9.toInt) (Y := 26) (tgt := 19) hx hb dX4_variable_7 (by decide) rfl (by decide) (fun c7 => ?_) (fun c7 => ?_)
    · skip
      refine lv_aload_n hx hb dX4_variable_19 rfl (lv_at hl 0 rfl) ?_
      have hf20 : aV a_L a_K a_u_other := by first | assumption | exact RF.z_uO (by assumption)
      refine va_get (D := D) (ci := 3) (v := .ref a_u_other) (C := RX4) (T := TX4) (N := 13) hx hb hts hinX4 hown hK hP 12 rfl rfl 6 (by decide) k_4_13 (fun _ h9 => h9) rfl dX4_variable_20 ?_
      subst hAe
      rw [hQ]
      exact W.aret (v := .ref a_u_other) hx hb hr (Or.inl ⟨_, rfl⟩) (Or.inr ⟨_, rfl⟩) (fun t ht hW => ⟨⟨_, _, rfl, trivial, ⟨⟨rfl, by first | assumption | omega | (intros; omega) | decide⟩, by rw [ht]; exact hP, va_K.moved hW.alike hK, hD⟩⟩, hS.F ht⟩) hS.2.2 dX4_variable_23
    · skip
      refine lv_aload_n hx hb dX4_variable_10 rfl (lv_at hl 0 rfl) ?_
      refine va_get (D := D) (ci := 3) (v := .ref (q 13)) (C := RX4) (T := TX4) (N := 13) hx hb hts hinX4 hown hK hP 12 rfl rfl 1 (by decide) k_4_6 (fun _ h9 => h9) rfl dX4_variable_11 ?_
      refine lv_iload_n hx hb dX4_variable_14 rfl (lv_at hl 1 rfl) ?_
      obtain ⟨x15, e_x15, h_x15⟩ := RF.z_vs (by assumption) v9.toNatClampNeg (by have t9 := tn (i := v9) (by omega); omega)
      refine m_aldq hx hb hK hP 13 3 rfl rfl (ix (by omega) (by omega)) e_x15 dX4_variable_15 ?_
      refine lv_goto (tgt := 23) hx hb dX4_variable_16 (by decide) ?_
      subst hAe
      rw [hQ]
      exact W.aret (v := .ref x15) hx hb hr (Or.inl ⟨_, rfl⟩) (Or.inr ⟨_, rfl⟩) (fun t ht hW => ⟨⟨_, _, rfl, trivial, ⟨⟨rfl, by first | assumption | omega | (intros; omega) | decide⟩, by rw [ht]; exact hP, va_K.moved hW.alike hK, hD⟩⟩, hS.F ht⟩) hS.2.2 dX4_variable_23

def rmX4_outcomeAt : Room := { frames := 20, cells := 0, slots := 0, locals := 400 }
set_option maxHeartbeats 4000000 in
set_option maxRecDepth 100000 in
theorem tX4_outcomeAt {l : Launch} {D : va_G} {K : Nat → Nat → Nat} {cs : Nat → ClassId} {q : Nat → Nat} {v_t_tapeSize v_t_textSize v_t_faultKind v_g_size v_h_size v_r_takes v_r_negative v_r_namePlace v_r_faultKind v_r_faultPlace v_a_size v_a_limit v_a_digits v_a_kind v_a_from v_a_to v_o_size v_b_size v_b_limit v_b_digits v_b_kind v_b_from v_b_to v_u_marksMade v_u_came v_u_guesses v_u_right v_u_taken v_s_things v_s_looked v_s_lookedTooOften v_s_arraysMade v_s_cellsMade : Int32} {a_t_tape a_t_text a_o_out a_u_outcomes a_u_indexes a_s_classes a_s_starts a_s_lengths a_vc : Nat → Int32} {a_g_beyond a_h_beyond a_r_scratch a_r_now a_u_atom a_u_other a_u_hand : Nat} {a_g_steps a_h_steps a_u_vars a_u_marks : Nat → Option Nat} {a_s_cells a_vd a_sj : Nat → Int64} {a_L : List Nat} {a_K a_iv a_inn : Nat → Nat} {a_si a_ac : Nat → Nat → Int32} (k9 : Int32) : CtI l yX4_outcomeAt (wG yX4_outcomeAt cX4_outcomeAt 2 (some .int)) rmX4_outcomeAt D (twT cs) K [.ref (q 12), .int k9] (tw cs q v_t_tapeSize v_t_textSize v_t_faultKind a_t_tape a_t_text a_g_beyond v_g_size a_g_steps a_h_beyond v_h_size a_h_steps a_r_scratch a_r_now v_r_takes v_r_negative v_r_namePlace v_r_faultKind v_r_faultPlace v_a_size v_a_limit v_a_digits v_a_kind v_a_from v_a_to v_o_size a_o_out v_b_size v_b_limit v_b_digits v_b_kind v_b_from v_b_to a_u_atom a_u_other a_u_hand v_u_marksMade v_u_came v_u_guesses v_u_right v_u_taken a_u_vars a_u_marks a_u_outcomes a_u_indexes v_s_things v_s_looked v_s_lookedTooOften v_s_arraysMade v_s_cellsMade a_s_classes a_s_starts a_s_lengths a_s_cells a_L a_K a_vc a_vd a_si a_sj a_iv a_inn a_ac) (fun r w1 => w1 = (tw cs q v_t_tapeSize v_t_textSize v_t_faultKind a_t_tape a_t_text a_g_beyond v_g_size a_g_steps a_h_beyond v_h_size a_h_steps a_r_scratch a_r_now v_r_takes v_r_negative v_r_namePlace v_r_faultKind v_r_faultPlace v_a_size v_a_limit v_a_digits v_a_kind v_a_from v_a_to v_o_size a_o_out v_b_size v_b_limit v_b_digits v_b_kind v_b_from v_b_to a_u_atom a_u_other a_u_hand v_u_marksMade v_u_came v_u_guesses v_u_right v_u_taken a_u_vars a_u_marks a_u_outcomes a_u_indexes v_s_things v_s_looked v_s_lookedTooOften v_s_arraysMade v_s_cellsMade a_s_classes a_s_starts a_s_lengths a_s_cells a_L a_K a_vc a_vd a_si a_sj a_iv a_inn a_ac)) 0 0 := by
  intro sz
  refine Met.ofW (cc := cX4_outcomeAt) (maxL := 2) (ret := (some .int)) (by decide) rfl ?_
  intro p e s m args below meth c s₁ B hml hv
  obtain ⟨rfl, hsz, hP, hK, hD0, hE⟩ := hv
  have hx := B.exec
  have hb := B.bytes
  have hr := B.returns
  have hts := atoms_spec (ws := (wG yX4_outcomeAt cX4_outcomeAt 2 (some .int))) B.pre
  have hown : s.vm.findClass RX4 = some m.cls := findClass_of_methodNamed B.named
  have hlocks := B.notSynchronized
  subst hsz
  have hD := hD0.self (sz := s.heap.size)
  obtain ⟨A, hAe⟩ : ∃ A : Nat → Prop, A = va_A (tw cs q v_t_tapeSize v_t_textSize v_t_faultKind a_t_tape a_t_text a_g_beyond v_g_size a_g_steps a_h_beyond v_h_size a_h_steps a_r_scratch a_r_now v_r_takes v_r_negative v_r_namePlace v_r_faultKind v_r_faultPlace v_a_size v_a_limit v_a_digits v_a_kind v_a_from v_a_to v_o_size a_o_out v_b_size v_b_limit v_b_digits v_b_kind v_b_from v_b_to a_u_atom a_u_other a_u_hand v_u_marksMade v_u_came v_u_guesses v_u_right v_u_taken a_u_vars a_u_marks a_u_outcomes a_u_indexes v_s_things v_s_looked v_s_lookedTooOften v_s_arraysMade v_s_cellsMade a_s_classes a_s_starts a_s_lengths a_s_cells a_L a_K a_vc a_vd a_si a_sj a_iv a_inn a_ac) s.heap.size := ⟨_, rfl⟩
  rw [← hAe] at hD hE
  have hA : ∀ q : Nat, s.heap.size ≤ q → A q := fun q h => by rw [hAe]; exact Or.inr h
  have hS : va_S A s.heap s.heap [] := va_S.rf
  have hl := lv_entry ([.ref (q 12), .int k9]) (n := 2) (Nat.le_of_ble_eq_true rfl)
  rw [lg_entry_eq]
  generalize (lg_sl ([.ref (q 12), .int k9]) ++ List.replicate (2 - (lg_sl ([.ref (q 12), .int k9])).length) Slot.unset).toArray = ls at hl ⊢
  have hl : lv_has ls 2 [(0, .ref (q 12)), (1, .int k9)] := hl
  refine wq (fun Q hQ => ?_)
  have hinX4 : ∀ w ∈ wsX40, w ∈ (wG yX4_outcomeAt cX4_outcomeAt 2 (some .int)) := fun w h => List.mem_cons_of_mem _ (inlX4 w h)
  have kc0 : (-1 : Int32).toInt = -1 := by decide
  have kc1 : (100 : Int32).toInt = 100 := by decide
  have k_4_8 := hts (.fieldLink RX4 27 "ArrayTrainer$Runner" "outcomes" "[I") (List.mem_cons_of_mem _ (wr4 _ (List.mem_of_getElem? (i := 8) rfl)))
  obtain ⟨H, hH⟩ : ∃ H : Heap, H = s.heap := ⟨_, rfl⟩
  obtain ⟨locs, hlc⟩ : ∃ L : List Loc, L = [] := ⟨_, rfl⟩
  have hP : va_P D vwCl (tw cs q v_t_tapeSize v_t_textSize v_t_faultKind a_t_tape a_t_text a_g_beyond v_g_size a_g_steps a_h_beyond v_h_size a_h_steps a_r_scratch a_r_now v_r_takes v_r_negative v_r_namePlace v_r_faultKind v_r_faultPlace v_a_size v_a_limit v_a_digits v_a_kind v_a_from v_a_to v_o_size a_o_out v_b_size v_b_limit v_b_digits v_b_kind v_b_from v_b_to a_u_atom a_u_other a_u_hand v_u_marksMade v_u_came v_u_guesses v_u_right v_u_taken a_u_vars a_u_marks a_u_outcomes a_u_indexes v_s_things v_s_looked v_s_lookedTooOften v_s_arraysMade v_s_cellsMade a_s_classes a_s_starts a_s_lengths a_s_cells a_L a_K a_vc a_vd a_si a_sj a_iv a_inn a_ac) H := by rw [hH]; exact hP
  have hS : va_S A s.heap H locs := by rw [hH, hlc]; exact hS
  refine wHL hH hlc ?_
  have b_k9 := iB k9
  refine lv_iload_n hx hb dX4_outcomeAt_0 rfl (lv_at hl 1 rfl) ?_
  refine m_if_lt (X := k9.toInt) (tgt := 19) hx hb dX4_outcomeAt_1 (by decide) rfl (fun c1 => ?_) (fun c1 => ?_)
  · skip
    refine lv_iconst (v := (-1)) hx hb dX4_outcomeAt_19 (by decide) ?_
    subst hAe
    rw [hQ]
    exact W.iret (v := (-1)) hx hb hr (fun t ht hW => ⟨⟨(-1), _, rfl, rfl, by rw [ht]; exact hP, va_K.moved hW.alike hK, hD⟩, hS.F ht⟩) hS.2.2 dX4_outcomeAt_20
  · skip
    refine lv_iload_n hx hb dX4_outcomeAt_4 rfl (lv_at hl 1 rfl) ?_
    refine lv_bipush (v := 100) hx hb dX4_outcomeAt_5 (by decide) ?_
    refine m_icmp_ge (X := k9.toInt) (Y := 100) (tgt := 19) hx hb dX4_outcomeAt_7 (by decide) rfl (by decide) (fun c7 => ?_) (fun c7 => ?_)
    · skip
      refine lv_iconst (v := (-1)) hx hb dX4_outcomeAt_19 (by decide) ?_
      subst hAe
      rw [hQ]
      exact W.iret (v := (-1)) hx hb hr (fun t ht hW => ⟨⟨(-1), _, rfl, rfl, by rw [ht]; exact hP, va_K.moved hW.alike hK, hD⟩, hS.F ht⟩) hS.2.2 dX4_outcomeAt_20
    · skip
      refine lv_aload_n hx hb dX4_outcomeAt_10 rfl (lv_at hl 0 rfl) ?_
      refine va_get (D := D) (ci := 3) (v := .ref (q 15)) (C := RX4) (T := TX4) (N := 13) hx hb hts hinX4 hown hK hP 12 rfl rfl 3 (by decide) k_4_8 (fun _ h9 => h9) rfl dX4_outcomeAt_11 ?_
      refine lv_iload_n hx hb dX4_outcomeAt_14 rfl (lv_at hl 1 rfl) ?_
      refine m_iald hx hb hK hP 15 0 rfl rfl (ix (by omega) (by omega)) dX4_outcomeAt_15 (fun x15 e_x15 => ?_)
      have b_x15 := iB x15
      refine lv_goto (tgt := 20) hx hb dX4_outcomeAt_16 (by decide) ?_
      subst hAe
      rw [hQ]
      exact W.iret (v := x15) hx hb hr (fun t ht hW => ⟨⟨x15, _, rfl, rfl, by rw [ht]; exact hP, va_K.moved hW.alike hK, hD⟩, hS.F ht⟩) hS.2.2 dX4_outcomeAt_20

def rmX4_tally : Room := { frames := 20, cells := 0, slots := 0, locals := 400 }
set_option maxHeartbeats 4000000 in
set_option maxRecDepth 100000 in
theorem tX4_tally {l : Launch} {D : va_G} {K : Nat → Nat → Nat} {cs : Nat → ClassId} {q : Nat → Nat} {v_t_tapeSize v_t_textSize v_t_faultKind v_g_size v_h_size v_r_takes v_r_negative v_r_namePlace v_r_faultKind v_r_faultPlace v_a_size v_a_limit v_a_digits v_a_kind v_a_from v_a_to v_o_size v_b_size v_b_limit v_b_digits v_b_kind v_b_from v_b_to v_u_marksMade v_u_came v_u_guesses v_u_right v_u_taken v_s_things v_s_looked v_s_lookedTooOften v_s_arraysMade v_s_cellsMade : Int32} {a_t_tape a_t_text a_o_out a_u_outcomes a_u_indexes a_s_classes a_s_starts a_s_lengths a_vc : Nat → Int32} {a_g_beyond a_h_beyond a_r_scratch a_r_now a_u_atom a_u_other a_u_hand : Nat} {a_g_steps a_h_steps a_u_vars a_u_marks : Nat → Option Nat} {a_s_cells a_vd a_sj : Nat → Int64} {a_L : List Nat} {a_K a_iv a_inn : Nat → Nat} {a_si a_ac : Nat → Nat → Int32} (w9 : Int32) : CtI l yX4_tally (wG yX4_tally cX4_tally 2 (some .int)) rmX4_tally D (twT cs) K [.ref (q 12), .int w9] (tw cs q v_t_tapeSize v_t_textSize v_t_faultKind a_t_tape a_t_text a_g_beyond v_g_size a_g_steps a_h_beyond v_h_size a_h_steps a_r_scratch a_r_now v_r_takes v_r_negative v_r_namePlace v_r_faultKind v_r_faultPlace v_a_size v_a_limit v_a_digits v_a_kind v_a_from v_a_to v_o_size a_o_out v_b_size v_b_limit v_b_digits v_b_kind v_b_from v_b_to a_u_atom a_u_other a_u_hand v_u_marksMade v_u_came v_u_guesses v_u_right v_u_taken a_u_vars a_u_marks a_u_outcomes a_u_indexes v_s_things v_s_looked v_s_lookedTooOften v_s_arraysMade v_s_cellsMade a_s_classes a_s_starts a_s_lengths a_s_cells a_L a_K a_vc a_vd a_si a_sj a_iv a_inn a_ac) (fun r w1 => w1 = (tw cs q v_t_tapeSize v_t_textSize v_t_faultKind a_t_tape a_t_text a_g_beyond v_g_size a_g_steps a_h_beyond v_h_size a_h_steps a_r_scratch a_r_now v_r_takes v_r_negative v_r_namePlace v_r_faultKind v_r_faultPlace v_a_size v_a_limit v_a_digits v_a_kind v_a_from v_a_to v_o_size a_o_out v_b_size v_b_limit v_b_digits v_b_kind v_b_from v_b_to a_u_atom a_u_other a_u_hand v_u_marksMade v_u_came v_u_guesses v_u_right v_u_taken a_u_vars a_u_marks a_u_outcomes a_u_indexes v_s_things v_s_looked v_s_lookedTooOften v_s_arraysMade v_s_cellsMade a_s_classes a_s_starts a_s_lengths a_s_cells a_L a_K a_vc a_vd a_si a_sj a_iv a_inn a_ac)) 0 0 := by
  intro sz
  refine Met.ofW (cc := cX4_tally) (maxL := 2) (ret := (some .int)) (by decide) rfl ?_
  intro p e s m args below meth c s₁ B hml hv
  obtain ⟨rfl, hsz, hP, hK, hD0, hE⟩ := hv
  have hx := B.exec
  have hb := B.bytes
  have hr := B.returns
  have hts := atoms_spec (ws := (wG yX4_tally cX4_tally 2 (some .int))) B.pre
  have hown : s.vm.findClass RX4 = some m.cls := findClass_of_methodNamed B.named
  have hlocks := B.notSynchronized
  subst hsz
  have hD := hD0.self (sz := s.heap.size)
  obtain ⟨A, hAe⟩ : ∃ A : Nat → Prop, A = va_A (tw cs q v_t_tapeSize v_t_textSize v_t_faultKind a_t_tape a_t_text a_g_beyond v_g_size a_g_steps a_h_beyond v_h_size a_h_steps a_r_scratch a_r_now v_r_takes v_r_negative v_r_namePlace v_r_faultKind v_r_faultPlace v_a_size v_a_limit v_a_digits v_a_kind v_a_from v_a_to v_o_size a_o_out v_b_size v_b_limit v_b_digits v_b_kind v_b_from v_b_to a_u_atom a_u_other a_u_hand v_u_marksMade v_u_came v_u_guesses v_u_right v_u_taken a_u_vars a_u_marks a_u_outcomes a_u_indexes v_s_things v_s_looked v_s_lookedTooOften v_s_arraysMade v_s_cellsMade a_s_classes a_s_starts a_s_lengths a_s_cells a_L a_K a_vc a_vd a_si a_sj a_iv a_inn a_ac) s.heap.size := ⟨_, rfl⟩
  rw [← hAe] at hD hE
  have hA : ∀ q : Nat, s.heap.size ≤ q → A q := fun q h => by rw [hAe]; exact Or.inr h
  have hS : va_S A s.heap s.heap [] := va_S.rf
  have hl := lv_entry ([.ref (q 12), .int w9]) (n := 2) (Nat.le_of_ble_eq_true rfl)
  rw [lg_entry_eq]
  generalize (lg_sl ([.ref (q 12), .int w9]) ++ List.replicate (2 - (lg_sl ([.ref (q 12), .int w9])).length) Slot.unset).toArray = ls at hl ⊢
  have hl : lv_has ls 2 [(0, .ref (q 12)), (1, .int w9)] := hl
  refine wq (fun Q hQ => ?_)
  have hinX4 : ∀ w ∈ wsX40, w ∈ (wG yX4_tally cX4_tally 2 (some .int)) := fun w h => List.mem_cons_of_mem _ (inlX4 w h)
  have hinX7 : ∀ w ∈ wsX70, w ∈ (wG yX4_tally cX4_tally 2 (some .int)) := fun w h => List.mem_cons_of_mem _ (inlX7 w h)
  have kc0 : (-1 : Int32).toInt = -1 := by decide
  have k_21_11 := hts (.fieldLink RX4 58 "ArrayTrainer$Runner" "marksMade" "I") (List.mem_cons_of_mem _ (wr21 _ (List.mem_of_getElem? (i := 11) rfl)))
  have k_4_4 := hts (.fieldLink RX4 12 "ArrayTrainer$Runner" "store" "LArrayTrainer$Store;") (List.mem_cons_of_mem _ (wr4 _ (List.mem_of_getElem? (i := 4) rfl)))
  have k_60_6 := hts (.fieldLink RX4 96 "ArrayTrainer$Store" "arraysMade" "I") (List.mem_cons_of_mem _ (wr60 _ (List.mem_of_getElem? (i := 6) rfl)))
  have k_60_7 := hts (.fieldLink RX4 99 "ArrayTrainer$Store" "cellsMade" "I") (List.mem_cons_of_mem _ (wr60 _ (List.mem_of_getElem? (i := 7) rfl)))
  have k_21_12 := hts (.fieldLink RX4 62 "ArrayTrainer$Runner" "came" "I") (List.mem_cons_of_mem _ (wr21 _ (List.mem_of_getElem? (i := 12) rfl)))
  have k_21_13 := hts (.fieldLink RX4 65 "ArrayTrainer$Runner" "guesses" "I") (List.mem_cons_of_mem _ (wr21 _ (List.mem_of_getElem? (i := 13) rfl)))
  have k_21_14 := hts (.fieldLink RX4 68 "ArrayTrainer$Runner" "right" "I") (List.mem_cons_of_mem _ (wr21 _ (List.mem_of_getElem? (i := 14) rfl)))
  have k_21_15 := hts (.fieldLink RX4 71 "ArrayTrainer$Runner" "taken" "I") (List.mem_cons_of_mem _ (wr21 _ (List.mem_of_getElem? (i := 15) rfl)))
  obtain ⟨H, hH⟩ : ∃ H : Heap, H = s.heap := ⟨_, rfl⟩
  obtain ⟨locs, hlc⟩ : ∃ L : List Loc, L = [] := ⟨_, rfl⟩
  have hP : va_P D vwCl (tw cs q v_t_tapeSize v_t_textSize v_t_faultKind a_t_tape a_t_text a_g_beyond v_g_size a_g_steps a_h_beyond v_h_size a_h_steps a_r_scratch a_r_now v_r_takes v_r_negative v_r_namePlace v_r_faultKind v_r_faultPlace v_a_size v_a_limit v_a_digits v_a_kind v_a_from v_a_to v_o_size a_o_out v_b_size v_b_limit v_b_digits v_b_kind v_b_from v_b_to a_u_atom a_u_other a_u_hand v_u_marksMade v_u_came v_u_guesses v_u_right v_u_taken a_u_vars a_u_marks a_u_outcomes a_u_indexes v_s_things v_s_looked v_s_lookedTooOften v_s_arraysMade v_s_cellsMade a_s_classes a_s_starts a_s_lengths a_s_cells a_L a_K a_vc a_vd a_si a_sj a_iv a_inn a_ac) H := by rw [hH]; exact hP
  have hS : va_S A s.heap H locs := by rw [hH, hlc]; exact hS
  refine wHL hH hlc ?_
  have b_w9 := iB w9
  refine lv_iload_n hx hb dX4_tally_0 rfl (lv_at hl 1 rfl) ?_
  rcases (show (w9.toInt < 3 ∨ 9 < w9.toInt) ∨ w9.toInt = 3 ∨ w9.toInt = 4 ∨ w9.toInt = 5 ∨ w9.toInt = 6 ∨ w9.toInt = 7 ∨ w9.toInt = 8 ∨ w9.toInt = 9 by omega) with c1 | c1 | c1 | c1 | c1 | c1 | c1 | c1
  · skip
    refine lv_tableOut (tgt := 85) hx hb dX4_tally_1 c1 (by decide) ?_
    refine lv_iconst (v := (-1)) hx hb dX4_tally_85 (by decide) ?_
    subst hAe
    rw [hQ]
    exact W.iret (v := (-1)) hx hb hr (fun t ht hW => ⟨⟨(-1), _, rfl, rfl, by rw [ht]; exact hP, va_K.moved hW.alike hK, hD⟩, hS.F ht⟩) hS.2.2 dX4_tally_86
  · skip
    refine lv_tableIn (tgt := 44) (off := 43) hx hb dX4_tally_1 (by omega) (by omega) (by rw [c1]; rfl) (by decide) ?_
    refine lv_aload_n hx hb dX4_tally_44 rfl (lv_at hl 0 rfl) ?_
    refine va_get (D := D) (ci := 3) (v := .int v_u_marksMade) (C := RX4) (T := TX4) (N := 13) hx hb hts hinX4 hown hK hP 12 rfl rfl 8 (by decide) k_21_11 (fun _ h9 => h9) rfl dX4_tally_45 ?_
    subst hAe
    rw [hQ]
    exact W.iret (v := v_u_marksMade) hx hb hr (fun t ht hW => ⟨⟨v_u_marksMade, _, rfl, rfl, by rw [ht]; exact hP, va_K.moved hW.alike hK, hD⟩, hS.F ht⟩) hS.2.2 dX4_tally_48
  · skip
    refine lv_tableIn (tgt := 49) (off := 48) hx hb dX4_tally_1 (by omega) (by omega) (by rw [c1]; rfl) (by decide) ?_
    refine lv_aload_n hx hb dX4_tally_49 rfl (lv_at hl 0 rfl) ?_
    refine va_get (D := D) (ci := 3) (v := .ref (q 17)) (C := RX4) (T := TX4) (N := 13) hx hb hts hinX4 hown hK hP 12 rfl rfl 0 (by decide) k_4_4 (fun _ h9 => h9) rfl dX4_tally_50 ?_
    refine va_get (D := D) (ci := 6) (v := .int v_s_arraysMade) (C := RX7) (T := TX7) (N := 9) hx hb hts hinX7 hown hK hP 17 rfl rfl 7 (by decide) k_60_6 (fun _ h9 => h9) rfl dX4_tally_53 ?_
    subst hAe
    rw [hQ]
    exact W.iret (v := v_s_arraysMade) hx hb hr (fun t ht hW => ⟨⟨v_s_arraysMade, _, rfl, rfl, by rw [ht]; exact hP, va_K.moved hW.alike hK, hD⟩, hS.F ht⟩) hS.2.2 dX4_tally_56
  · skip
    refine lv_tableIn (tgt := 57) (off := 56) hx hb dX4_tally_1 (by omega) (by omega) (by rw [c1]; rfl) (by decide) ?_
    refine lv_aload_n hx hb dX4_tally_57 rfl (lv_at hl 0 rfl) ?_
    refine va_get (D := D) (ci := 3) (v := .ref (q 17)) (C := RX4) (T := TX4) (N := 13) hx hb hts hinX4 hown hK hP 12 rfl rfl 0 (by decide) k_4_4 (fun _ h9 => h9) rfl dX4_tally_58 ?_
    refine va_get (D := D) (ci := 6) (v := .int v_s_cellsMade) (C := RX7) (T := TX7) (N := 9) hx hb hts hinX7 hown hK hP 17 rfl rfl 8 (by decide) k_60_7 (fun _ h9 => h9) rfl dX4_tally_61 ?_
    subst hAe
    rw [hQ]
    exact W.iret (v := v_s_cellsMade) hx hb hr (fun t ht hW => ⟨⟨v_s_cellsMade, _, rfl, rfl, by rw [ht]; exact hP, va_K.moved hW.alike hK, hD⟩, hS.F ht⟩) hS.2.2 dX4_tally_64
  · skip
    refine lv_tableIn (tgt := 65) (off := 64) hx hb dX4_tally_1 (by omega) (by omega) (by rw [c1]; rfl) (by decide) ?_
    refine lv_aload_n hx hb dX4_tally_65 rfl (lv_at hl 0 rfl) ?_
    refine va_get (D := D) (ci := 3) (v := .int v_u_came) (C := RX4) (T := TX4) (N := 13) hx hb hts hinX4 hown hK hP 12 rfl rfl 9 (by decide) k_21_12 (fun _ h9 => h9) rfl dX4_tally_66 ?_
    subst hAe
    rw [hQ]
    exact W.iret (v := v_u_came) hx hb hr (fun t ht hW => ⟨⟨v_u_came, _, rfl, rfl, by rw [ht]; exact hP, va_K.moved hW.alike hK, hD⟩, hS.F ht⟩) hS.2.2 dX4_tally_69
  · skip
    refine lv_tableIn (tgt := 70) (off := 69) hx hb dX4_tally_1 (by omega) (by omega) (by rw [c1]; rfl) (by decide) ?_
    refine lv_aload_n hx hb dX4_tally_70 rfl (lv_at hl 0 rfl) ?_
    refine va_get (D := D) (ci := 3) (v := .int v_u_guesses) (C := RX4) (T := TX4) (N := 13) hx hb hts hinX4 hown hK hP 12 rfl rfl 10 (by decide) k_21_13 (fun _ h9 => h9) rfl dX4_tally_71 ?_
    subst hAe
    rw [hQ]
    exact W.iret (v := v_u_guesses) hx hb hr (fun t ht hW => ⟨⟨v_u_guesses, _, rfl, rfl, by rw [ht]; exact hP, va_K.moved hW.alike hK, hD⟩, hS.F ht⟩) hS.2.2 dX4_tally_74
  · skip
    refine lv_tableIn (tgt := 75) (off := 74) hx hb dX4_tally_1 (by omega) (by omega) (by rw [c1]; rfl) (by decide) ?_
    refine lv_aload_n hx hb dX4_tally_75 rfl (lv_at hl 0 rfl) ?_
    refine va_get (D := D) (ci := 3) (v := .int v_u_right) (C := RX4) (T := TX4) (N := 13) hx hb hts hinX4 hown hK hP 12 rfl rfl 11 (by decide) k_21_14 (fun _ h9 => h9) rfl dX4_tally_76 ?_
    subst hAe
    rw [hQ]
    exact W.iret (v := v_u_right) hx hb hr (fun t ht hW => ⟨⟨v_u_right, _, rfl, rfl, by rw [ht]; exact hP, va_K.moved hW.alike hK, hD⟩, hS.F ht⟩) hS.2.2 dX4_tally_79
  · skip
    refine lv_tableIn (tgt := 80) (off := 79) hx hb dX4_tally_1 (by omega) (by omega) (by rw [c1]; rfl) (by decide) ?_
    refine lv_aload_n hx hb dX4_tally_80 rfl (lv_at hl 0 rfl) ?_
    refine va_get (D := D) (ci := 3) (v := .int v_u_taken) (C := RX4) (T := TX4) (N := 13) hx hb hts hinX4 hown hK hP 12 rfl rfl 12 (by decide) k_21_15 (fun _ h9 => h9) rfl dX4_tally_81 ?_
    subst hAe
    rw [hQ]
    exact W.iret (v := v_u_taken) hx hb hr (fun t ht hW => ⟨⟨v_u_taken, _, rfl, rfl, by rw [ht]; exact hP, va_K.moved hW.alike hK, hD⟩, hS.F ht⟩) hS.2.2 dX4_tally_84

def rmX4_marksKept : Room := { frames := 20, cells := 0, slots := 0, locals := 400 }
set_option maxHeartbeats 4000000 in
set_option maxRecDepth 100000 in
theorem tX4_marksKept {l : Launch} {D : va_G} {K : Nat → Nat → Nat} {cs : Nat → ClassId} {q : Nat → Nat} {v_t_tapeSize v_t_textSize v_t_faultKind v_g_size v_h_size v_r_takes v_r_negative v_r_namePlace v_r_faultKind v_r_faultPlace v_a_size v_a_limit v_a_digits v_a_kind v_a_from v_a_to v_o_size v_b_size v_b_limit v_b_digits v_b_kind v_b_from v_b_to v_u_marksMade v_u_came v_u_guesses v_u_right v_u_taken v_s_things v_s_looked v_s_lookedTooOften v_s_arraysMade v_s_cellsMade : Int32} {a_t_tape a_t_text a_o_out a_u_outcomes a_u_indexes a_s_classes a_s_starts a_s_lengths a_vc : Nat → Int32} {a_g_beyond a_h_beyond a_r_scratch a_r_now a_u_atom a_u_other a_u_hand : Nat} {a_g_steps a_h_steps a_u_vars a_u_marks : Nat → Option Nat} {a_s_cells a_vd a_sj : Nat → Int64} {a_L : List Nat} {a_K a_iv a_inn : Nat → Nat} {a_si a_ac : Nat → Nat → Int32} : CtI l yX4_marksKept (wG yX4_marksKept cX4_marksKept 1 (some .int)) rmX4_marksKept D (twT cs) K [.ref (q 12)] (tw cs q v_t_tapeSize v_t_textSize v_t_faultKind a_t_tape a_t_text a_g_beyond v_g_size a_g_steps a_h_beyond v_h_size a_h_steps a_r_scratch a_r_now v_r_takes v_r_negative v_r_namePlace v_r_faultKind v_r_faultPlace v_a_size v_a_limit v_a_digits v_a_kind v_a_from v_a_to v_o_size a_o_out v_b_size v_b_limit v_b_digits v_b_kind v_b_from v_b_to a_u_atom a_u_other a_u_hand v_u_marksMade v_u_came v_u_guesses v_u_right v_u_taken a_u_vars a_u_marks a_u_outcomes a_u_indexes v_s_things v_s_looked v_s_lookedTooOften v_s_arraysMade v_s_cellsMade a_s_classes a_s_starts a_s_lengths a_s_cells a_L a_K a_vc a_vd a_si a_sj a_iv a_inn a_ac) (fun r w1 => w1 = (tw cs q v_t_tapeSize v_t_textSize v_t_faultKind a_t_tape a_t_text a_g_beyond v_g_size a_g_steps a_h_beyond v_h_size a_h_steps a_r_scratch a_r_now v_r_takes v_r_negative v_r_namePlace v_r_faultKind v_r_faultPlace v_a_size v_a_limit v_a_digits v_a_kind v_a_from v_a_to v_o_size a_o_out v_b_size v_b_limit v_b_digits v_b_kind v_b_from v_b_to a_u_atom a_u_other a_u_hand v_u_marksMade v_u_came v_u_guesses v_u_right v_u_taken a_u_vars a_u_marks a_u_outcomes a_u_indexes v_s_things v_s_looked v_s_lookedTooOften v_s_arraysMade v_s_cellsMade a_s_classes a_s_starts a_s_lengths a_s_cells a_L a_K a_vc a_vd a_si a_sj a_iv a_inn a_ac) ∧ (r.toInt ≤ v_u_marksMade.toInt) ∧ (r.toInt ≤ 50)) 0 0 := by
  intro sz
  refine Met.ofW (cc := cX4_marksKept) (maxL := 1) (ret := (some .int)) (by decide) rfl ?_
  intro p e s m args below meth c s₁ B hml hv
  obtain ⟨rfl, hsz, hP, hK, hD0, hE⟩ := hv
  have hx := B.exec
  have hb := B.bytes
  have hr := B.returns
  have hts := atoms_spec (ws := (wG yX4_marksKept cX4_marksKept 1 (some .int))) B.pre
  have hown : s.vm.findClass RX4 = some m.cls := findClass_of_methodNamed B.named
  have hlocks := B.notSynchronized
  subst hsz
  have hD := hD0.self (sz := s.heap.size)
  obtain ⟨A, hAe⟩ : ∃ A : Nat → Prop, A = va_A (tw cs q v_t_tapeSize v_t_textSize v_t_faultKind a_t_tape a_t_text a_g_beyond v_g_size a_g_steps a_h_beyond v_h_size a_h_steps a_r_scratch a_r_now v_r_takes v_r_negative v_r_namePlace v_r_faultKind v_r_faultPlace v_a_size v_a_limit v_a_digits v_a_kind v_a_from v_a_to v_o_size a_o_out v_b_size v_b_limit v_b_digits v_b_kind v_b_from v_b_to a_u_atom a_u_other a_u_hand v_u_marksMade v_u_came v_u_guesses v_u_right v_u_taken a_u_vars a_u_marks a_u_outcomes a_u_indexes v_s_things v_s_looked v_s_lookedTooOften v_s_arraysMade v_s_cellsMade a_s_classes a_s_starts a_s_lengths a_s_cells a_L a_K a_vc a_vd a_si a_sj a_iv a_inn a_ac) s.heap.size := ⟨_, rfl⟩
  rw [← hAe] at hD hE
  have hA : ∀ q : Nat, s.heap.size ≤ q → A q := fun q h => by rw [hAe]; exact Or.inr h
  have hS : va_S A s.heap s.heap [] := va_S.rf
  have hl := lv_entry ([.ref (q 12)]) (n := 1) (Nat.le_of_ble_eq_true rfl)
  rw [lg_entry_eq]
  generalize (lg_sl ([.ref (q 12)]) ++ List.replicate (1 - (lg_sl ([.ref (q 12)])).length) Slot.unset).toArray = ls at hl ⊢
  have hl : lv_has ls 1 [(0, .ref (q 12))] := hl
  refine wq (fun Q hQ => ?_)
  have hinX4 : ∀ w ∈ wsX40, w ∈ (wG yX4_marksKept cX4_marksKept 1 (some .int)) := fun w h => List.mem_cons_of_mem _ (inlX4 w h)
  have kc0 : (50 : Int32).toInt = 50 := by decide
  have k_21_11 := hts (.fieldLink RX4 58 "ArrayTrainer$Runner" "marksMade" "I") (List.mem_cons_of_mem _ (wr21 _ (List.mem_of_getElem? (i := 11) rfl)))
  have k_56_4 := hts (.methodLink RX4 102 Lib.Math.min.name) (List.mem_cons_of_mem _ (wr56 _ (List.mem_of_getElem? (i := 4) rfl)))
  have k_9_8 := hts (.static Lib.Math.min.name) (List.mem_cons_of_mem _ (wr9 _ (List.mem_of_getElem? (i := 8) rfl)))
  have k_9_9 := hts (.initialized "java/lang/Math") (List.mem_cons_of_mem _ (wr9 _ (List.mem_of_getElem? (i := 9) rfl)))
  have k_9_10 := hts (.code Lib.Math.min.name Lib.Math.min.code 2 (some .int)) (List.mem_cons_of_mem _ (wr9 _ (List.mem_of_getElem? (i := 10) rfl)))
  obtain ⟨H, hH⟩ : ∃ H : Heap, H = s.heap := ⟨_, rfl⟩
  obtain ⟨locs, hlc⟩ : ∃ L : List Loc, L = [] := ⟨_, rfl⟩
  have hP : va_P D vwCl (tw cs q v_t_tapeSize v_t_textSize v_t_faultKind a_t_tape a_t_text a_g_beyond v_g_size a_g_steps a_h_beyond v_h_size a_h_steps a_r_scratch a_r_now v_r_takes v_r_negative v_r_namePlace v_r_faultKind v_r_faultPlace v_a_size v_a_limit v_a_digits v_a_kind v_a_from v_a_to v_o_size a_o_out v_b_size v_b_limit v_b_digits v_b_kind v_b_from v_b_to a_u_atom a_u_other a_u_hand v_u_marksMade v_u_came v_u_guesses v_u_right v_u_taken a_u_vars a_u_marks a_u_outcomes a_u_indexes v_s_things v_s_looked v_s_lookedTooOften v_s_arraysMade v_s_cellsMade a_s_classes a_s_starts a_s_lengths a_s_cells a_L a_K a_vc a_vd a_si a_sj a_iv a_inn a_ac) H := by rw [hH]; exact hP
  have hS : va_S A s.heap H locs := by rw [hH, hlc]; exact hS
  refine wHL hH hlc ?_
  refine lv_aload_n hx hb dX4_marksKept_0 rfl (lv_at hl 0 rfl) ?_
  refine va_get (D := D) (ci := 3) (v := .int v_u_marksMade) (C := RX4) (T := TX4) (N := 13) hx hb hts hinX4 hown hK hP 12 rfl rfl 8 (by decide) k_21_11 (fun _ h9 => h9) rfl dX4_marksKept_1 ?_
  refine lv_bipush (v := 50) hx hb dX4_marksKept_4 (by decide) ?_
  refine m_mmin (X := v_u_marksMade.toInt) (Y := 50) hx hb (by rw [hml]; exact hl.1.symm) hown k_56_4 k_9_8 k_9_9 k_9_10 (Nat.le_of_ble_eq_true rfl) (Nat.le_of_ble_eq_true rfl) (Nat.le_of_ble_eq_true rfl) (Nat.le_of_ble_eq_true rfl) rfl (by decide) dX4_marksKept_6 (fun x6 g_x6 => ?_)
  have b_x6 := iB x6
  subst hAe
  rw [hQ]
  exact W.iret (v := x6) hx hb hr (fun t ht hW => ⟨⟨x6, _, rfl, ⟨rfl, by first | assumption | omega | (intros; omega) | decide, by first | assumption | omega | (intros; omega) | decide⟩, by rw [ht]; exact hP, va_K.moved hW.alike hK, hD⟩, hS.F ht⟩) hS.2.2 dX4_marksKept_9

def rmX4_markAt : Room := { frames := 20, cells := 0, slots := 0, locals := 400 }
set_option maxHeartbeats 4000000 in
set_option maxRecDepth 100000 in
theorem tX4_markAt {l : Launch} {D : va_G} {K : Nat → Nat → Nat} {cs : Nat → ClassId} {q : Nat → Nat} {v_t_tapeSize v_t_textSize v_t_faultKind v_g_size v_h_size v_r_takes v_r_negative v_r_namePlace v_r_faultKind v_r_faultPlace v_a_size v_a_limit v_a_digits v_a_kind v_a_from v_a_to v_o_size v_b_size v_b_limit v_b_digits v_b_kind v_b_from v_b_to v_u_marksMade v_u_came v_u_guesses v_u_right v_u_taken v_s_things v_s_looked v_s_lookedTooOften v_s_arraysMade v_s_cellsMade : Int32} {a_t_tape a_t_text a_o_out a_u_outcomes a_u_indexes a_s_classes a_s_starts a_s_lengths a_vc : Nat → Int32} {a_g_beyond a_h_beyond a_r_scratch a_r_now a_u_atom a_u_other a_u_hand : Nat} {a_g_steps a_h_steps a_u_vars a_u_marks : Nat → Option Nat} {a_s_cells a_vd a_sj : Nat → Int64} {a_L : List Nat} {a_K a_iv a_inn : Nat → Nat} {a_si a_ac : Nat → Nat → Int32} (k9 : Int32) (p_0 : RF a_L a_K a_g_beyond a_h_beyond a_r_scratch a_g_steps a_h_steps a_u_atom a_u_other a_u_hand a_u_vars a_u_marks) : CtR l yX4_markAt (wG yX4_markAt cX4_markAt 2 (some (.object "ArrayTrainer$Value"))) rmX4_markAt D (twT cs) K [.ref (q 12), .int k9] (tw cs q v_t_tapeSize v_t_textSize v_t_faultKind a_t_tape a_t_text a_g_beyond v_g_size a_g_steps a_h_beyond v_h_size a_h_steps a_r_scratch a_r_now v_r_takes v_r_negative v_r_namePlace v_r_faultKind v_r_faultPlace v_a_size v_a_limit v_a_digits v_a_kind v_a_from v_a_to v_o_size a_o_out v_b_size v_b_limit v_b_digits v_b_kind v_b_from v_b_to a_u_atom a_u_other a_u_hand v_u_marksMade v_u_came v_u_guesses v_u_right v_u_taken a_u_vars a_u_marks a_u_outcomes a_u_indexes v_s_things v_s_looked v_s_lookedTooOften v_s_arraysMade v_s_cellsMade a_s_classes a_s_starts a_s_lengths a_s_cells a_L a_K a_vc a_vd a_si a_sj a_iv a_inn a_ac) (fun r w1 => w1 = (tw cs q v_t_tapeSize v_t_textSize v_t_faultKind a_t_tape a_t_text a_g_beyond v_g_size a_g_steps a_h_beyond v_h_size a_h_steps a_r_scratch a_r_now v_r_takes v_r_negative v_r_namePlace v_r_faultKind v_r_faultPlace v_a_size v_a_limit v_a_digits v_a_kind v_a_from v_a_to v_o_size a_o_out v_b_size v_b_limit v_b_digits v_b_kind v_b_from v_b_to a_u_atom a_u_other a_u_hand v_u_marksMade v_u_came v_u_guesses v_u_right v_u_taken a_u_vars a_u_marks a_u_outcomes a_u_indexes v_s_things v_s_looked v_s_lookedTooOften v_s_arraysMade v_s_cellsMade a_s_classes a_s_starts a_s_lengths a_s_cells a_L a_K a_vc a_vd a_si a_sj a_iv a_inn a_ac) ∧ (aV a_L a_K r)) 0 0 := by
  intro sz
  refine Met.ofW (cc := cX4_markAt) (maxL := 2) (ret := (some (.object "ArrayTrainer$Value"))) (by decide) rfl ?_
  intro p e s m args below meth c s₁ B hml hv
  obtain ⟨rfl, hsz, hP, hK, hD0, hE⟩ := hv
  have hx := B.exec
  have hb := B.bytes
  have hr := B.returns
  have hts := atoms_spec (ws := (wG yX4_markAt cX4_markAt 2 (some (.object "ArrayTrainer$Value")))) B.pre
  have hown : s.vm.findClass RX4 = some m.cls := findClass_of_methodNamed B.named
  have hlocks := B.notSynchronized
  subst hsz
  have hD := hD0.self (sz := s.heap.size)
  obtain ⟨A, hAe⟩ : ∃ A : Nat → Prop, A = va_A (tw cs q v_t_tapeSize v_t_textSize v_t_faultKind a_t_tape a_t_text a_g_beyond v_g_size a_g_steps a_h_beyond v_h_size a_h_steps a_r_scratch a_r_now v_r_takes v_r_negative v_r_namePlace v_r_faultKind v_r_faultPlace v_a_size v_a_limit v_a_digits v_a_kind v_a_from v_a_to v_o_size a_o_out v_b_size v_b_limit v_b_digits v_b_kind v_b_from v_b_to a_u_atom a_u_other a_u_hand v_u_marksMade v_u_came v_u_guesses v_u_right v_u_taken a_u_vars a_u_marks a_u_outcomes a_u_indexes v_s_things v_s_looked v_s_lookedTooOften v_s_arraysMade v_s_cellsMade a_s_classes a_s_starts a_s_lengths a_s_cells a_L a_K a_vc a_vd a_si a_sj a_iv a_inn a_ac) s.heap.size := ⟨_, rfl⟩
  rw [← hAe] at hD hE
  have hA : ∀ q : Nat, s.heap.size ≤ q → A q := fun q h => by rw [hAe]; exact Or.inr h
  have hS : va_S A s.heap s.heap [] := va_S.rf
  have hl := lv_entry ([.ref (q 12), .int k9]) (n := 2) (Nat.le_of_ble_eq_true rfl)
  rw [lg_entry_eq]
  generalize (lg_sl ([.ref (q 12), .int k9]) ++ List.replicate (2 - (lg_sl ([.ref (q 12), .int k9])).length) Slot.unset).toArray = ls at hl ⊢
  have hl : lv_has ls 2 [(0, .ref (q 12)), (1, .int k9)] := hl
  refine wq (fun Q hQ => ?_)
  have hinX4 : ∀ w ∈ wsX40, w ∈ (wG yX4_markAt cX4_markAt 2 (some (.object "ArrayTrainer$Value"))) := fun w h => List.mem_cons_of_mem _ (inlX4 w h)
  have kc0 : (50 : Int32).toInt = 50 := by decide
  have k_4_13 := hts (.fieldLink RX4 41 "ArrayTrainer$Runner" "other" "LArrayTrainer$Value;") (List.mem_cons_of_mem _ (wr4 _ (List.mem_of_getElem? (i := 13) rfl)))
  have k_4_7 := hts (.fieldLink RX4 24 "ArrayTrainer$Runner" "marks" "[LArrayTrainer$Value;") (List.mem_cons_of_mem _ (wr4 _ (List.mem_of_getElem? (i := 7) rfl)))
  obtain ⟨H, hH⟩ : ∃ H : Heap, H = s.heap := ⟨_, rfl⟩
  obtain ⟨locs, hlc⟩ : ∃ L : List Loc, L = [] := ⟨_, rfl⟩
  have hP : va_P D vwCl (tw cs q v_t_tapeSize v_t_textSize v_t_faultKind a_t_tape a_t_text a_g_beyond v_g_size a_g_steps a_h_beyond v_h_size a_h_steps a_r_scratch a_r_now v_r_takes v_r_negative v_r_namePlace v_r_faultKind v_r_faultPlace v_a_size v_a_limit v_a_digits v_a_kind v_a_from v_a_to v_o_size a_o_out v_b_size v_b_limit v_b_digits v_b_kind v_b_from v_b_to a_u_atom a_u_other a_u_hand v_u_marksMade v_u_came v_u_guesses v_u_right v_u_taken a_u_vars a_u_marks a_u_outcomes a_u_indexes v_s_things v_s_looked v_s_lookedTooOften v_s_arraysMade v_s_cellsMade a_s_classes a_s_starts a_s_lengths a_s_cells a_L a_K a_vc a_vd a_si a_sj a_iv a_inn a_ac) H := by rw [hH]; exact hP
  have hS : va_S A s.heap H locs := by rw [hH, hlc]; exact hS
  refine wHL hH hlc ?_
  have b_k9 := iB k9
  refine lv_iload_n hx hb dX4_markAt_0 rfl (lv_at hl 1 rfl) ?_
  refine m_if_lt (X := k9.toInt) (tgt := 19) hx hb dX4_markAt_1 (by decide) rfl (fun c1 => ?_) (fun c1 => ?_)
  · skip
    refine lv_aload_n hx hb dX4_markAt_19 rfl (lv_at hl 0 rfl) ?_
    have hf20 : aV a_L a_K a_u_other := by first | assumption | exact RF.z_uO (by assumption)
    refine va_get (D := D) (ci := 3) (v := .ref a_u_other) (C := RX4) (T := TX4) (N := 13) hx hb hts hinX4 hown hK hP 12 rfl rfl 6 (by decide) k_4_13 (fun _ h9 => h9) rfl dX4_markAt_20 ?_
    subst hAe
    rw [hQ]
    exact W.aret (v := .ref a_u_other) hx hb hr (Or.inl ⟨_, rfl⟩) (Or.inr ⟨_, rfl⟩) (fun t ht hW => ⟨⟨_, _, rfl, trivial, ⟨⟨rfl, by first | assumption | omega | (intros; omega) | decide⟩, by rw [ht]; exact hP, va_K.moved hW.alike hK, hD⟩⟩, hS.F ht⟩) hS.2.2 dX4_markAt_23
  · skip
    refine lv_iload_n hx hb dX4_markAt_4 rfl (lv_at hl 1 rfl) ?_
    refine lv_bipush (v := 50) hx hb dX4_markAt_5 (by decide) ?_
    refine m_icmp_ge (X := k9.toInt) (Y := 50) (tgt := 19) hx hb dX4_markAt_7 (by decide) rfl (by decide) (fun c7 => ?_) (fun c7 => ?_)
    · skip
      refine lv_aload_n hx hb dX4_markAt_19 rfl (lv_at hl 0 rfl) ?_
      have hf20 : aV a_L a_K a_u_other := by first | assumption | exact RF.z_uO (by assumption)
      refine va_get (D := D) (ci := 3) (v := .ref a_u_other) (C := RX4) (T := TX4) (N := 13) hx hb hts hinX4 hown hK hP 12 rfl rfl 6 (by decide) k_4_13 (fun _ h9 => h9) rfl dX4_markAt_20 ?_
      subst hAe
      rw [hQ]
      exact W.aret (v := .ref a_u_other) hx hb hr (Or.inl ⟨_, rfl⟩) (Or.inr ⟨_, rfl⟩) (fun t ht hW => ⟨⟨_, _, rfl, trivial, ⟨⟨rfl, by first | assumption | omega | (intros; omega) | decide⟩, by rw [ht]; exact hP, va_K.moved hW.alike hK, hD⟩⟩, hS.F ht⟩) hS.2.2 dX4_markAt_23
    · skip
      refine lv_aload_n hx hb dX4_markAt_10 rfl (lv_at hl 0 rfl) ?_
      refine va_get (D := D) (ci := 3) (v := .ref (q 14)) (C := RX4) (T := TX4) (N := 13) hx hb hts hinX4 hown hK hP 12 rfl rfl 2 (by decide) k_4_7 (fun _ h9 => h9) rfl dX4_markAt_11 ?_
      refine lv_iload_n hx hb dX4_markAt_14 rfl (lv_at hl 1 rfl) ?_
      obtain ⟨x15, e_x15, h_x15⟩ := RF.z_ms (by assumption) k9.toNatClampNeg (by have t9 := tn (i := k9) (by omega); omega)
      refine m_aldq hx hb hK hP 14 3 rfl rfl (ix (by omega) (by omega)) e_x15 dX4_markAt_15 ?_
      refine lv_goto (tgt := 23) hx hb dX4_markAt_16 (by decide) ?_
      subst hAe
      rw [hQ]
      exact W.aret (v := .ref x15) hx hb hr (Or.inl ⟨_, rfl⟩) (Or.inr ⟨_, rfl⟩) (fun t ht hW => ⟨⟨_, _, rfl, trivial, ⟨⟨rfl, by first | assumption | omega | (intros; omega) | decide⟩, by rw [ht]; exact hP, va_K.moved hW.alike hK, hD⟩⟩, hS.F ht⟩) hS.2.2 dX4_markAt_23

def rmX4_tell : Room := { frames := 40, cells := 0, slots := 0, locals := 800 }
set_option maxHeartbeats 4000000 in
set_option maxRecDepth 100000 in
theorem tX4_tell {l : Launch} {D : va_G} {K : Nat → Nat → Nat} {cs : Nat → ClassId} {q : Nat → Nat} {v_t_tapeSize v_t_textSize v_t_faultKind v_g_size v_h_size v_r_takes v_r_negative v_r_namePlace v_r_faultKind v_r_faultPlace v_a_size v_a_limit v_a_digits v_a_kind v_a_from v_a_to v_o_size v_b_size v_b_limit v_b_digits v_b_kind v_b_from v_b_to v_u_marksMade v_u_came v_u_guesses v_u_right v_u_taken v_s_things v_s_looked v_s_lookedTooOften v_s_arraysMade v_s_cellsMade : Int32} {a_t_tape a_t_text a_o_out a_u_outcomes a_u_indexes a_s_classes a_s_starts a_s_lengths a_vc : Nat → Int32} {a_g_beyond a_h_beyond a_r_scratch a_r_now a_u_atom a_u_other a_u_hand : Nat} {a_g_steps a_h_steps a_u_vars a_u_marks : Nat → Option Nat} {a_s_cells a_vd a_sj : Nat → Int64} {a_L : List Nat} {a_K a_iv a_inn : Nat → Nat} {a_si a_ac : Nat → Nat → Int32} (s9 : Nat) (h_s9 : aS a_L a_K s9) (g9 : Int32) (d9 : Int64) (p_0 : RF a_L a_K a_g_beyond a_h_beyond a_r_scratch a_g_steps a_h_steps a_u_atom a_u_other a_u_hand a_u_vars a_u_marks) : CtI l yX4_tell (wG yX4_tell cX4_tell 5 (some .int)) rmX4_tell D (twT cs) K [.ref (q 12), .ref s9, .int g9, .long d9] (tw cs q v_t_tapeSize v_t_textSize v_t_faultKind a_t_tape a_t_text a_g_beyond v_g_size a_g_steps a_h_beyond v_h_size a_h_steps a_r_scratch a_r_now v_r_takes v_r_negative v_r_namePlace v_r_faultKind v_r_faultPlace v_a_size v_a_limit v_a_digits v_a_kind v_a_from v_a_to v_o_size a_o_out v_b_size v_b_limit v_b_digits v_b_kind v_b_from v_b_to a_u_atom a_u_other a_u_hand v_u_marksMade v_u_came v_u_guesses v_u_right v_u_taken a_u_vars a_u_marks a_u_outcomes a_u_indexes v_s_things v_s_looked v_s_lookedTooOften v_s_arraysMade v_s_cellsMade a_s_classes a_s_starts a_s_lengths a_s_cells a_L a_K a_vc a_vd a_si a_sj a_iv a_inn a_ac) (fun r w1 => ∃ (a_vc' : Nat → Int32) (a_vd' : Nat → Int64), w1 = (tw cs q v_t_tapeSize v_t_textSize v_t_faultKind a_t_tape a_t_text a_g_beyond v_g_size a_g_steps a_h_beyond v_h_size a_h_steps a_r_scratch a_r_now v_r_takes v_r_negative v_r_namePlace v_r_faultKind v_r_faultPlace v_a_size v_a_limit v_a_digits v_a_kind v_a_from v_a_to v_o_size a_o_out v_b_size v_b_limit v_b_digits v_b_kind v_b_from v_b_to a_u_atom a_u_other a_u_hand v_u_marksMade v_u_came v_u_guesses v_u_right v_u_taken a_u_vars a_u_marks a_u_outcomes a_u_indexes v_s_things v_s_looked v_s_lookedTooOften v_s_arraysMade v_s_cellsMade a_s_classes a_s_starts a_s_lengths a_s_cells a_L a_K a_vc' a_vd' a_si a_sj a_iv a_inn a_ac) ∧ (r.toInt = 0)) 0 0 := by
  intro sz
  refine Met.ofW (cc := cX4_tell) (maxL := 5) (ret := (some .int)) (by decide) rfl ?_
  intro p e s m args below meth c s₁ B hml hv
  obtain ⟨rfl, hsz, hP, hK, hD0, hE⟩ := hv
  have hx := B.exec
  have hb := B.bytes
  have hr := B.returns
  have hts := atoms_spec (ws := (wG yX4_tell cX4_tell 5 (some .int))) B.pre
  have hown : s.vm.findClass RX4 = some m.cls := findClass_of_methodNamed B.named
  have hlocks := B.notSynchronized
  subst hsz
  have hD := hD0.self (sz := s.heap.size)
  obtain ⟨A, hAe⟩ : ∃ A : Nat → Prop, A = va_A (tw cs q v_t_tapeSize v_t_textSize v_t_faultKind a_t_tape a_t_text a_g_beyond v_g_size a_g_steps a_h_beyond v_h_size a_h_steps a_r_scratch a_r_now v_r_takes v_r_negative v_r_namePlace v_r_faultKind v_r_faultPlace v_a_size v_a_limit v_a_digits v_a_kind v_a_from v_a_to v_o_size a_o_out v_b_size v_b_limit v_b_digits v_b_kind v_b_from v_b_to a_u_atom a_u_other a_u_hand v_u_marksMade v_u_came v_u_guesses v_u_right v_u_taken a_u_vars a_u_marks a_u_outcomes a_u_indexes v_s_things v_s_looked v_s_lookedTooOften v_s_arraysMade v_s_cellsMade a_s_classes a_s_starts a_s_lengths a_s_cells a_L a_K a_vc a_vd a_si a_sj a_iv a_inn a_ac) s.heap.size := ⟨_, rfl⟩
  rw [← hAe] at hD hE
  have hA : ∀ q : Nat, s.heap.size ≤ q → A q := fun q h => by rw [hAe]; exact Or.inr h
  have hS : va_S A s.heap s.heap [] := va_S.rf
  have hl := lv_entry ([.ref (q 12), .ref s9, .int g9, .long d9]) (n := 5) (Nat.le_of_ble_eq_true rfl)
  rw [lg_entry_eq]
  generalize (lg_sl ([.ref (q 12), .ref s9, .int g9, .long d9]) ++ List.replicate (5 - (lg_sl ([.ref (q 12), .ref s9, .int g9, .long d9])).length) Slot.unset).toArray = ls at hl ⊢
  have hl : lv_has ls 5 [(0, .ref (q 12)), (1, .ref s9), (2, .int g9), (3, .long d9)] := hl
  refine wq (fun Q hQ => ?_)
  have hinX6 : ∀ w ∈ wsX60, w ∈ (wG yX4_tell cX4_tell 5 (some .int)) := fun w h => List.mem_cons_of_mem _ (inlX6 w h)
  have kc0 : (0 : Int32).toInt = 0 := by decide
  have k_37_14 := hts (.fieldLink RX4 213 "ArrayTrainer$Step" "target" "I") (List.mem_cons_of_mem _ (wr37 _ (List.mem_of_getElem? (i := 14) rfl)))
  obtain ⟨H, hH⟩ : ∃ H : Heap, H = s.heap := ⟨_, rfl⟩
  obtain ⟨locs, hlc⟩ : ∃ L : List Loc, L = [] := ⟨_, rfl⟩
  have hP : va_P D vwCl (tw cs q v_t_tapeSize v_t_textSize v_t_faultKind a_t_tape a_t_text a_g_beyond v_g_size a_g_steps a_h_beyond v_h_size a_h_steps a_r_scratch a_r_now v_r_takes v_r_negative v_r_namePlace v_r_faultKind v_r_faultPlace v_a_size v_a_limit v_a_digits v_a_kind v_a_from v_a_to v_o_size a_o_out v_b_size v_b_limit v_b_digits v_b_kind v_b_from v_b_to a_u_atom a_u_other a_u_hand v_u_marksMade v_u_came v_u_guesses v_u_right v_u_taken a_u_vars a_u_marks a_u_outcomes a_u_indexes v_s_things v_s_looked v_s_lookedTooOften v_s_arraysMade v_s_cellsMade a_s_classes a_s_starts a_s_lengths a_s_cells a_L a_K a_vc a_vd a_si a_sj a_iv a_inn a_ac) H := by rw [hH]; exact hP
  have hS : va_S A s.heap H locs := by rw [hH, hlc]; exact hS
  refine wHL hH hlc ?_
  have b_g9 := iB g9
  have b_d9 := jB d9
  refine lv_aload_n hx hb dX4_tell_0 rfl (lv_at hl 0 rfl) ?_
  refine lv_aload_n hx hb dX4_tell_1 rfl (lv_at hl 1 rfl) ?_
  obtain ⟨k2_, hk2_⟩ := pl_S (X := (twX cs q v_t_tapeSize v_t_textSize v_t_faultKind a_t_tape a_t_text a_g_beyond v_g_size a_g_steps a_h_beyond v_h_size a_h_steps a_r_scratch a_r_now v_r_takes v_r_negative v_r_namePlace v_r_faultKind v_r_faultPlace v_a_size v_a_limit v_a_digits v_a_kind v_a_from v_a_to v_o_size a_o_out v_b_size v_b_limit v_b_digits v_b_kind v_b_from v_b_to a_u_atom a_u_other a_u_hand v_u_marksMade v_u_came v_u_guesses v_u_right v_u_taken a_u_vars a_u_marks a_u_outcomes a_u_indexes v_s_things v_s_looked v_s_lookedTooOften v_s_arraysMade v_s_cellsMade a_s_classes a_s_starts a_s_lengths a_s_cells)) (cI := cs 0) (vc := a_vc) (vd := a_vd) (si := a_si) (sj := a_sj) (iv := a_iv) (inn := a_inn) (ac := a_ac) h_s9
  refine va_get (D := D) (ci := 5) (v := .int (a_si s9 4)) (C := RX6) (T := TX6) (N := 15) hx hb hts hinX6 hown hK hP k2_ hk2_ rfl 4 (by decide) k_37_14 (fun _ h9 => h9) rfl dX4_tell_2 ?_
  refine lv_topi (fun x2 e_x2 => ?_)
  have b_x2 := iB x2
  refine call_r (As := [.int x2]) (rest := []) ⟨hx, hb, hml, hown, hts⟩ (tX4_variable (l := l) x2 (by first | assumption | omega | (intros; omega) | decide)) (cwV 1 hts (gV (wr21 _ (List.mem_of_getElem? (i := 22) rfl)) (wr21 _ (List.mem_of_getElem? (i := 23) rfl)) (wr22 _ (List.mem_of_getElem? (i := 0) rfl)) (wr2 _ (List.mem_of_getElem? (i := 10) rfl)) (wr22 _ (List.mem_of_getElem? (i := 1) rfl))) rfl rfl rfl (by decide +kernel) ⟨Nat.le_of_ble_eq_true rfl, Nat.le_of_ble_eq_true rfl⟩) (va_recv hK hP (ci := 3) (q0 := 12) rfl rfl) hK hP hD hE hS hA rfl hl.1 rfl (Nat.le_of_ble_eq_true rfl) dX4_tell_5 ⟨Nat.le_of_ble_eq_true rfl, Nat.le_of_ble_eq_true rfl⟩ (fun r5 w9 H locs hw5 hP hD hS => ?_)
  obtain ⟨rfl, hw5_0⟩ := hw5
  refine lv_iload_n hx hb dX4_tell_8 rfl (lv_at hl 2 rfl) ?_
  refine lv_lload_n hx hb dX4_tell_9 rfl (lv_at hl 3 rfl) ?_
  obtain ⟨k10_, hk10_⟩ := pl_V (X := (twX cs q v_t_tapeSize v_t_textSize v_t_faultKind a_t_tape a_t_text a_g_beyond v_g_size a_g_steps a_h_beyond v_h_size a_h_steps a_r_scratch a_r_now v_r_takes v_r_negative v_r_namePlace v_r_faultKind v_r_faultPlace v_a_size v_a_limit v_a_digits v_a_kind v_a_from v_a_to v_o_size a_o_out v_b_size v_b_limit v_b_digits v_b_kind v_b_from v_b_to a_u_atom a_u_other a_u_hand v_u_marksMade v_u_came v_u_guesses v_u_right v_u_taken a_u_vars a_u_marks a_u_outcomes a_u_indexes v_s_things v_s_looked v_s_lookedTooOften v_s_arraysMade v_s_cellsMade a_s_classes a_s_starts a_s_lengths a_s_cells)) (cI := cs 0) (vc := a_vc) (vd := a_vd) (si := a_si) (sj := a_sj) (iv := a_iv) (inn := a_inn) (ac := a_ac) hw5_0
  refine call_v (As := [.int g9, .long d9]) (rest := []) ⟨hx, hb, hml, hown, hts⟩ (tX8_become (l := l) r5 hw5_0 g9 d9) (cwV 2 hts (gV (wr22 _ (List.mem_of_getElem? (i := 2) rfl)) (wr22 _ (List.mem_of_getElem? (i := 3) rfl)) (wr22 _ (List.mem_of_getElem? (i := 4) rfl)) (wr4 _ (List.mem_of_getElem? (i := 11) rfl)) (wr22 _ (List.mem_of_getElem? (i := 5) rfl))) rfl rfl rfl (by decide +kernel) ⟨Nat.le_of_ble_eq_true rfl, Nat.le_of_ble_eq_true rfl⟩) (va_recv hK hP (ci := 7) (q0 := k10_) rfl hk10_) hK hP hD hE hS hA rfl hl.1 rfl (Nat.le_of_ble_eq_true rfl) dX4_tell_10 ⟨Nat.le_of_ble_eq_true rfl, Nat.le_of_ble_eq_true rfl⟩ (fun w9 H locs hw10 hP hD hS => ?_)
  obtain ⟨a_vc_10, a_vd_10, rfl⟩ := hw10
  refine lv_iconst (v := 0) hx hb dX4_tell_13 (by decide) ?_
  subst hAe
  rw [hQ]
  exact W.iret (v := 0) hx hb hr (fun t ht hW => ⟨⟨0, _, rfl, ⟨a_vc_10, a_vd_10, rfl, by first | assumption | omega | (intros; omega) | decide⟩, by rw [ht]; exact hP, va_K.moved hW.alike hK, hD⟩, hS.F ht⟩) hS.2.2 dX4_tell_14

def rmX4_tellTruth : Room := { frames := 60, cells := 0, slots := 0, locals := 1200 }
set_option maxHeartbeats 4000000 in
set_option maxRecDepth 100000 in
theorem tX4_tellTruth {l : Launch} {D : va_G} {K : Nat → Nat → Nat} {cs : Nat → ClassId} {q : Nat → Nat} {v_t_tapeSize v_t_textSize v_t_faultKind v_g_size v_h_size v_r_takes v_r_negative v_r_namePlace v_r_faultKind v_r_faultPlace v_a_size v_a_limit v_a_digits v_a_kind v_a_from v_a_to v_o_size v_b_size v_b_limit v_b_digits v_b_kind v_b_from v_b_to v_u_marksMade v_u_came v_u_guesses v_u_right v_u_taken v_s_things v_s_looked v_s_lookedTooOften v_s_arraysMade v_s_cellsMade : Int32} {a_t_tape a_t_text a_o_out a_u_outcomes a_u_indexes a_s_classes a_s_starts a_s_lengths a_vc : Nat → Int32} {a_g_beyond a_h_beyond a_r_scratch a_r_now a_u_atom a_u_other a_u_hand : Nat} {a_g_steps a_h_steps a_u_vars a_u_marks : Nat → Option Nat} {a_s_cells a_vd a_sj : Nat → Int64} {a_L : List Nat} {a_K a_iv a_inn : Nat → Nat} {a_si a_ac : Nat → Nat → Int32} (s9 : Nat) (h_s9 : aS a_L a_K s9) (z9 : Int32) (p_0 : RF a_L a_K a_g_beyond a_h_beyond a_r_scratch a_g_steps a_h_steps a_u_atom a_u_other a_u_hand a_u_vars a_u_marks) : CtI l yX4_tellTruth (wG yX4_tellTruth cX4_tellTruth 3 (some .int)) rmX4_tellTruth D (twT cs) K [.ref (q 12), .ref s9, .int z9] (tw cs q v_t_tapeSize v_t_textSize v_t_faultKind a_t_tape a_t_text a_g_beyond v_g_size a_g_steps a_h_beyond v_h_size a_h_steps a_r_scratch a_r_now v_r_takes v_r_negative v_r_namePlace v_r_faultKind v_r_faultPlace v_a_size v_a_limit v_a_digits v_a_kind v_a_from v_a_to v_o_size a_o_out v_b_size v_b_limit v_b_digits v_b_kind v_b_from v_b_to a_u_atom a_u_other a_u_hand v_u_marksMade v_u_came v_u_guesses v_u_right v_u_taken a_u_vars a_u_marks a_u_outcomes a_u_indexes v_s_things v_s_looked v_s_lookedTooOften v_s_arraysMade v_s_cellsMade a_s_classes a_s_starts a_s_lengths a_s_cells a_L a_K a_vc a_vd a_si a_sj a_iv a_inn a_ac) (fun r w1 => ∃ (a_vc' : Nat → Int32) (a_vd' : Nat → Int64), w1 = (tw cs q v_t_tapeSize v_t_textSize v_t_faultKind a_t_tape a_t_text a_g_beyond v_g_size a_g_steps a_h_beyond v_h_size a_h_steps a_r_scratch a_r_now v_r_takes v_r_negative v_r_namePlace v_r_faultKind v_r_faultPlace v_a_size v_a_limit v_a_digits v_a_kind v_a_from v_a_to v_o_size a_o_out v_b_size v_b_limit v_b_digits v_b_kind v_b_from v_b_to a_u_atom a_u_other a_u_hand v_u_marksMade v_u_came v_u_guesses v_u_right v_u_taken a_u_vars a_u_marks a_u_outcomes a_u_indexes v_s_things v_s_looked v_s_lookedTooOften v_s_arraysMade v_s_cellsMade a_s_classes a_s_starts a_s_lengths a_s_cells a_L a_K a_vc' a_vd' a_si a_sj a_iv a_inn a_ac) ∧ (r.toInt = 0)) 0 0 := by
  intro sz
  refine Met.ofW (cc := cX4_tellTruth) (maxL := 3) (ret := (some .int)) (by decide) rfl ?_
  intro p e s m args below meth c s₁ B hml hv
  obtain ⟨rfl, hsz, hP, hK, hD0, hE⟩ := hv
  have hx := B.exec
  have hb := B.bytes
  have hr := B.returns
  have hts := atoms_spec (ws := (wG yX4_tellTruth cX4_tellTruth 3 (some .int))) B.pre
  have hown : s.vm.findClass RX4 = some m.cls := findClass_of_methodNamed B.named
  have hlocks := B.notSynchronized
  subst hsz
  have hD := hD0.self (sz := s.heap.size)
  obtain ⟨A, hAe⟩ : ∃ A : Nat → Prop, A = va_A (tw cs q v_t_tapeSize v_t_textSize v_t_faultKind a_t_tape a_t_text a_g_beyond v_g_size a_g_steps a_h_beyond v_h_size a_h_steps a_r_scratch a_r_now v_r_takes v_r_negative v_r_namePlace v_r_faultKind v_r_faultPlace v_a_size v_a_limit v_a_digits v_a_kind v_a_from v_a_to v_o_size a_o_out v_b_size v_b_limit v_b_digits v_b_kind v_b_from v_b_to a_u_atom a_u_other a_u_hand v_u_marksMade v_u_came v_u_guesses v_u_right v_u_taken a_u_vars a_u_marks a_u_outcomes a_u_indexes v_s_things v_s_looked v_s_lookedTooOften v_s_arraysMade v_s_cellsMade a_s_classes a_s_starts a_s_lengths a_s_cells a_L a_K a_vc a_vd a_si a_sj a_iv a_inn a_ac) s.heap.size := ⟨_, rfl⟩
  rw [← hAe] at hD hE
  have hA : ∀ q : Nat, s.heap.size ≤ q → A q := fun q h => by rw [hAe]; exact Or.inr h
  have hS : va_S A s.heap s.heap [] := va_S.rf
  have hl := lv_entry ([.ref (q 12), .ref s9, .int z9]) (n := 3) (Nat.le_of_ble_eq_true rfl)
  rw [lg_entry_eq]
  generalize (lg_sl ([.ref (q 12), .ref s9, .int z9]) ++ List.replicate (3 - (lg_sl ([.ref (q 12), .ref s9, .int z9])).length) Slot.unset).toArray = ls at hl ⊢
  have hl : lv_has ls 3 [(0, .ref (q 12)), (1, .ref s9), (2, .int z9)] := hl
  refine wq (fun Q hQ => ?_)
  have kc0 : (0 : Int32).toInt = 0 := by decide
  have kc1 : (0 : Int64).toInt = 0 := by decide
  have kc2 : (1 : Int64).toInt = 1 := by decide
  obtain ⟨H, hH⟩ : ∃ H : Heap, H = s.heap := ⟨_, rfl⟩
  obtain ⟨locs, hlc⟩ : ∃ L : List Loc, L = [] := ⟨_, rfl⟩
  have hP : va_P D vwCl (tw cs q v_t_tapeSize v_t_textSize v_t_faultKind a_t_tape a_t_text a_g_beyond v_g_size a_g_steps a_h_beyond v_h_size a_h_steps a_r_scratch a_r_now v_r_takes v_r_negative v_r_namePlace v_r_faultKind v_r_faultPlace v_a_size v_a_limit v_a_digits v_a_kind v_a_from v_a_to v_o_size a_o_out v_b_size v_b_limit v_b_digits v_b_kind v_b_from v_b_to a_u_atom a_u_other a_u_hand v_u_marksMade v_u_came v_u_guesses v_u_right v_u_taken a_u_vars a_u_marks a_u_outcomes a_u_indexes v_s_things v_s_looked v_s_lookedTooOften v_s_arraysMade v_s_cellsMade a_s_classes a_s_starts a_s_lengths a_s_cells a_L a_K a_vc a_vd a_si a_sj a_iv a_inn a_ac) H := by rw [hH]; exact hP
  have hS : va_S A s.heap H locs := by rw [hH, hlc]; exact hS
  refine wHL hH hlc ?_
  have b_z9 := iB z9
  refine lv_aload_n hx hb dX4_tellTruth_0 rfl (lv_at hl 0 rfl) ?_
  refine lv_aload_n hx hb dX4_tellTruth_1 rfl (lv_at hl 1 rfl) ?_
  refine lv_iconst (v := 0) hx hb dX4_tellTruth_2 (by decide) ?_
  refine lv_iload_n hx hb dX4_tellTruth_3 rfl (lv_at hl 2 rfl) ?_
  refine m_if_eq (X := z9.toInt) (tgt := 11) hx hb dX4_tellTruth_4 (by decide) rfl (fun c4 => ?_) (fun c4 => ?_)
  · skip
    refine lv_lconst (v := 0) hx hb dX4_tellTruth_11 (by decide) ?_
    refine call_i (As := [.ref s9, .int 0, .long 0]) (rest := []) ⟨hx, hb, hml, hown, hts⟩ (tX4_tell (l := l) s9 h_s9 (0 : Int32) (0 : Int64) (by first | assumption | omega | (intros; omega) | decide)) (cwV 3 hts (gV (wr37 _ (List.mem_of_getElem? (i := 10) rfl)) (wr37 _ (List.mem_of_getElem? (i := 11) rfl)) (wr37 _ (List.mem_of_getElem? (i := 12) rfl)) (wr2 _ (List.mem_of_getElem? (i := 10) rfl)) (wr37 _ (List.mem_of_getElem? (i := 13) rfl))) rfl rfl rfl (by decide +kernel) ⟨Nat.le_of_ble_eq_true rfl, Nat.le_of_ble_eq_true rfl⟩) (va_recv hK hP (ci := 3) (q0 := 12) rfl rfl) hK hP hD hE hS hA rfl hl.1 rfl (Nat.le_of_ble_eq_true rfl) dX4_tellTruth_12 ⟨Nat.le_of_ble_eq_true rfl, Nat.le_of_ble_eq_true rfl⟩ (fun r12 w9 H locs hw12 hP hD hS => ?_)
    obtain ⟨a_vc_12, a_vd_12, rfl, hw12_0⟩ := hw12
    have b_r12 := iB r12
    subst hAe
    rw [hQ]
    exact W.iret (v := r12) hx hb hr (fun t ht hW => ⟨⟨r12, _, rfl, ⟨a_vc_12, a_vd_12, rfl, by first | assumption | omega | (intros; omega) | decide⟩, by rw [ht]; exact hP, va_K.moved hW.alike hK, hD⟩, hS.F ht⟩) hS.2.2 dX4_tellTruth_15
  · skip
    refine lv_lconst (v := 1) hx hb dX4_tellTruth_7 (by decide) ?_
    refine lv_goto (tgt := 12) hx hb dX4_tellTruth_8 (by decide) ?_
    refine call_i (As := [.ref s9, .int 0, .long 1]) (rest := []) ⟨hx, hb, hml, hown, hts⟩ (tX4_tell (l := l) s9 h_s9 (0 : Int32) (1 : Int64) (by first | assumption | omega | (intros; omega) | decide)) (cwV 3 hts (gV (wr37 _ (List.mem_of_getElem? (i := 10) rfl)) (wr37 _ (List.mem_of_getElem? (i := 11) rfl)) (wr37 _ (List.mem_of_getElem? (i := 12) rfl)) (wr2 _ (List.mem_of_getElem? (i := 10) rfl)) (wr37 _ (List.mem_of_getElem? (i := 13) rfl))) rfl rfl rfl (by decide +kernel) ⟨Nat.le_of_ble_eq_true rfl, Nat.le_of_ble_eq_true rfl⟩) (va_recv hK hP (ci := 3) (q0 := 12) rfl rfl) hK hP hD hE hS hA rfl hl.1 rfl (Nat.le_of_ble_eq_true rfl) dX4_tellTruth_12 ⟨Nat.le_of_ble_eq_true rfl, Nat.le_of_ble_eq_true rfl⟩ (fun r12 w9 H locs hw12 hP hD hS => ?_)
    obtain ⟨a_vc_12, a_vd_12, rfl, hw12_0⟩ := hw12
    have b_r12 := iB r12
    subst hAe
    rw [hQ]
    exact W.iret (v := r12) hx hb hr (fun t ht hW => ⟨⟨r12, _, rfl, ⟨a_vc_12, a_vd_12, rfl, by first | assumption | omega | (intros; omega) | decide⟩, by rw [ht]; exact hP, va_K.moved hW.alike hK, hD⟩, hS.F ht⟩) hS.2.2 dX4_tellTruth_15

def rmX4_forget : Room := { frames := 40, cells := 0, slots := 0, locals := 800 }
set_option maxHeartbeats 4000000 in
set_option maxRecDepth 100000 in
theorem tX4_forget {l : Launch} {D : va_G} {K : Nat → Nat → Nat} {cs : Nat → ClassId} {q : Nat → Nat} {v_t_tapeSize v_t_textSize v_t_faultKind v_g_size v_h_size v_r_takes v_r_negative v_r_namePlace v_r_faultKind v_r_faultPlace v_a_size v_a_limit v_a_digits v_a_kind v_a_from v_a_to v_o_size v_b_size v_b_limit v_b_digits v_b_kind v_b_from v_b_to v_u_marksMade v_u_came v_u_guesses v_u_right v_u_taken v_s_things v_s_looked v_s_lookedTooOften v_s_arraysMade v_s_cellsMade : Int32} {a_t_tape a_t_text a_o_out a_u_outcomes a_u_indexes a_s_classes a_s_starts a_s_lengths a_vc : Nat → Int32} {a_g_beyond a_h_beyond a_r_scratch a_r_now a_u_atom a_u_other a_u_hand : Nat} {a_g_steps a_h_steps a_u_vars a_u_marks : Nat → Option Nat} {a_s_cells a_vd a_sj : Nat → Int64} {a_L : List Nat} {a_K a_iv a_inn : Nat → Nat} {a_si a_ac : Nat → Nat → Int32} (p_0 : RF a_L a_K a_g_beyond a_h_beyond a_r_scratch a_g_steps a_h_steps a_u_atom a_u_other a_u_hand a_u_vars a_u_marks) (p_1 : STO v_s_things v_s_cellsMade a_s_starts a_s_lengths) : CtV l yX4_forget (wG yX4_forget cX4_forget 2 none) rmX4_forget D (twT cs) K [.ref (q 12)] (tw cs q v_t_tapeSize v_t_textSize v_t_faultKind a_t_tape a_t_text a_g_beyond v_g_size a_g_steps a_h_beyond v_h_size a_h_steps a_r_scratch a_r_now v_r_takes v_r_negative v_r_namePlace v_r_faultKind v_r_faultPlace v_a_size v_a_limit v_a_digits v_a_kind v_a_from v_a_to v_o_size a_o_out v_b_size v_b_limit v_b_digits v_b_kind v_b_from v_b_to a_u_atom a_u_other a_u_hand v_u_marksMade v_u_came v_u_guesses v_u_right v_u_taken a_u_vars a_u_marks a_u_outcomes a_u_indexes v_s_things v_s_looked v_s_lookedTooOften v_s_arraysMade v_s_cellsMade a_s_classes a_s_starts a_s_lengths a_s_cells a_L a_K a_vc a_vd a_si a_sj a_iv a_inn a_ac) (fun w1 => ∃ (v_u_marksMade' : Int32) (v_u_came' : Int32) (v_u_guesses' : Int32) (v_u_right' : Int32) (v_u_taken' : Int32) (a_u_outcomes' : Nat → Int32) (v_s_things' : Int32) (v_s_arraysMade' : Int32) (v_s_cellsMade' : Int32) (a_vc' : Nat → Int32) (a_vd' : Nat → Int64), w1 = (tw cs q v_t_tapeSize v_t_textSize v_t_faultKind a_t_tape a_t_text a_g_beyond v_g_size a_g_steps a_h_beyond v_h_size a_h_steps a_r_scratch a_r_now v_r_takes v_r_negative v_r_namePlace v_r_faultKind v_r_faultPlace v_a_size v_a_limit v_a_digits v_a_kind v_a_from v_a_to v_o_size a_o_out v_b_size v_b_limit v_b_digits v_b_kind v_b_from v_b_to a_u_atom a_u_other a_u_hand v_u_marksMade' v_u_came' v_u_guesses' v_u_right' v_u_taken' a_u_vars a_u_marks a_u_outcomes' a_u_indexes v_s_things' v_s_looked v_s_lookedTooOften v_s_arraysMade' v_s_cellsMade' a_s_classes a_s_starts a_s_lengths a_s_cells a_L a_K a_vc' a_vd' a_si a_sj a_iv a_inn a_ac) ∧ (STO v_s_things' v_s_cellsMade' a_s_starts a_s_lengths) ∧ (v_u_marksMade'.toInt = 0)) 0 0 := by
  intro sz
  refine Met.ofW (cc := cX4_forget) (maxL := 2) (ret := none) (by decide) rfl ?_
  intro p e s m args below meth c s₁ B hml hv
  obtain ⟨rfl, hsz, hP, hK, hD0, hE⟩ := hv
  have hx := B.exec
  have hb := B.bytes
  have hr := B.returns
  have hts := atoms_spec (ws := (wG yX4_forget cX4_forget 2 none)) B.pre
  have hown : s.vm.findClass RX4 = some m.cls := findClass_of_methodNamed B.named
  have hlocks := B.notSynchronized
  subst hsz
  have hD := hD0.self (sz := s.heap.size)
  obtain ⟨A, hAe⟩ : ∃ A : Nat → Prop, A = va_A (tw cs q v_t_tapeSize v_t_textSize v_t_faultKind a_t_tape a_t_text a_g_beyond v_g_size a_g_steps a_h_beyond v_h_size a_h_steps a_r_scratch a_r_now v_r_takes v_r_negative v_r_namePlace v_r_faultKind v_r_faultPlace v_a_size v_a_limit v_a_digits v_a_kind v_a_from v_a_to v_o_size a_o_out v_b_size v_b_limit v_b_digits v_b_kind v_b_from v_b_to a_u_atom a_u_other a_u_hand v_u_marksMade v_u_came v_u_guesses v_u_right v_u_taken a_u_vars a_u_marks a_u_outcomes a_u_indexes v_s_things v_s_looked v_s_lookedTooOften v_s_arraysMade v_s_cellsMade a_s_classes a_s_starts a_s_lengths a_s_cells a_L a_K a_vc a_vd a_si a_sj a_iv a_inn a_ac) s.heap.size := ⟨_, rfl⟩
  rw [← hAe] at hD hE
  have hA : ∀ q : Nat, s.heap.size ≤ q → A q := fun q h => by rw [hAe]; exact Or.inr h
  have hS : va_S A s.heap s.heap [] := va_S.rf
  have hl := lv_entry ([.ref (q 12)]) (n := 2) (Nat.le_of_ble_eq_true rfl)
  rw [lg_entry_eq]
  generalize (lg_sl ([.ref (q 12)]) ++ List.replicate (2 - (lg_sl ([.ref (q 12)])).length) Slot.unset).toArray = ls at hl ⊢
  have hl : lv_has ls 2 [(0, .ref (q 12))] := hl
  refine wq (fun Q hQ => ?_)
  have hinX4 : ∀ w ∈ wsX40, w ∈ (wG yX4_forget cX4_forget 2 none) := fun w h => List.mem_cons_of_mem _ (inlX4 w h)
  have kc0 : (-1 : Int32).toInt = -1 := by decide
  have kc1 : (0 : Int32).toInt = 0 := by decide
  have kc2 : (26 : Int32).toInt = 26 := by decide
  have kc3 : (100 : Int32).toInt = 100 := by decide
  have kc4 : (0 : Int64).toInt = 0 := by decide
  have k_4_4 := hts (.fieldLink RX4 12 "ArrayTrainer$Runner" "store" "LArrayTrainer$Store;") (List.mem_cons_of_mem _ (wr4 _ (List.mem_of_getElem? (i := 4) rfl)))
  have k_21_11 := hts (.fieldLink RX4 58 "ArrayTrainer$Runner" "marksMade" "I") (List.mem_cons_of_mem _ (wr21 _ (List.mem_of_getElem? (i := 11) rfl)))
  have k_21_12 := hts (.fieldLink RX4 62 "ArrayTrainer$Runner" "came" "I") (List.mem_cons_of_mem _ (wr21 _ (List.mem_of_getElem? (i := 12) rfl)))
  have k_21_13 := hts (.fieldLink RX4 65 "ArrayTrainer$Runner" "guesses" "I") (List.mem_cons_of_mem _ (wr21 _ (List.mem_of_getElem? (i := 13) rfl)))
  have k_21_14 := hts (.fieldLink RX4 68 "ArrayTrainer$Runner" "right" "I") (List.mem_cons_of_mem _ (wr21 _ (List.mem_of_getElem? (i := 14) rfl)))
  have k_21_15 := hts (.fieldLink RX4 71 "ArrayTrainer$Runner" "taken" "I") (List.mem_cons_of_mem _ (wr21 _ (List.mem_of_getElem? (i := 15) rfl)))
  have k_4_8 := hts (.fieldLink RX4 27 "ArrayTrainer$Runner" "outcomes" "[I") (List.mem_cons_of_mem _ (wr4 _ (List.mem_of_getElem? (i := 8) rfl)))
  obtain ⟨H, hH⟩ : ∃ H : Heap, H = s.heap := ⟨_, rfl⟩
  obtain ⟨locs, hlc⟩ : ∃ L : List Loc, L = [] := ⟨_, rfl⟩
  have hP : va_P D vwCl (tw cs q v_t_tapeSize v_t_textSize v_t_faultKind a_t_tape a_t_text a_g_beyond v_g_size a_g_steps a_h_beyond v_h_size a_h_steps a_r_scratch a_r_now v_r_takes v_r_negative v_r_namePlace v_r_faultKind v_r_faultPlace v_a_size v_a_limit v_a_digits v_a_kind v_a_from v_a_to v_o_size a_o_out v_b_size v_b_limit v_b_digits v_b_kind v_b_from v_b_to a_u_atom a_u_other a_u_hand v_u_marksMade v_u_came v_u_guesses v_u_right v_u_taken a_u_vars a_u_marks a_u_outcomes a_u_indexes v_s_things v_s_looked v_s_lookedTooOften v_s_arraysMade v_s_cellsMade a_s_classes a_s_starts a_s_lengths a_s_cells a_L a_K a_vc a_vd a_si a_sj a_iv a_inn a_ac) H := by rw [hH]; exact hP
  have hS : va_S A s.heap H locs := by rw [hH, hlc]; exact hS
  refine wHL hH hlc ?_
  refine lv_aload_n hx hb dX4_forget_0 rfl (lv_at hl 0 rfl) ?_
  refine va_get (D := D) (ci := 3) (v := .ref (q 17)) (C := RX4) (T := TX4) (N := 13) hx hb hts hinX4 hown hK hP 12 rfl rfl 0 (by decide) k_4_4 (fun _ h9 => h9) rfl dX4_forget_1 ?_
  refine call_v (As := []) (rest := []) ⟨hx, hb, hml, hown, hts⟩ (tX7_empty (l := l)  (by first | assumption | omega | (intros; omega) | decide)) (cwV 0 hts (gV (wr21 _ (List.mem_of_getElem? (i := 16) rfl)) (wr21 _ (List.mem_of_getElem? (i := 17) rfl)) (wr21 _ (List.mem_of_getElem? (i := 18) rfl)) (wr4 _ (List.mem_of_getElem? (i := 3) rfl)) (wr21 _ (List.mem_of_getElem? (i := 19) rfl))) rfl rfl rfl (by decide +kernel) ⟨Nat.le_of_ble_eq_true rfl, Nat.le_of_ble_eq_true rfl⟩) (va_recv hK hP (ci := 6) (q0 := 17) rfl rfl) hK hP hD hE hS hA rfl hl.1 rfl (Nat.le_of_ble_eq_true rfl) dX4_forget_4 ⟨Nat.le_of_ble_eq_true rfl, Nat.le_of_ble_eq_true rfl⟩ (fun w9 H locs hw4 hP hD hS => ?_)
  obtain ⟨v_s_things_4, v_s_arraysMade_4, v_s_cellsMade_4, rfl, hw4_0⟩ := hw4
  have b_v_s_things_4 := iB v_s_things_4
  have b_v_s_arraysMade_4 := iB v_s_arraysMade_4
  have b_v_s_cellsMade_4 := iB v_s_cellsMade_4
  refine lv_iconst (v := 0) hx hb dX4_forget_7 (by decide) ?_
  refine lv_istore_n (lv' := [(1, .int 0), (0, .ref (q 12))]) hx hb dX4_forget_8 rfl hl (by decide) rfl (fun ls hl => ?_)
  have J9 : ∀ (n9 : Nat) (l1_9 : Int32) (a_vc_9 : Nat → Int32) (a_vd_9 : Nat → Int64) (H : Heap) (locs : List Loc) (ls : Array Slot), (0 ≤ l1_9.toInt) → (l1_9.toInt ≤ 26) → (26 - l1_9.toInt < (n9 : Int)) → va_P D vwCl (tw cs q v_t_tapeSize v_t_textSize v_t_faultKind a_t_tape a_t_text a_g_beyond v_g_size a_g_steps a_h_beyond v_h_size a_h_steps a_r_scratch a_r_now v_r_takes v_r_negative v_r_namePlace v_r_faultKind v_r_faultPlace v_a_size v_a_limit v_a_digits v_a_kind v_a_from v_a_to v_o_size a_o_out v_b_size v_b_limit v_b_digits v_b_kind v_b_from v_b_to a_u_atom a_u_other a_u_hand v_u_marksMade v_u_came v_u_guesses v_u_right v_u_taken a_u_vars a_u_marks a_u_outcomes a_u_indexes v_s_things_4 v_s_looked v_s_lookedTooOften v_s_arraysMade_4 v_s_cellsMade_4 a_s_classes a_s_starts a_s_lengths a_s_cells a_L a_K a_vc_9 a_vd_9 a_si a_sj a_iv a_inn a_ac) H → va_D A (tw cs q v_t_tapeSize v_t_textSize v_t_faultKind a_t_tape a_t_text a_g_beyond v_g_size a_g_steps a_h_beyond v_h_size a_h_steps a_r_scratch a_r_now v_r_takes v_r_negative v_r_namePlace v_r_faultKind v_r_faultPlace v_a_size v_a_limit v_a_digits v_a_kind v_a_from v_a_to v_o_size a_o_out v_b_size v_b_limit v_b_digits v_b_kind v_b_from v_b_to a_u_atom a_u_other a_u_hand v_u_marksMade v_u_came v_u_guesses v_u_right v_u_taken a_u_vars a_u_marks a_u_outcomes a_u_indexes v_s_things_4 v_s_looked v_s_lookedTooOften v_s_arraysMade_4 v_s_cellsMade_4 a_s_classes a_s_starts a_s_lengths a_s_cells a_L a_K a_vc_9 a_vd_9 a_si a_sj a_iv a_inn a_ac) → va_S A s.heap H locs → lv_has ls 2 [(0, .ref (q 12)), (1, .int l1_9)] → W p l e (headSpec (wG yX4_forget cX4_forget 2 none) rmX4_forget).room s m ([.ref (q 12)] : List Value).toArray below meth c H locs 0 0 Q (F0 m 9 ls []) := by
    intro n9
    induction n9 with
    | zero =>
      intro l1_9 a_vc_9 a_vd_9 H locs ls f9_0 f9_1 hm9
      exfalso
      omega
    | succ n9 ih9 =>
      intro l1_9 a_vc_9 a_vd_9 H locs ls f9_0 f9_1 hm9 hP hD hS hl
      refine lv_iload_n hx hb dX4_forget_9 rfl (lv_at hl 1 rfl) ?_
      refine lv_bipush (v := 26) hx hb dX4_forget_10 (by decide) ?_
      refine m_icmp_ge (X := l1_9.toInt) (Y := 26) (tgt := 31) hx hb dX4_forget_12 (by decide) rfl (by decide) (fun c12 => ?_) (fun c12 => ?_)
      · skip
        refine lv_iconst (v := 0) hx hb dX4_forget_31 (by decide) ?_
        refine lv_istore_n (lv' := [(1, .int 0), (0, .ref (q 12))]) hx hb dX4_forget_32 rfl hl (by decide) rfl (fun ls hl => ?_)
        have J33 : ∀ (n33 : Nat) (l1_33 : Int32) (a_u_outcomes_33 : Nat → Int32) (H : Heap) (locs : List Loc) (ls : Array Slot), (0 ≤ l1_33.toInt) → (l1_33.toInt ≤ 100) → (100 - l1_33.toInt < (n33 : Int)) → va_P D vwCl (tw cs q v_t_tapeSize v_t_textSize v_t_faultKind a_t_tape a_t_text a_g_beyond v_g_size a_g_steps a_h_beyond v_h_size a_h_steps a_r_scratch a_r_now v_r_takes v_r_negative v_r_namePlace v_r_faultKind v_r_faultPlace v_a_size v_a_limit v_a_digits v_a_kind v_a_from v_a_to v_o_size a_o_out v_b_size v_b_limit v_b_digits v_b_kind v_b_from v_b_to a_u_atom a_u_other a_u_hand v_u_marksMade v_u_came v_u_guesses v_u_right v_u_taken a_u_vars a_u_marks a_u_outcomes_33 a_u_indexes v_s_things_4 v_s_looked v_s_lookedTooOften v_s_arraysMade_4 v_s_cellsMade_4 a_s_classes a_s_starts a_s_lengths a_s_cells a_L a_K a_vc_9 a_vd_9 a_si a_sj a_iv a_inn a_ac) H → va_D A (tw cs q v_t_tapeSize v_t_textSize v_t_faultKind a_t_tape a_t_text a_g_beyond v_g_size a_g_steps a_h_beyond v_h_size a_h_steps a_r_scratch a_r_now v_r_takes v_r_negative v_r_namePlace v_r_faultKind v_r_faultPlace v_a_size v_a_limit v_a_digits v_a_kind v_a_from v_a_to v_o_size a_o_out v_b_size v_b_limit v_b_digits v_b_kind v_b_from v_b_to a_u_atom a_u_other a_u_hand v_u_marksMade v_u_came v_u_guesses v_u_right v_u_taken a_u_vars a_u_marks a_u_outcomes_33 a_u_indexes v_s_things_4 v_s_looked v_s_lookedTooOften v_s_arraysMade_4 v_s_cellsMade_4 a_s_classes a_s_starts a_s_lengths a_s_cells a_L a_K a_vc_9 a_vd_9 a_si a_sj a_iv a_inn a_ac) → va_S A s.heap H locs → lv_has ls 2 [(0, .ref (q 12)), (1, .int l1_33)] → W p l e (headSpec (wG yX4_forget cX4_forget 2 none) rmX4_forget).room s m ([.ref (q 12)] : List Value).toArray below meth c H locs 0 0 Q (F0 m 33 ls []) := by
          intro n33
          induction n33 with
          | zero =>
            intro l1_33 a_u_outcomes_33 H locs ls f33_0 f33_1 hm33
            exfalso
            omega
          | succ n33 ih33 =>
            intro l1_33 a_u_outcomes_33 H locs ls f33_0 f33_1 hm33 hP hD hS hl
            refine lv_iload_n hx hb dX4_forget_33 rfl (lv_at hl 1 rfl) ?_
            refine lv_bipush (v := 100) hx hb dX4_forget_34 (by decide) ?_
            refine m_icmp_ge (X := l1_33.toInt) (Y := 100) (tgt := 52) hx hb dX4_forget_36 (by decide) rfl (by decide) (fun c36 => ?_) (fun c36 => ?_)
            · skip
              refine lv_aload_n hx hb dX4_forget_52 rfl (lv_at hl 0 rfl) ?_
              refine lv_iconst (v := 0) hx hb dX4_forget_53 (by decide) ?_
              refine va_put (D := D) (ci := 3) (v := .int 0) (ty := .int) (C := RX4) (T := TX4) (N := 13) hx hb hts hinX4 tyX4 tyX4_ok nmX4 hown hK hP hD hS 12 rfl rfl 8 (by decide) k_21_11 (fun _ h9 => h9) rfl (by decide +kernel) rfl rfl (Nat.le_of_ble_eq_true rfl) dX4_forget_54 (fun H locs hP hD hS => ?_)
              have hP : va_P D vwCl (tw cs q v_t_tapeSize v_t_textSize v_t_faultKind a_t_tape a_t_text a_g_beyond v_g_size a_g_steps a_h_beyond v_h_size a_h_steps a_r_scratch a_r_now v_r_takes v_r_negative v_r_namePlace v_r_faultKind v_r_faultPlace v_a_size v_a_limit v_a_digits v_a_kind v_a_from v_a_to v_o_size a_o_out v_b_size v_b_limit v_b_digits v_b_kind v_b_from v_b_to a_u_atom a_u_other a_u_hand (0 : Int32) v_u_came v_u_guesses v_u_right v_u_taken a_u_vars a_u_marks a_u_outcomes_33 a_u_indexes v_s_things_4 v_s_looked v_s_lookedTooOften v_s_arraysMade_4 v_s_cellsMade_4 a_s_classes a_s_starts a_s_lengths a_s_cells a_L a_K a_vc_9 a_vd_9 a_si a_sj a_iv a_inn a_ac) H := hP
              have hD : va_D A (tw cs q v_t_tapeSize v_t_textSize v_t_faultKind a_t_tape a_t_text a_g_beyond v_g_size a_g_steps a_h_beyond v_h_size a_h_steps a_r_scratch a_r_now v_r_takes v_r_negative v_r_namePlace v_r_faultKind v_r_faultPlace v_a_size v_a_limit v_a_digits v_a_kind v_a_from v_a_to v_o_size a_o_out v_b_size v_b_limit v_b_digits v_b_kind v_b_from v_b_to a_u_atom a_u_other a_u_hand (0 : Int32) v_u_came v_u_guesses v_u_right v_u_taken a_u_vars a_u_marks a_u_outcomes_33 a_u_indexes v_s_things_4 v_s_looked v_s_lookedTooOften v_s_arraysMade_4 v_s_cellsMade_4 a_s_classes a_s_starts a_s_lengths a_s_cells a_L a_K a_vc_9 a_vd_9 a_si a_sj a_iv a_inn a_ac) := hD
              refine lv_aload_n hx hb dX4_forget_57 rfl (lv_at hl 0 rfl) ?_
              refine lv_iconst (v := 0) hx hb dX4_forget_58 (by decide) ?_
              refine va_put (D := D) (ci := 3) (v := .int 0) (ty := .int) (C := RX4) (T := TX4) (N := 13) hx hb hts hinX4 tyX4 tyX4_ok nmX4 hown hK hP hD hS 12 rfl rfl 9 (by decide) k_21_12 (fun _ h9 => h9) rfl (by decide +kernel) rfl rfl (Nat.le_of_ble_eq_true rfl) dX4_forget_59 (fun H locs hP hD hS => ?_)
              have hP : va_P D vwCl (tw cs q v_t_tapeSize v_t_textSize v_t_faultKind a_t_tape a_t_text a_g_beyond v_g_size a_g_steps a_h_beyond v_h_size a_h_steps a_r_scratch a_r_now v_r_takes v_r_negative v_r_namePlace v_r_faultKind v_r_faultPlace v_a_size v_a_limit v_a_digits v_a_kind v_a_from v_a_to v_o_size a_o_out v_b_size v_b_limit v_b_digits v_b_kind v_b_from v_b_to a_u_atom a_u_other a_u_hand (0 : Int32) (0 : Int32) v_u_guesses v_u_right v_u_taken a_u_vars a_u_marks a_u_outcomes_33 a_u_indexes v_s_things_4 v_s_looked v_s_lookedTooOften v_s_arraysMade_4 v_s_cellsMade_4 a_s_classes a_s_starts a_s_lengths a_s_cells a_L a_K a_vc_9 a_vd_9 a_si a_sj a_iv a_inn a_ac) H := hP
              have hD : va_D A (tw cs q v_t_tapeSize v_t_textSize v_t_faultKind a_t_tape a_t_text a_g_beyond v_g_size a_g_steps a_h_beyond v_h_size a_h_steps a_r_scratch a_r_now v_r_takes v_r_negative v_r_namePlace v_r_faultKind v_r_faultPlace v_a_size v_a_limit v_a_digits v_a_kind v_a_from v_a_to v_o_size a_o_out v_b_size v_b_limit v_b_digits v_b_kind v_b_from v_b_to a_u_atom a_u_other a_u_hand (0 : Int32) (0 : Int32) v_u_guesses v_u_right v_u_taken a_u_vars a_u_marks a_u_outcomes_33 a_u_indexes v_s_things_4 v_s_looked v_s_lookedTooOften v_s_arraysMade_4 v_s_cellsMade_4 a_s_classes a_s_starts a_s_lengths a_s_cells a_L a_K a_vc_9 a_vd_9 a_si a_sj a_iv a_inn a_ac) := hD
              refine lv_aload_n hx hb dX4_forget_62 rfl (lv_at hl 0 rfl) ?_
              refine lv_iconst (v := 0) hx hb dX4_forget_63 (by decide) ?_
              refine va_put (D := D) (ci := 3) (v := .int 0) (ty := .int) (C := RX4) (T := TX4) (N := 13) hx hb hts hinX4 tyX4 tyX4_ok nmX4 hown hK hP hD hS 12 rfl rfl 10 (by decide) k_21_13 (fun _ h9 => h9) rfl (by decide +kernel) rfl rfl (Nat.le_of_ble_eq_true rfl) dX4_forget_64 (fun H locs hP hD hS => ?_)
              have hP : va_P D vwCl (tw cs q v_t_tapeSize v_t_textSize v_t_faultKind a_t_tape a_t_text a_g_beyond v_g_size a_g_steps a_h_beyond v_h_size a_h_steps a_r_scratch a_r_now v_r_takes v_r_negative v_r_namePlace v_r_faultKind v_r_faultPlace v_a_size v_a_limit v_a_digits v_a_kind v_a_from v_a_to v_o_size a_o_out v_b_size v_b_limit v_b_digits v_b_kind v_b_from v_b_to a_u_atom a_u_other a_u_hand (0 : Int32) (0 : Int32) (0 : Int32) v_u_right v_u_taken a_u_vars a_u_marks a_u_outcomes_33 a_u_indexes v_s_things_4 v_s_looked v_s_lookedTooOften v_s_arraysMade_4 v_s_cellsMade_4 a_s_classes a_s_starts a_s_lengths a_s_cells a_L a_K a_vc_9 a_vd_9 a_si a_sj a_iv a_inn a_ac) H := hP
              have hD : va_D A (tw cs q v_t_tapeSize v_t_textSize v_t_faultKind a_t_tape a_t_text a_g_beyond v_g_size a_g_steps a_h_beyond v_h_size a_h_steps a_r_scratch a_r_now v_r_takes v_r_negative v_r_namePlace v_r_faultKind v_r_faultPlace v_a_size v_a_limit v_a_digits v_a_kind v_a_from v_a_to v_o_size a_o_out v_b_size v_b_limit v_b_digits v_b_kind v_b_from v_b_to a_u_atom a_u_other a_u_hand (0 : Int32) (0 : Int32) (0 : Int32) v_u_right v_u_taken a_u_vars a_u_marks a_u_outcomes_33 a_u_indexes v_s_things_4 v_s_looked v_s_lookedTooOften v_s_arraysMade_4 v_s_cellsMade_4 a_s_classes a_s_starts a_s_lengths a_s_cells a_L a_K a_vc_9 a_vd_9 a_si a_sj a_iv a_inn a_ac) := hD
              refine lv_aload_n hx hb dX4_forget_67 rfl (lv_at hl 0 rfl) ?_
              refine lv_iconst (v := 0) hx hb dX4_forget_68 (by decide) ?_
              refine va_put (D := D) (ci := 3) (v := .int 0) (ty := .int) (C := RX4) (T := TX4) (N := 13) hx hb hts hinX4 tyX4 tyX4_ok nmX4 hown hK hP hD hS 12 rfl rfl 11 (by decide) k_21_14 (fun _ h9 => h9) rfl (by decide +kernel) rfl rfl (Nat.le_of_ble_eq_true rfl) dX4_forget_69 (fun H locs hP hD hS => ?_)
              have hP : va_P D vwCl (tw cs q v_t_tapeSize v_t_textSize v_t_faultKind a_t_tape a_t_text a_g_beyond v_g_size a_g_steps a_h_beyond v_h_size a_h_steps a_r_scratch a_r_now v_r_takes v_r_negative v_r_namePlace v_r_faultKind v_r_faultPlace v_a_size v_a_limit v_a_digits v_a_kind v_a_from v_a_to v_o_size a_o_out v_b_size v_b_limit v_b_digits v_b_kind v_b_from v_b_to a_u_atom a_u_other a_u_hand (0 : Int32) (0 : Int32) (0 : Int32) (0 : Int32) v_u_taken a_u_vars a_u_marks a_u_outcomes_33 a_u_indexes v_s_things_4 v_s_looked v_s_lookedTooOften v_s_arraysMade_4 v_s_cellsMade_4 a_s_classes a_s_starts a_s_lengths a_s_cells a_L a_K a_vc_9 a_vd_9 a_si a_sj a_iv a_inn a_ac) H := hP
              have hD : va_D A (tw cs q v_t_tapeSize v_t_textSize v_t_faultKind a_t_tape a_t_text a_g_beyond v_g_size a_g_steps a_h_beyond v_h_size a_h_steps a_r_scratch a_r_now v_r_takes v_r_negative v_r_namePlace v_r_faultKind v_r_faultPlace v_a_size v_a_limit v_a_digits v_a_kind v_a_from v_a_to v_o_size a_o_out v_b_size v_b_limit v_b_digits v_b_kind v_b_from v_b_to a_u_atom a_u_other a_u_hand (0 : Int32) (0 : Int32) (0 : Int32) (0 : Int32) v_u_taken a_u_vars a_u_marks a_u_outcomes_33 a_u_indexes v_s_things_4 v_s_looked v_s_lookedTooOften v_s_arraysMade_4 v_s_cellsMade_4 a_s_classes a_s_starts a_s_lengths a_s_cells a_L a_K a_vc_9 a_vd_9 a_si a_sj a_iv a_inn a_ac) := hD
              refine lv_aload_n hx hb dX4_forget_72 rfl (lv_at hl 0 rfl) ?_
              refine lv_iconst (v := 0) hx hb dX4_forget_73 (by decide) ?_
              refine va_put (D := D) (ci := 3) (v := .int 0) (ty := .int) (C := RX4) (T := TX4) (N := 13) hx hb hts hinX4 tyX4 tyX4_ok nmX4 hown hK hP hD hS 12 rfl rfl 12 (by decide) k_21_15 (fun _ h9 => h9) rfl (by decide +kernel) rfl rfl (Nat.le_of_ble_eq_true rfl) dX4_forget_74 (fun H locs hP hD hS => ?_)
              have hP : va_P D vwCl (tw cs q v_t_tapeSize v_t_textSize v_t_faultKind a_t_tape a_t_text a_g_beyond v_g_size a_g_steps a_h_beyond v_h_size a_h_steps a_r_scratch a_r_now v_r_takes v_r_negative v_r_namePlace v_r_faultKind v_r_faultPlace v_a_size v_a_limit v_a_digits v_a_kind v_a_from v_a_to v_o_size a_o_out v_b_size v_b_limit v_b_digits v_b_kind v_b_from v_b_to a_u_atom a_u_other a_u_hand (0 : Int32) (0 : Int32) (0 : Int32) (0 : Int32) (0 : Int32) a_u_vars a_u_marks a_u_outcomes_33 a_u_indexes v_s_things_4 v_s_looked v_s_lookedTooOften v_s_arraysMade_4 v_s_cellsMade_4 a_s_classes a_s_starts a_s_lengths a_s_cells a_L a_K a_vc_9 a_vd_9 a_si a_sj a_iv a_inn a_ac) H := hP
              have hD : va_D A (tw cs q v_t_tapeSize v_t_textSize v_t_faultKind a_t_tape a_t_text a_g_beyond v_g_size a_g_steps a_h_beyond v_h_size a_h_steps a_r_scratch a_r_now v_r_takes v_r_negative v_r_namePlace v_r_faultKind v_r_faultPlace v_a_size v_a_limit v_a_digits v_a_kind v_a_from v_a_to v_o_size a_o_out v_b_size v_b_limit v_b_digits v_b_kind v_b_from v_b_to a_u_atom a_u_other a_u_hand (0 : Int32) (0 : Int32) (0 : Int32) (0 : Int32) (0 : Int32) a_u_vars a_u_marks a_u_outcomes_33 a_u_indexes v_s_things_4 v_s_looked v_s_lookedTooOften v_s_arraysMade_4 v_s_cellsMade_4 a_s_classes a_s_starts a_s_lengths a_s_cells a_L a_K a_vc_9 a_vd_9 a_si a_sj a_iv a_inn a_ac) := hD
              subst hAe
              rw [hQ]
              exact W.vret hx hb hr (fun t ht hW => ⟨⟨_, rfl, ⟨(0 : Int32), (0 : Int32), (0 : Int32), (0 : Int32), (0 : Int32), a_u_outcomes_33, v_s_things_4, v_s_arraysMade_4, v_s_cellsMade_4, a_vc_9, a_vd_9, rfl, by first | assumption | omega | (intros; omega) | decide, by first | assumption | omega | (intros; omega) | decide⟩, by rw [ht]; exact hP, va_K.moved hW.alike hK, hD⟩, hS.F ht⟩) hS.2.2 dX4_forget_77
            · skip
              refine lv_aload_n hx hb dX4_forget_39 rfl (lv_at hl 0 rfl) ?_
              refine va_get (D := D) (ci := 3) (v := .ref (q 15)) (C := RX4) (T := TX4) (N := 13) hx hb hts hinX4 hown hK hP 12 rfl rfl 3 (by decide) k_4_8 (fun _ h9 => h9) rfl dX4_forget_40 ?_
              refine lv_iload_n hx hb dX4_forget_43 rfl (lv_at hl 1 rfl) ?_
              refine lv_iconst (v := (-1)) hx hb dX4_forget_44 (by decide) ?_
              refine va_iast hx hb hK hP hD hS 15 0 rfl rfl (ix (by omega) (by omega)) dX4_forget_45 (fun H locs hP hD hS => ?_)
              obtain ⟨a_u_outcomes_45, e_a_u_outcomes_45⟩ : ∃ g, g = upd a_u_outcomes_33 l1_33.toNatClampNeg (-1 : Int32) := ⟨_, rfl⟩
              have hP : va_P D vwCl (tw cs q v_t_tapeSize v_t_textSize v_t_faultKind a_t_tape a_t_text a_g_beyond v_g_size a_g_steps a_h_beyond v_h_size a_h_steps a_r_scratch a_r_now v_r_takes v_r_negative v_r_namePlace v_r_faultKind v_r_faultPlace v_a_size v_a_limit v_a_digits v_a_kind v_a_from v_a_to v_o_size a_o_out v_b_size v_b_limit v_b_digits v_b_kind v_b_from v_b_to a_u_atom a_u_other a_u_hand v_u_marksMade v_u_came v_u_guesses v_u_right v_u_taken a_u_vars a_u_marks a_u_outcomes_45 a_u_indexes v_s_things_4 v_s_looked v_s_lookedTooOften v_s_arraysMade_4 v_s_cellsMade_4 a_s_classes a_s_starts a_s_lengths a_s_cells a_L a_K a_vc_9 a_vd_9 a_si a_sj a_iv a_inn a_ac) H := by rw [e_a_u_outcomes_45]; exact hP
              have hD : va_D A (tw cs q v_t_tapeSize v_t_textSize v_t_faultKind a_t_tape a_t_text a_g_beyond v_g_size a_g_steps a_h_beyond v_h_size a_h_steps a_r_scratch a_r_now v_r_takes v_r_negative v_r_namePlace v_r_faultKind v_r_faultPlace v_a_size v_a_limit v_a_digits v_a_kind v_a_from v_a_to v_o_size a_o_out v_b_size v_b_limit v_b_digits v_b_kind v_b_from v_b_to a_u_atom a_u_other a_u_hand v_u_marksMade v_u_came v_u_guesses v_u_right v_u_taken a_u_vars a_u_marks a_u_outcomes_45 a_u_indexes v_s_things_4 v_s_looked v_s_lookedTooOften v_s_arraysMade_4 v_s_cellsMade_4 a_s_classes a_s_starts a_s_lengths a_s_cells a_L a_K a_vc_9 a_vd_9 a_si a_sj a_iv a_inn a_ac) := by rw [e_a_u_outcomes_45]; exact hD
              obtain ⟨x46, e_x46⟩ : ∃ z : Int32, z = l1_33 + (1 : Int32) := ⟨_, rfl⟩
              obtain ⟨k_x46, g_x46⟩ : ∃ k : Int, x46.toInt = l1_33.toInt + (1) + k * 4294967296 := by rw [e_x46]; exact iAdd l1_33 (1)
              have b_x46 := iB x46
              try (have q_x46 : x46.toInt = l1_33.toInt + (1) := (by omega); clear g_x46 k_x46)
              refine lv_iinc (v := x46) (lv' := [(1, .int x46), (0, .ref (q 12))]) hx hb dX4_forget_46 hl (k := 1) rfl (by rw [e_x46]; rfl) (by decide) rfl (fun ls hl => ?_)
              refine lv_goto (tgt := 33) hx hb dX4_forget_49 (by decide) ?_
              exact ih33 x46 a_u_outcomes_45 H locs ls (by first | assumption | omega | (intros; omega) | decide) (by first | assumption | omega | (intros; omega) | decide) (by omega) hP hD hS (lv_sub hl [1, 0] rfl)
        exact J33 ((100 - (0 : Int32).toInt).toNat + 1) (0 : Int32) a_u_outcomes H locs ls (by first | assumption | omega | (intros; omega) | decide) (by first | assumption | omega | (intros; omega) | decide) (by omega) hP hD hS (lv_sub hl [1, 0] rfl)
      · skip
        refine lv_aload_n hx hb dX4_forget_15 rfl (lv_at hl 0 rfl) ?_
        refine lv_iload_n hx hb dX4_forget_16 rfl (lv_at hl 1 rfl) ?_
        refine call_r (As := [.int l1_9]) (rest := []) ⟨hx, hb, hml, hown, hts⟩ (tX4_variable (l := l) l1_9 (by first | assumption | omega | (intros; omega) | decide)) (cwV 1 hts (gV (wr21 _ (List.mem_of_getElem? (i := 22) rfl)) (wr21 _ (List.mem_of_getElem? (i := 23) rfl)) (wr22 _ (List.mem_of_getElem? (i := 0) rfl)) (wr2 _ (List.mem_of_getElem? (i := 10) rfl)) (wr22 _ (List.mem_of_getElem? (i := 1) rfl))) rfl rfl rfl (by decide +kernel) ⟨Nat.le_of_ble_eq_true rfl, Nat.le_of_ble_eq_true rfl⟩) (va_recv hK hP (ci := 3) (q0 := 12) rfl rfl) hK hP hD hE hS hA rfl hl.1 rfl (Nat.le_of_ble_eq_true rfl) dX4_forget_17 ⟨Nat.le_of_ble_eq_true rfl, Nat.le_of_ble_eq_true rfl⟩ (fun r17 w9 H locs hw17 hP hD hS => ?_)
        obtain ⟨rfl, hw17_0⟩ := hw17
        refine lv_iconst (v := (-1)) hx hb dX4_forget_20 (by decide) ?_
        refine lv_lconst (v := 0) hx hb dX4_forget_21 (by decide) ?_
        obtain ⟨k22_, hk22_⟩ := pl_V (X := (twX cs q v_t_tapeSize v_t_textSize v_t_faultKind a_t_tape a_t_text a_g_beyond v_g_size a_g_steps a_h_beyond v_h_size a_h_steps a_r_scratch a_r_now v_r_takes v_r_negative v_r_namePlace v_r_faultKind v_r_faultPlace v_a_size v_a_limit v_a_digits v_a_kind v_a_from v_a_to v_o_size a_o_out v_b_size v_b_limit v_b_digits v_b_kind v_b_from v_b_to a_u_atom a_u_other a_u_hand v_u_marksMade v_u_came v_u_guesses v_u_right v_u_taken a_u_vars a_u_marks a_u_outcomes a_u_indexes v_s_things_4 v_s_looked v_s_lookedTooOften v_s_arraysMade_4 v_s_cellsMade_4 a_s_classes a_s_starts a_s_lengths a_s_cells)) (cI := cs 0) (vc := a_vc_9) (vd := a_vd_9) (si := a_si) (sj := a_sj) (iv := a_iv) (inn := a_inn) (ac := a_ac) hw17_0
        refine call_v (As := [.int (-1), .long 0]) (rest := []) ⟨hx, hb, hml, hown, hts⟩ (tX8_become (l := l) r17 hw17_0 (-1 : Int32) (0 : Int64)) (cwV 2 hts (gV (wr22 _ (List.mem_of_getElem? (i := 2) rfl)) (wr22 _ (List.mem_of_getElem? (i := 3) rfl)) (wr22 _ (List.mem_of_getElem? (i := 4) rfl)) (wr4 _ (List.mem_of_getElem? (i := 11) rfl)) (wr22 _ (List.mem_of_getElem? (i := 5) rfl))) rfl rfl rfl (by decide +kernel) ⟨Nat.le_of_ble_eq_true rfl, Nat.le_of_ble_eq_true rfl⟩) (va_recv hK hP (ci := 7) (q0 := k22_) rfl hk22_) hK hP hD hE hS hA rfl hl.1 rfl (Nat.le_of_ble_eq_true rfl) dX4_forget_22 ⟨Nat.le_of_ble_eq_true rfl, Nat.le_of_ble_eq_true rfl⟩ (fun w9 H locs hw22 hP hD hS => ?_)
        obtain ⟨a_vc_22, a_vd_22, rfl⟩ := hw22
        obtain ⟨x25, e_x25⟩ : ∃ z : Int32, z = l1_9 + (1 : Int32) := ⟨_, rfl⟩
        obtain ⟨k_x25, g_x25⟩ : ∃ k : Int, x25.toInt = l1_9.toInt + (1) + k * 4294967296 := by rw [e_x25]; exact iAdd l1_9 (1)
        have b_x25 := iB x25
        try (have q_x25 : x25.toInt = l1_9.toInt + (1) := (by omega); clear g_x25 k_x25)
        refine lv_iinc (v := x25) (lv' := [(1, .int x25), (0, .ref (q 12))]) hx hb dX4_forget_25 hl (k := 1) rfl (by rw [e_x25]; rfl) (by decide) rfl (fun ls hl => ?_)
        refine lv_goto (tgt := 9) hx hb dX4_forget_28 (by decide) ?_
        exact ih9 x25 a_vc_22 a_vd_22 H locs ls (by first | assumption | omega | (intros; omega) | decide) (by first | assumption | omega | (intros; omega) | decide) (by omega) hP hD hS (lv_sub hl [1, 0] rfl)
  exact J9 ((26 - (0 : Int32).toInt).toNat + 1) (0 : Int32) a_vc a_vd H locs ls (by first | assumption | omega | (intros; omega) | decide) (by first | assumption | omega | (intros; omega) | decide) (by omega) hP hD hS (lv_sub hl [1, 0] rfl)

def rmX4_walk : Room := { frames := 60, cells := 0, slots := 0, locals := 1200 }
set_option maxHeartbeats 4000000 in
set_option maxRecDepth 100000 in
theorem tX4_walk {l : Launch} {D : va_G} {K : Nat → Nat → Nat} {cs : Nat → ClassId} {q : Nat → Nat} {v_t_tapeSize v_t_textSize v_t_faultKind v_g_size v_h_size v_r_takes v_r_negative v_r_namePlace v_r_faultKind v_r_faultPlace v_a_size v_a_limit v_a_digits v_a_kind v_a_from v_a_to v_o_size v_b_size v_b_limit v_b_digits v_b_kind v_b_from v_b_to v_u_marksMade v_u_came v_u_guesses v_u_right v_u_taken v_s_things v_s_looked v_s_lookedTooOften v_s_arraysMade v_s_cellsMade : Int32} {a_t_tape a_t_text a_o_out a_u_outcomes a_u_indexes a_s_classes a_s_starts a_s_lengths a_vc : Nat → Int32} {a_g_beyond a_h_beyond a_r_scratch a_r_now a_u_atom a_u_other a_u_hand : Nat} {a_g_steps a_h_steps a_u_vars a_u_marks : Nat → Option Nat} {a_s_cells a_vd a_sj : Nat → Int64} {a_L : List Nat} {a_K a_iv a_inn : Nat → Nat} {a_si a_ac : Nat → Nat → Int32} (v9 : Int32) (i9 : Int32) (j9 : Int32) (k9 : Int32) (p_0 : RF a_L a_K a_g_beyond a_h_beyond a_r_scratch a_g_steps a_h_steps a_u_atom a_u_other a_u_hand a_u_vars a_u_marks) (p_1 : STO v_s_things v_s_cellsMade a_s_starts a_s_lengths) : CtI l yX4_walk (wG yX4_walk cX4_walk 5 (some .boolean)) rmX4_walk D (twT cs) K [.ref (q 12), .int v9, .int i9, .int j9, .int k9] (tw cs q v_t_tapeSize v_t_textSize v_t_faultKind a_t_tape a_t_text a_g_beyond v_g_size a_g_steps a_h_beyond v_h_size a_h_steps a_r_scratch a_r_now v_r_takes v_r_negative v_r_namePlace v_r_faultKind v_r_faultPlace v_a_size v_a_limit v_a_digits v_a_kind v_a_from v_a_to v_o_size a_o_out v_b_size v_b_limit v_b_digits v_b_kind v_b_from v_b_to a_u_atom a_u_other a_u_hand v_u_marksMade v_u_came v_u_guesses v_u_right v_u_taken a_u_vars a_u_marks a_u_outcomes a_u_indexes v_s_things v_s_looked v_s_lookedTooOften v_s_arraysMade v_s_cellsMade a_s_classes a_s_starts a_s_lengths a_s_cells a_L a_K a_vc a_vd a_si a_sj a_iv a_inn a_ac) (fun r w1 => ∃ (a_vc' : Nat → Int32) (a_vd' : Nat → Int64), w1 = (tw cs q v_t_tapeSize v_t_textSize v_t_faultKind a_t_tape a_t_text a_g_beyond v_g_size a_g_steps a_h_beyond v_h_size a_h_steps a_r_scratch a_r_now v_r_takes v_r_negative v_r_namePlace v_r_faultKind v_r_faultPlace v_a_size v_a_limit v_a_digits v_a_kind v_a_from v_a_to v_o_size a_o_out v_b_size v_b_limit v_b_digits v_b_kind v_b_from v_b_to a_u_atom a_u_other a_u_hand v_u_marksMade v_u_came v_u_guesses v_u_right v_u_taken a_u_vars a_u_marks a_u_outcomes a_u_indexes v_s_things v_s_looked v_s_lookedTooOften v_s_arraysMade v_s_cellsMade a_s_classes a_s_starts a_s_lengths a_s_cells a_L a_K a_vc' a_vd' a_si a_sj a_iv a_inn a_ac) ∧ (r.toInt = 0 ∨ r.toInt = 1)) 0 0 := by
  intro sz
  refine Met.ofW (cc := cX4_walk) (maxL := 5) (ret := (some .boolean)) (by decide) rfl ?_
  intro p e s m args below meth c s₁ B hml hv
  obtain ⟨rfl, hsz, hP, hK, hD0, hE⟩ := hv
  have hx := B.exec
  have hb := B.bytes
  have hr := B.returns
  have hts := atoms_spec (ws := (wG yX4_walk cX4_walk 5 (some .boolean))) B.pre
  have hown : s.vm.findClass RX4 = some m.cls := findClass_of_methodNamed B.named
  have hlocks := B.notSynchronized
  subst hsz
  have hD := hD0.self (sz := s.heap.size)
  obtain ⟨A, hAe⟩ : ∃ A : Nat → Prop, A = va_A (tw cs q v_t_tapeSize v_t_textSize v_t_faultKind a_t_tape a_t_text a_g_beyond v_g_size a_g_steps a_h_beyond v_h_size a_h_steps a_r_scratch a_r_now v_r_takes v_r_negative v_r_namePlace v_r_faultKind v_r_faultPlace v_a_size v_a_limit v_a_digits v_a_kind v_a_from v_a_to v_o_size a_o_out v_b_size v_b_limit v_b_digits v_b_kind v_b_from v_b_to a_u_atom a_u_other a_u_hand v_u_marksMade v_u_came v_u_guesses v_u_right v_u_taken a_u_vars a_u_marks a_u_outcomes a_u_indexes v_s_things v_s_looked v_s_lookedTooOften v_s_arraysMade v_s_cellsMade a_s_classes a_s_starts a_s_lengths a_s_cells a_L a_K a_vc a_vd a_si a_sj a_iv a_inn a_ac) s.heap.size := ⟨_, rfl⟩
  rw [← hAe] at hD hE
  have hA : ∀ q : Nat, s.heap.size ≤ q → A q := fun q h => by rw [hAe]; exact Or.inr h
  have hS : va_S A s.heap s.heap [] := va_S.rf
  have hl := lv_entry ([.ref (q 12), .int v9, .int i9, .int j9, .int k9]) (n := 5) (Nat.le_of_ble_eq_true rfl)
  rw [lg_entry_eq]
  generalize (lg_sl ([.ref (q 12), .int v9, .int i9, .int j9, .int k9]) ++ List.replicate (5 - (lg_sl ([.ref (q 12), .int v9, .int i9, .int j9, .int k9])).length) Slot.unset).toArray = ls at hl ⊢
  have hl : lv_has ls 5 [(0, .ref (q 12)), (1, .int v9), (2, .int i9), (3, .int j9), (4, .int k9)] := hl
  refine wq (fun Q hQ => ?_)
  have hinX4 : ∀ w ∈ wsX40, w ∈ (wG yX4_walk cX4_walk 5 (some .boolean)) := fun w h => List.mem_cons_of_mem _ (inlX4 w h)
  have kc0 : (-1 : Int32).toInt = -1 := by decide
  have kc1 : (0 : Int32).toInt = 0 := by decide
  have kc2 : (1 : Int32).toInt = 1 := by decide
  have kc3 : (26 : Int32).toInt = 26 := by decide
  have k_4_14 := hts (.fieldLink RX4 44 "ArrayTrainer$Runner" "hand" "LArrayTrainer$Value;") (List.mem_cons_of_mem _ (wr4 _ (List.mem_of_getElem? (i := 14) rfl)))
  have k_4_6 := hts (.fieldLink RX4 20 "ArrayTrainer$Runner" "vars" "[LArrayTrainer$Value;") (List.mem_cons_of_mem _ (wr4 _ (List.mem_of_getElem? (i := 6) rfl)))
  have k_4_4 := hts (.fieldLink RX4 12 "ArrayTrainer$Runner" "store" "LArrayTrainer$Store;") (List.mem_cons_of_mem _ (wr4 _ (List.mem_of_getElem? (i := 4) rfl)))
  obtain ⟨H, hH⟩ : ∃ H : Heap, H = s.heap := ⟨_, rfl⟩
  obtain ⟨locs, hlc⟩ : ∃ L : List Loc, L = [] := ⟨_, rfl⟩
  have hP : va_P D vwCl (tw cs q v_t_tapeSize v_t_textSize v_t_faultKind a_t_tape a_t_text a_g_beyond v_g_size a_g_steps a_h_beyond v_h_size a_h_steps a_r_scratch a_r_now v_r_takes v_r_negative v_r_namePlace v_r_faultKind v_r_faultPlace v_a_size v_a_limit v_a_digits v_a_kind v_a_from v_a_to v_o_size a_o_out v_b_size v_b_limit v_b_digits v_b_kind v_b_from v_b_to a_u_atom a_u_other a_u_hand v_u_marksMade v_u_came v_u_guesses v_u_right v_u_taken a_u_vars a_u_marks a_u_outcomes a_u_indexes v_s_things v_s_looked v_s_lookedTooOften v_s_arraysMade v_s_cellsMade a_s_classes a_s_starts a_s_lengths a_s_cells a_L a_K a_vc a_vd a_si a_sj a_iv a_inn a_ac) H := by rw [hH]; exact hP
  have hS : va_S A s.heap H locs := by rw [hH, hlc]; exact hS
  refine wHL hH hlc ?_
  have b_v9 := iB v9
  have b_i9 := iB i9
  have b_j9 := iB j9
  have b_k9 := iB k9
  refine lv_iload_n hx hb dX4_walk_0 rfl (lv_at hl 1 rfl) ?_
  refine m_if_lt (X := v9.toInt) (tgt := 10) hx hb dX4_walk_1 (by decide) rfl (fun c1 => ?_) (fun c1 => ?_)
  · skip
    refine lv_iconst (v := 0) hx hb dX4_walk_10 (by decide) ?_
    subst hAe
    rw [hQ]
    exact W.zret (v := 0) hx hb hr (by decide) (fun t ht hW => ⟨⟨0, _, rfl, ⟨a_vc, a_vd, rfl, by first | assumption | omega | (intros; omega) | decide⟩, by rw [ht]; exact hP, va_K.moved hW.alike hK, hD⟩, hS.F ht⟩) hS.2.2 dX4_walk_11
  · skip
    refine lv_iload_n hx hb dX4_walk_4 rfl (lv_at hl 1 rfl) ?_
    refine lv_bipush (v := 26) hx hb dX4_walk_5 (by decide) ?_
    refine m_icmp_lt (X := v9.toInt) (Y := 26) (tgt := 12) hx hb dX4_walk_7 (by decide) rfl (by decide) (fun c7 => ?_) (fun c7 => ?_)
    · skip
      refine lv_aload_n hx hb dX4_walk_12 rfl (lv_at hl 0 rfl) ?_
      have hf13 : aV a_L a_K a_u_hand := by first | assumption | exact RF.z_uH (by assumption)
      refine va_get (D := D) (ci := 3) (v := .ref a_u_hand) (C := RX4) (T := TX4) (N := 13) hx hb hts hinX4 hown hK hP 12 rfl rfl 7 (by decide) k_4_14 (fun _ h9 => h9) rfl dX4_walk_13 ?_
      refine lv_aload_n hx hb dX4_walk_16 rfl (lv_at hl 0 rfl) ?_
      refine va_get (D := D) (ci := 3) (v := .ref (q 13)) (C := RX4) (T := TX4) (N := 13) hx hb hts hinX4 hown hK hP 12 rfl rfl 1 (by decide) k_4_6 (fun _ h9 => h9) rfl dX4_walk_17 ?_
      refine lv_iload_n hx hb dX4_walk_20 rfl (lv_at hl 1 rfl) ?_
      obtain ⟨x21, e_x21, h_x21⟩ := RF.z_vs (by assumption) v9.toNatClampNeg (by have t9 := tn (i := v9) (by omega); omega)
      refine m_aldq hx hb hK hP 13 3 rfl rfl (ix (by omega) (by omega)) e_x21 dX4_walk_21 ?_
      obtain ⟨k22_, hk22_⟩ := pl_V (X := (twX cs q v_t_tapeSize v_t_textSize v_t_faultKind a_t_tape a_t_text a_g_beyond v_g_size a_g_steps a_h_beyond v_h_size a_h_steps a_r_scratch a_r_now v_r_takes v_r_negative v_r_namePlace v_r_faultKind v_r_faultPlace v_a_size v_a_limit v_a_digits v_a_kind v_a_from v_a_to v_o_size a_o_out v_b_size v_b_limit v_b_digits v_b_kind v_b_from v_b_to a_u_atom a_u_other a_u_hand v_u_marksMade v_u_came v_u_guesses v_u_right v_u_taken a_u_vars a_u_marks a_u_outcomes a_u_indexes v_s_things v_s_looked v_s_lookedTooOften v_s_arraysMade v_s_cellsMade a_s_classes a_s_starts a_s_lengths a_s_cells)) (cI := cs 0) (vc := a_vc) (vd := a_vd) (si := a_si) (sj := a_sj) (iv := a_iv) (inn := a_inn) (ac := a_ac) hf13
      refine call_v (As := [.ref x21]) (rest := []) ⟨hx, hb, hml, hown, hts⟩ (tX8_becomeLike (l := l) a_u_hand hf13 x21 h_x21) (cwV 1 hts (gV (wr37 _ (List.mem_of_getElem? (i := 1) rfl)) (wr37 _ (List.mem_of_getElem? (i := 2) rfl)) (wr37 _ (List.mem_of_getElem? (i := 3) rfl)) (wr4 _ (List.mem_of_getElem? (i := 11) rfl)) (wr37 _ (List.mem_of_getElem? (i := 4) rfl))) rfl rfl rfl (by decide +kernel) ⟨Nat.le_of_ble_eq_true rfl, Nat.le_of_ble_eq_true rfl⟩) (va_recv hK hP (ci := 7) (q0 := k22_) rfl hk22_) hK hP hD hE hS hA rfl hl.1 rfl (Nat.le_of_ble_eq_true rfl) dX4_walk_22 ⟨Nat.le_of_ble_eq_true rfl, Nat.le_of_ble_eq_true rfl⟩ (fun w9 H locs hw22 hP hD hS => ?_)
      obtain ⟨a_vc_22, a_vd_22, rfl⟩ := hw22
      refine lv_iload_n hx hb dX4_walk_25 rfl (lv_at hl 2 rfl) ?_
      refine lv_iconst (v := (-1)) hx hb dX4_walk_26 (by decide) ?_
      refine m_icmp_ne (X := i9.toInt) (Y := (-1)) (tgt := 32) hx hb dX4_walk_27 (by decide) rfl (by decide) (fun c27 => ?_) (fun c27 => ?_)
      · skip
        refine lv_aload_n hx hb dX4_walk_32 rfl (lv_at hl 0 rfl) ?_
        refine va_get (D := D) (ci := 3) (v := .ref (q 17)) (C := RX4) (T := TX4) (N := 13) hx hb hts hinX4 hown hK hP 12 rfl rfl 0 (by decide) k_4_4 (fun _ h9 => h9) rfl dX4_walk_33 ?_
        refine lv_aload_n hx hb dX4_walk_36 rfl (lv_at hl 0 rfl) ?_
        have hf37 : aV a_L a_K a_u_hand := by first | assumption | exact RF.z_uH (by assumption)
        refine va_get (D := D) (ci := 3) (v := .ref a_u_hand) (C := RX4) (T := TX4) (N := 13) hx hb hts hinX4 hown hK hP 12 rfl rfl 7 (by decide) k_4_14 (fun _ h9 => h9) rfl dX4_walk_37 ?_
        refine lv_iload_n hx hb dX4_walk_40 rfl (lv_at hl 2 rfl) ?_
        refine call_i (As := [.ref a_u_hand, .int i9]) (rest := []) ⟨hx, hb, hml, hown, hts⟩ (tX7_goInto (l := l) a_u_hand hf37 i9 (by first | assumption | omega | (intros; omega) | decide)) (cwV 2 hts (gV (wr38 _ (List.mem_of_getElem? (i := 8) rfl)) (wr38 _ (List.mem_of_getElem? (i := 9) rfl)) (wr38 _ (List.mem_of_getElem? (i := 10) rfl)) (wr4 _ (List.mem_of_getElem? (i := 3) rfl)) (wr38 _ (List.mem_of_getElem? (i := 11) rfl))) rfl rfl rfl (by decide +kernel) ⟨Nat.le_of_ble_eq_true rfl, Nat.le_of_ble_eq_true rfl⟩) (va_recv hK hP (ci := 6) (q0 := 17) rfl rfl) hK hP hD hE hS hA rfl hl.1 rfl (Nat.le_of_ble_eq_true rfl) dX4_walk_41 ⟨Nat.le_of_ble_eq_true rfl, Nat.le_of_ble_eq_true rfl⟩ (fun r41 w9 H locs hw41 hP hD hS => ?_)
        obtain ⟨a_vc_41, a_vd_41, rfl, hw41_0⟩ := hw41
        have b_r41 := iB r41
        refine m_if_ne (X := r41.toInt) (tgt := 49) hx hb dX4_walk_44 (by decide) rfl (fun c44 => ?_) (fun c44 => ?_)
        · skip
          refine lv_iload_n hx hb dX4_walk_49 rfl (lv_at hl 3 rfl) ?_
          refine lv_iconst (v := (-1)) hx hb dX4_walk_50 (by decide) ?_
          refine m_icmp_ne (X := j9.toInt) (Y := (-1)) (tgt := 56) hx hb dX4_walk_51 (by decide) rfl (by decide) (fun c51 => ?_) (fun c51 => ?_)
          · skip
            refine lv_aload_n hx hb dX4_walk_56 rfl (lv_at hl 0 rfl) ?_
            refine va_get (D := D) (ci := 3) (v := .ref (q 17)) (C := RX4) (T := TX4) (N := 13) hx hb hts hinX4 hown hK hP 12 rfl rfl 0 (by decide) k_4_4 (fun _ h9 => h9) rfl dX4_walk_57 ?_
            refine lv_aload_n hx hb dX4_walk_60 rfl (lv_at hl 0 rfl) ?_
            have hf61 : aV a_L a_K a_u_hand := by first | assumption | exact RF.z_uH (by assumption)
            refine va_get (D := D) (ci := 3) (v := .ref a_u_hand) (C := RX4) (T := TX4) (N := 13) hx hb hts hinX4 hown hK hP 12 rfl rfl 7 (by decide) k_4_14 (fun _ h9 => h9) rfl dX4_walk_61 ?_
            refine lv_iload_n hx hb dX4_walk_64 rfl (lv_at hl 3 rfl) ?_
            refine call_i (As := [.ref a_u_hand, .int j9]) (rest := []) ⟨hx, hb, hml, hown, hts⟩ (tX7_goInto (l := l) a_u_hand hf61 j9 (by first | assumption | omega | (intros; omega) | decide)) (cwV 2 hts (gV (wr38 _ (List.mem_of_getElem? (i := 8) rfl)) (wr38 _ (List.mem_of_getElem? (i := 9) rfl)) (wr38 _ (List.mem_of_getElem? (i := 10) rfl)) (wr4 _ (List.mem_of_getElem? (i := 3) rfl)) (wr38 _ (List.mem_of_getElem? (i := 11) rfl))) rfl rfl rfl (by decide +kernel) ⟨Nat.le_of_ble_eq_true rfl, Nat.le_of_ble_eq_true rfl⟩) (va_recv hK hP (ci := 6) (q0 := 17) rfl rfl) hK hP hD hE hS hA rfl hl.1 rfl (Nat.le_of_ble_eq_true rfl) dX4_walk_65 ⟨Nat.le_of_ble_eq_true rfl, Nat.le_of_ble_eq_true rfl⟩ (fun r65 w9 H locs hw65 hP hD hS => ?_)
            obtain ⟨a_vc_65, a_vd_65, rfl, hw65_0⟩ := hw65
            have b_r65 := iB r65
            refine m_if_eq (X := r65.toInt) (tgt := 97) hx hb dX4_walk_68 (by decide) rfl (fun c68 => ?_) (fun c68 => ?_)
            · skip
              refine lv_iconst (v := 0) hx hb dX4_walk_97 (by decide) ?_
              subst hAe
              rw [hQ]
              exact W.zret (v := 0) hx hb hr (by decide) (fun t ht hW => ⟨⟨0, _, rfl, ⟨a_vc_65, a_vd_65, rfl, by first | assumption | omega | (intros; omega) | decide⟩, by rw [ht]; exact hP, va_K.moved hW.alike hK, hD⟩, hS.F ht⟩) hS.2.2 dX4_walk_98
            · skip
              refine lv_iload hx hb dX4_walk_71 (lv_at hl 4 rfl) ?_
              refine lv_iconst (v := (-1)) hx hb dX4_walk_73 (by decide) ?_
              refine m_icmp_eq (X := k9.toInt) (Y := (-1)) (tgt := 93) hx hb dX4_walk_74 (by decide) rfl (by decide) (fun c74 => ?_) (fun c74 => ?_)
              · skip
                refine lv_iconst (v := 1) hx hb dX4_walk_93 (by decide) ?_
                refine lv_goto (tgt := 98) hx hb dX4_walk_94 (by decide) ?_
                subst hAe
                rw [hQ]
                exact W.zret (v := 1) hx hb hr (by decide) (fun t ht hW => ⟨⟨1, _, rfl, ⟨a_vc_65, a_vd_65, rfl, by first | assumption | omega | (intros; omega) | decide⟩, by rw [ht]; exact hP, va_K.moved hW.alike hK, hD⟩, hS.F ht⟩) hS.2.2 dX4_walk_98
              · skip
                refine lv_aload_n hx hb dX4_walk_77 rfl (lv_at hl 0 rfl) ?_
                refine va_get (D := D) (ci := 3) (v := .ref (q 17)) (C := RX4) (T := TX4) (N := 13) hx hb hts hinX4 hown hK hP 12 rfl rfl 0 (by decide) k_4_4 (fun _ h9 => h9) rfl dX4_walk_78 ?_
                refine lv_aload_n hx hb dX4_walk_81 rfl (lv_at hl 0 rfl) ?_
                have hf82 : aV a_L a_K a_u_hand := by first | assumption | exact RF.z_uH (by assumption)
                refine va_get (D := D) (ci := 3) (v := .ref a_u_hand) (C := RX4) (T := TX4) (N := 13) hx hb hts hinX4 hown hK hP 12 rfl rfl 7 (by decide) k_4_14 (fun _ h9 => h9) rfl dX4_walk_82 ?_
                refine lv_iload hx hb dX4_walk_85 (lv_at hl 4 rfl) ?_
                refine call_i (As := [.ref a_u_hand, .int k9]) (rest := []) ⟨hx, hb, hml, hown, hts⟩ (tX7_goInto (l := l) a_u_hand hf82 k9 (by first | assumption | omega | (intros; omega) | decide)) (cwV 2 hts (gV (wr38 _ (List.mem_of_getElem? (i := 8) rfl)) (wr38 _ (List.mem_of_getElem? (i := 9) rfl)) (wr38 _ (List.mem_of_getElem? (i := 10) rfl)) (wr4 _ (List.mem_of_getElem? (i := 3) rfl)) (wr38 _ (List.mem_of_getElem? (i := 11) rfl))) rfl rfl rfl (by decide +kernel) ⟨Nat.le_of_ble_eq_true rfl, Nat.le_of_ble_eq_true rfl⟩) (va_recv hK hP (ci := 6) (q0 := 17) rfl rfl) hK hP hD hE hS hA rfl hl.1 rfl (Nat.le_of_ble_eq_true rfl) dX4_walk_87 ⟨Nat.le_of_ble_eq_true rfl, Nat.le_of_ble_eq_true rfl⟩ (fun r87 w9 H locs hw87 hP hD hS => ?_)
                obtain ⟨a_vc_87, a_vd_87, rfl, hw87_0⟩ := hw87
                have b_r87 := iB r87
                refine m_if_eq (X := r87.toInt) (tgt := 97) hx hb dX4_walk_90 (by decide) rfl (fun c90 => ?_) (fun c90 => ?_)
                · skip
                  refine lv_iconst (v := 0) hx hb dX4_walk_97 (by decide) ?_
                  subst hAe
                  rw [hQ]
                  exact W.zret (v := 0) hx hb hr (by decide) (fun t ht hW => ⟨⟨0, _, rfl, ⟨a_vc_87, a_vd_87, rfl, by first | assumption | omega | (intros; omega) | decide⟩, by rw [ht]; exact hP, va_K.moved hW.alike hK, hD⟩, hS.F ht⟩) hS.2.2 dX4_walk_98
                · skip
                  refine lv_iconst (v := 1) hx hb dX4_walk_93 (by decide) ?_
                  refine lv_goto (tgt := 98) hx hb dX4_walk_94 (by decide) ?_
                  subst hAe
                  rw [hQ]
                  exact W.zret (v := 1) hx hb hr (by decide) (fun t ht hW => ⟨⟨1, _, rfl, ⟨a_vc_87, a_vd_87, rfl, by first | assumption | omega | (intros; omega) | decide⟩, by rw [ht]; exact hP, va_K.moved hW.alike hK, hD⟩, hS.F ht⟩) hS.2.2 dX4_walk_98
          · skip
            refine lv_iconst (v := 1) hx hb dX4_walk_54 (by decide) ?_
            subst hAe
            rw [hQ]
            exact W.zret (v := 1) hx hb hr (by decide) (fun t ht hW => ⟨⟨1, _, rfl, ⟨a_vc_41, a_vd_41, rfl, by first | assumption | omega | (intros; omega) | decide⟩, by rw [ht]; exact hP, va_K.moved hW.alike hK, hD⟩, hS.F ht⟩) hS.2.2 dX4_walk_55
        · skip
          refine lv_iconst (v := 0) hx hb dX4_walk_47 (by decide) ?_
          subst hAe
          rw [hQ]
          exact W.zret (v := 0) hx hb hr (by decide) (fun t ht hW => ⟨⟨0, _, rfl, ⟨a_vc_41, a_vd_41, rfl, by first | assumption | omega | (intros; omega) | decide⟩, by rw [ht]; exact hP, va_K.moved hW.alike hK, hD⟩, hS.F ht⟩) hS.2.2 dX4_walk_48
      · skip
        refine lv_iconst (v := 1) hx hb dX4_walk_30 (by decide) ?_
        subst hAe
        rw [hQ]
        exact W.zret (v := 1) hx hb hr (by decide) (fun t ht hW => ⟨⟨1, _, rfl, ⟨a_vc_22, a_vd_22, rfl, by first | assumption | omega | (intros; omega) | decide⟩, by rw [ht]; exact hP, va_K.moved hW.alike hK, hD⟩, hS.F ht⟩) hS.2.2 dX4_walk_31
    · skip
      refine lv_iconst (v := 0) hx hb dX4_walk_10 (by decide) ?_
      subst hAe
      rw [hQ]
      exact W.zret (v := 0) hx hb hr (by decide) (fun t ht hW => ⟨⟨0, _, rfl, ⟨a_vc, a_vd, rfl, by first | assumption | omega | (intros; omega) | decide⟩, by rw [ht]; exact hP, va_K.moved hW.alike hK, hD⟩, hS.F ht⟩) hS.2.2 dX4_walk_11

def rmX4_handLength : Room := { frames := 40, cells := 0, slots := 0, locals := 800 }
set_option maxHeartbeats 4000000 in
set_option maxRecDepth 100000 in
theorem tX4_handLength {l : Launch} {D : va_G} {K : Nat → Nat → Nat} {cs : Nat → ClassId} {q : Nat → Nat} {v_t_tapeSize v_t_textSize v_t_faultKind v_g_size v_h_size v_r_takes v_r_negative v_r_namePlace v_r_faultKind v_r_faultPlace v_a_size v_a_limit v_a_digits v_a_kind v_a_from v_a_to v_o_size v_b_size v_b_limit v_b_digits v_b_kind v_b_from v_b_to v_u_marksMade v_u_came v_u_guesses v_u_right v_u_taken v_s_things v_s_looked v_s_lookedTooOften v_s_arraysMade v_s_cellsMade : Int32} {a_t_tape a_t_text a_o_out a_u_outcomes a_u_indexes a_s_classes a_s_starts a_s_lengths a_vc : Nat → Int32} {a_g_beyond a_h_beyond a_r_scratch a_r_now a_u_atom a_u_other a_u_hand : Nat} {a_g_steps a_h_steps a_u_vars a_u_marks : Nat → Option Nat} {a_s_cells a_vd a_sj : Nat → Int64} {a_L : List Nat} {a_K a_iv a_inn : Nat → Nat} {a_si a_ac : Nat → Nat → Int32} (p_0 : RF a_L a_K a_g_beyond a_h_beyond a_r_scratch a_g_steps a_h_steps a_u_atom a_u_other a_u_hand a_u_vars a_u_marks) (p_1 : STO v_s_things v_s_cellsMade a_s_starts a_s_lengths) : CtI l yX4_handLength (wG yX4_handLength cX4_handLength 1 (some .int)) rmX4_handLength D (twT cs) K [.ref (q 12)] (tw cs q v_t_tapeSize v_t_textSize v_t_faultKind a_t_tape a_t_text a_g_beyond v_g_size a_g_steps a_h_beyond v_h_size a_h_steps a_r_scratch a_r_now v_r_takes v_r_negative v_r_namePlace v_r_faultKind v_r_faultPlace v_a_size v_a_limit v_a_digits v_a_kind v_a_from v_a_to v_o_size a_o_out v_b_size v_b_limit v_b_digits v_b_kind v_b_from v_b_to a_u_atom a_u_other a_u_hand v_u_marksMade v_u_came v_u_guesses v_u_right v_u_taken a_u_vars a_u_marks a_u_outcomes a_u_indexes v_s_things v_s_looked v_s_lookedTooOften v_s_arraysMade v_s_cellsMade a_s_classes a_s_starts a_s_lengths a_s_cells a_L a_K a_vc a_vd a_si a_sj a_iv a_inn a_ac) (fun r w1 => w1 = (tw cs q v_t_tapeSize v_t_textSize v_t_faultKind a_t_tape a_t_text a_g_beyond v_g_size a_g_steps a_h_beyond v_h_size a_h_steps a_r_scratch a_r_now v_r_takes v_r_negative v_r_namePlace v_r_faultKind v_r_faultPlace v_a_size v_a_limit v_a_digits v_a_kind v_a_from v_a_to v_o_size a_o_out v_b_size v_b_limit v_b_digits v_b_kind v_b_from v_b_to a_u_atom a_u_other a_u_hand v_u_marksMade v_u_came v_u_guesses v_u_right v_u_taken a_u_vars a_u_marks a_u_outcomes a_u_indexes v_s_things v_s_looked v_s_lookedTooOften v_s_arraysMade v_s_cellsMade a_s_classes a_s_starts a_s_lengths a_s_cells a_L a_K a_vc a_vd a_si a_sj a_iv a_inn a_ac)) 0 0 := by
  intro sz
  refine Met.ofW (cc := cX4_handLength) (maxL := 1) (ret := (some .int)) (by decide) rfl ?_
  intro p e s m args below meth c s₁ B hml hv
  obtain ⟨rfl, hsz, hP, hK, hD0, hE⟩ := hv
  have hx := B.exec
  have hb := B.bytes
  have hr := B.returns
  have hts := atoms_spec (ws := (wG yX4_handLength cX4_handLength 1 (some .int))) B.pre
  have hown : s.vm.findClass RX4 = some m.cls := findClass_of_methodNamed B.named
  have hlocks := B.notSynchronized
  subst hsz
  have hD := hD0.self (sz := s.heap.size)
  obtain ⟨A, hAe⟩ : ∃ A : Nat → Prop, A = va_A (tw cs q v_t_tapeSize v_t_textSize v_t_faultKind a_t_tape a_t_text a_g_beyond v_g_size a_g_steps a_h_beyond v_h_size a_h_steps a_r_scratch a_r_now v_r_takes v_r_negative v_r_namePlace v_r_faultKind v_r_faultPlace v_a_size v_a_limit v_a_digits v_a_kind v_a_from v_a_to v_o_size a_o_out v_b_size v_b_limit v_b_digits v_b_kind v_b_from v_b_to a_u_atom a_u_other a_u_hand v_u_marksMade v_u_came v_u_guesses v_u_right v_u_taken a_u_vars a_u_marks a_u_outcomes a_u_indexes v_s_things v_s_looked v_s_lookedTooOften v_s_arraysMade v_s_cellsMade a_s_classes a_s_starts a_s_lengths a_s_cells a_L a_K a_vc a_vd a_si a_sj a_iv a_inn a_ac) s.heap.size := ⟨_, rfl⟩
  rw [← hAe] at hD hE
  have hA : ∀ q : Nat, s.heap.size ≤ q → A q := fun q h => by rw [hAe]; exact Or.inr h
  have hS : va_S A s.heap s.heap [] := va_S.rf
  have hl := lv_entry ([.ref (q 12)]) (n := 1) (Nat.le_of_ble_eq_true rfl)
  rw [lg_entry_eq]
  generalize (lg_sl ([.ref (q 12)]) ++ List.replicate (1 - (lg_sl ([.ref (q 12)])).length) Slot.unset).toArray = ls at hl ⊢
  have hl : lv_has ls 1 [(0, .ref (q 12))] := hl
  refine wq (fun Q hQ => ?_)
  have hinX4 : ∀ w ∈ wsX40, w ∈ (wG yX4_handLength cX4_handLength 1 (some .int)) := fun w h => List.mem_cons_of_mem _ (inlX4 w h)
  have kc0 : (-1 : Int32).toInt = -1 := by decide
  have k_4_14 := hts (.fieldLink RX4 44 "ArrayTrainer$Runner" "hand" "LArrayTrainer$Value;") (List.mem_cons_of_mem _ (wr4 _ (List.mem_of_getElem? (i := 14) rfl)))
  have k_4_4 := hts (.fieldLink RX4 12 "ArrayTrainer$Runner" "store" "LArrayTrainer$Store;") (List.mem_cons_of_mem _ (wr4 _ (List.mem_of_getElem? (i := 4) rfl)))
  obtain ⟨H, hH⟩ : ∃ H : Heap, H = s.heap := ⟨_, rfl⟩
  obtain ⟨locs, hlc⟩ : ∃ L : List Loc, L = [] := ⟨_, rfl⟩
  have hP : va_P D vwCl (tw cs q v_t_tapeSize v_t_textSize v_t_faultKind a_t_tape a_t_text a_g_beyond v_g_size a_g_steps a_h_beyond v_h_size a_h_steps a_r_scratch a_r_now v_r_takes v_r_negative v_r_namePlace v_r_faultKind v_r_faultPlace v_a_size v_a_limit v_a_digits v_a_kind v_a_from v_a_to v_o_size a_o_out v_b_size v_b_limit v_b_digits v_b_kind v_b_from v_b_to a_u_atom a_u_other a_u_hand v_u_marksMade v_u_came v_u_guesses v_u_right v_u_taken a_u_vars a_u_marks a_u_outcomes a_u_indexes v_s_things v_s_looked v_s_lookedTooOften v_s_arraysMade v_s_cellsMade a_s_classes a_s_starts a_s_lengths a_s_cells a_L a_K a_vc a_vd a_si a_sj a_iv a_inn a_ac) H := by rw [hH]; exact hP
  have hS : va_S A s.heap H locs := by rw [hH, hlc]; exact hS
  refine wHL hH hlc ?_
  refine lv_aload_n hx hb dX4_handLength_0 rfl (lv_at hl 0 rfl) ?_
  have hf1 : aV a_L a_K a_u_hand := by first | assumption | exact RF.z_uH (by assumption)
  refine va_get (D := D) (ci := 3) (v := .ref a_u_hand) (C := RX4) (T := TX4) (N := 13) hx hb hts hinX4 hown hK hP 12 rfl rfl 7 (by decide) k_4_14 (fun _ h9 => h9) rfl dX4_handLength_1 ?_
  obtain ⟨k4_, hk4_⟩ := pl_V (X := (twX cs q v_t_tapeSize v_t_textSize v_t_faultKind a_t_tape a_t_text a_g_beyond v_g_size a_g_steps a_h_beyond v_h_size a_h_steps a_r_scratch a_r_now v_r_takes v_r_negative v_r_namePlace v_r_faultKind v_r_faultPlace v_a_size v_a_limit v_a_digits v_a_kind v_a_from v_a_to v_o_size a_o_out v_b_size v_b_limit v_b_digits v_b_kind v_b_from v_b_to a_u_atom a_u_other a_u_hand v_u_marksMade v_u_came v_u_guesses v_u_right v_u_taken a_u_vars a_u_marks a_u_outcomes a_u_indexes v_s_things v_s_looked v_s_lookedTooOften v_s_arraysMade v_s_cellsMade a_s_classes a_s_starts a_s_lengths a_s_cells)) (cI := cs 0) (vc := a_vc) (vd := a_vd) (si := a_si) (sj := a_sj) (iv := a_iv) (inn := a_inn) (ac := a_ac) hf1
  refine call_i (As := []) (rest := []) ⟨hx, hb, hml, hown, hts⟩ (tX8_isArray (l := l) a_u_hand hf1 ) (cwV 0 hts (gV (wr38 _ (List.mem_of_getElem? (i := 4) rfl)) (wr38 _ (List.mem_of_getElem? (i := 5) rfl)) (wr38 _ (List.mem_of_getElem? (i := 6) rfl)) (wr4 _ (List.mem_of_getElem? (i := 11) rfl)) (wr38 _ (List.mem_of_getElem? (i := 7) rfl))) rfl rfl rfl (by decide +kernel) ⟨Nat.le_of_ble_eq_true rfl, Nat.le_of_ble_eq_true rfl⟩) (va_recv hK hP (ci := 7) (q0 := k4_) rfl hk4_) hK hP hD hE hS hA rfl hl.1 rfl (Nat.le_of_ble_eq_true rfl) dX4_handLength_4 ⟨Nat.le_of_ble_eq_true rfl, Nat.le_of_ble_eq_true rfl⟩ (fun r4 w9 H locs hw4 hP hD hS => ?_)
  obtain ⟨rfl, hw4_0⟩ := hw4
  have b_r4 := iB r4
  refine m_if_eq (X := r4.toInt) (tgt := 27) hx hb dX4_handLength_7 (by decide) rfl (fun c7 => ?_) (fun c7 => ?_)
  · skip
    refine lv_iconst (v := (-1)) hx hb dX4_handLength_27 (by decide) ?_
    subst hAe
    rw [hQ]
    exact W.iret (v := (-1)) hx hb hr (fun t ht hW => ⟨⟨(-1), _, rfl, rfl, by rw [ht]; exact hP, va_K.moved hW.alike hK, hD⟩, hS.F ht⟩) hS.2.2 dX4_handLength_28
  · skip
    refine lv_aload_n hx hb dX4_handLength_10 rfl (lv_at hl 0 rfl) ?_
    refine va_get (D := D) (ci := 3) (v := .ref (q 17)) (C := RX4) (T := TX4) (N := 13) hx hb hts hinX4 hown hK hP 12 rfl rfl 0 (by decide) k_4_4 (fun _ h9 => h9) rfl dX4_handLength_11 ?_
    refine lv_aload_n hx hb dX4_handLength_14 rfl (lv_at hl 0 rfl) ?_
    have hf15 : aV a_L a_K a_u_hand := by first | assumption | exact RF.z_uH (by assumption)
    refine va_get (D := D) (ci := 3) (v := .ref a_u_hand) (C := RX4) (T := TX4) (N := 13) hx hb hts hinX4 hown hK hP 12 rfl rfl 7 (by decide) k_4_14 (fun _ h9 => h9) rfl dX4_handLength_15 ?_
    obtain ⟨k18_, hk18_⟩ := pl_V (X := (twX cs q v_t_tapeSize v_t_textSize v_t_faultKind a_t_tape a_t_text a_g_beyond v_g_size a_g_steps a_h_beyond v_h_size a_h_steps a_r_scratch a_r_now v_r_takes v_r_negative v_r_namePlace v_r_faultKind v_r_faultPlace v_a_size v_a_limit v_a_digits v_a_kind v_a_from v_a_to v_o_size a_o_out v_b_size v_b_limit v_b_digits v_b_kind v_b_from v_b_to a_u_atom a_u_other a_u_hand v_u_marksMade v_u_came v_u_guesses v_u_right v_u_taken a_u_vars a_u_marks a_u_outcomes a_u_indexes v_s_things v_s_looked v_s_lookedTooOften v_s_arraysMade v_s_cellsMade a_s_classes a_s_starts a_s_lengths a_s_cells)) (cI := cs 0) (vc := a_vc) (vd := a_vd) (si := a_si) (sj := a_sj) (iv := a_iv) (inn := a_inn) (ac := a_ac) hf15
    refine call_i (As := []) (rest := [.ref (q 17)]) ⟨hx, hb, hml, hown, hts⟩ (tX8_array (l := l) a_u_hand hf15 ) (cwV 0 hts (gV (wr39 _ (List.mem_of_getElem? (i := 22) rfl)) (wr38 _ (List.mem_of_getElem? (i := 13) rfl)) (wr38 _ (List.mem_of_getElem? (i := 14) rfl)) (wr4 _ (List.mem_of_getElem? (i := 11) rfl)) (wr38 _ (List.mem_of_getElem? (i := 15) rfl))) rfl rfl rfl (by decide +kernel) ⟨Nat.le_of_ble_eq_true rfl, Nat.le_of_ble_eq_true rfl⟩) (va_recv hK hP (ci := 7) (q0 := k18_) rfl hk18_) hK hP hD hE hS hA rfl hl.1 rfl (Nat.le_of_ble_eq_true rfl) dX4_handLength_18 ⟨Nat.le_of_ble_eq_true rfl, Nat.le_of_ble_eq_true rfl⟩ (fun r18 w9 H locs hw18 hP hD hS => ?_)
    obtain ⟨rfl⟩ := hw18
    have b_r18 := iB r18
    refine call_i (As := [.int r18]) (rest := []) ⟨hx, hb, hml, hown, hts⟩ (tX7_lengthOf (l := l) r18 (by first | assumption | omega | (intros; omega) | decide)) (cwV 1 hts (gV (wr41 _ (List.mem_of_getElem? (i := 19) rfl)) (wr41 _ (List.mem_of_getElem? (i := 20) rfl)) (wr41 _ (List.mem_of_getElem? (i := 21) rfl)) (wr4 _ (List.mem_of_getElem? (i := 3) rfl)) (wr41 _ (List.mem_of_getElem? (i := 22) rfl))) rfl rfl rfl (by decide +kernel) ⟨Nat.le_of_ble_eq_true rfl, Nat.le_of_ble_eq_true rfl⟩) (va_recv hK hP (ci := 6) (q0 := 17) rfl rfl) hK hP hD hE hS hA rfl hl.1 rfl (Nat.le_of_ble_eq_true rfl) dX4_handLength_21 ⟨Nat.le_of_ble_eq_true rfl, Nat.le_of_ble_eq_true rfl⟩ (fun r21 w9 H locs hw21 hP hD hS => ?_)
    obtain ⟨rfl, hw21_0, hw21_1, hw21_2⟩ := hw21
    have b_r21 := iB r21
    refine lv_goto (tgt := 28) hx hb dX4_handLength_24 (by decide) ?_
    subst hAe
    rw [hQ]
    exact W.iret (v := r21) hx hb hr (fun t ht hW => ⟨⟨r21, _, rfl, rfl, by rw [ht]; exact hP, va_K.moved hW.alike hK, hD⟩, hS.F ht⟩) hS.2.2 dX4_handLength_28

def rmX4_holdSameThing : Room := { frames := 80, cells := 0, slots := 0, locals := 1600 }
set_option maxHeartbeats 4000000 in
set_option maxRecDepth 100000 in
theorem tX4_holdSameThing {l : Launch} {D : va_G} {K : Nat → Nat → Nat} {cs : Nat → ClassId} {q : Nat → Nat} {v_t_tapeSize v_t_textSize v_t_faultKind v_g_size v_h_size v_r_takes v_r_negative v_r_namePlace v_r_faultKind v_r_faultPlace v_a_size v_a_limit v_a_digits v_a_kind v_a_from v_a_to v_o_size v_b_size v_b_limit v_b_digits v_b_kind v_b_from v_b_to v_u_marksMade v_u_came v_u_guesses v_u_right v_u_taken v_s_things v_s_looked v_s_lookedTooOften v_s_arraysMade v_s_cellsMade : Int32} {a_t_tape a_t_text a_o_out a_u_outcomes a_u_indexes a_s_classes a_s_starts a_s_lengths a_vc : Nat → Int32} {a_g_beyond a_h_beyond a_r_scratch a_r_now a_u_atom a_u_other a_u_hand : Nat} {a_g_steps a_h_steps a_u_vars a_u_marks : Nat → Option Nat} {a_s_cells a_vd a_sj : Nat → Int64} {a_L : List Nat} {a_K a_iv a_inn : Nat → Nat} {a_si a_ac : Nat → Nat → Int32} (v9 : Int32) (i9 : Int32) (w9 : Int32) (j9 : Int32) (p_0 : RF a_L a_K a_g_beyond a_h_beyond a_r_scratch a_g_steps a_h_steps a_u_atom a_u_other a_u_hand a_u_vars a_u_marks) (p_1 : STO v_s_things v_s_cellsMade a_s_starts a_s_lengths) : CtI l yX4_holdSameThing (wG yX4_holdSameThing cX4_holdSameThing 5 (some .boolean)) rmX4_holdSameThing D (twT cs) K [.ref (q 12), .int v9, .int i9, .int w9, .int j9] (tw cs q v_t_tapeSize v_t_textSize v_t_faultKind a_t_tape a_t_text a_g_beyond v_g_size a_g_steps a_h_beyond v_h_size a_h_steps a_r_scratch a_r_now v_r_takes v_r_negative v_r_namePlace v_r_faultKind v_r_faultPlace v_a_size v_a_limit v_a_digits v_a_kind v_a_from v_a_to v_o_size a_o_out v_b_size v_b_limit v_b_digits v_b_kind v_b_from v_b_to a_u_atom a_u_other a_u_hand v_u_marksMade v_u_came v_u_guesses v_u_right v_u_taken a_u_vars a_u_marks a_u_outcomes a_u_indexes v_s_things v_s_looked v_s_lookedTooOften v_s_arraysMade v_s_cellsMade a_s_classes a_s_starts a_s_lengths a_s_cells a_L a_K a_vc a_vd a_si a_sj a_iv a_inn a_ac) (fun r w1 => ∃ (a_vc' : Nat → Int32) (a_vd' : Nat → Int64), w1 = (tw cs q v_t_tapeSize v_t_textSize v_t_faultKind a_t_tape a_t_text a_g_beyond v_g_size a_g_steps a_h_beyond v_h_size a_h_steps a_r_scratch a_r_now v_r_takes v_r_negative v_r_namePlace v_r_faultKind v_r_faultPlace v_a_size v_a_limit v_a_digits v_a_kind v_a_from v_a_to v_o_size a_o_out v_b_size v_b_limit v_b_digits v_b_kind v_b_from v_b_to a_u_atom a_u_other a_u_hand v_u_marksMade v_u_came v_u_guesses v_u_right v_u_taken a_u_vars a_u_marks a_u_outcomes a_u_indexes v_s_things v_s_looked v_s_lookedTooOften v_s_arraysMade v_s_cellsMade a_s_classes a_s_starts a_s_lengths a_s_cells a_L a_K a_vc' a_vd' a_si a_sj a_iv a_inn a_ac) ∧ (r.toInt = 0 ∨ r.toInt = 1)) 0 0 := by
  intro sz
  refine Met.ofW (cc := cX4_holdSameThing) (maxL := 5) (ret := (some .boolean)) (by decide) rfl ?_
  intro p e s m args below meth c s₁ B hml hv
  obtain ⟨rfl, hsz, hP, hK, hD0, hE⟩ := hv
  have hx := B.exec
  have hb := B.bytes
  have hr := B.returns
  have hts := atoms_spec (ws := (wG yX4_holdSameThing cX4_holdSameThing 5 (some .boolean))) B.pre
  have hown : s.vm.findClass RX4 = some m.cls := findClass_of_methodNamed B.named
  have hlocks := B.notSynchronized
  subst hsz
  have hD := hD0.self (sz := s.heap.size)
  obtain ⟨A, hAe⟩ : ∃ A : Nat → Prop, A = va_A (tw cs q v_t_tapeSize v_t_textSize v_t_faultKind a_t_tape a_t_text a_g_beyond v_g_size a_g_steps a_h_beyond v_h_size a_h_steps a_r_scratch a_r_now v_r_takes v_r_negative v_r_namePlace v_r_faultKind v_r_faultPlace v_a_size v_a_limit v_a_digits v_a_kind v_a_from v_a_to v_o_size a_o_out v_b_size v_b_limit v_b_digits v_b_kind v_b_from v_b_to a_u_atom a_u_other a_u_hand v_u_marksMade v_u_came v_u_guesses v_u_right v_u_taken a_u_vars a_u_marks a_u_outcomes a_u_indexes v_s_things v_s_looked v_s_lookedTooOften v_s_arraysMade v_s_cellsMade a_s_classes a_s_starts a_s_lengths a_s_cells a_L a_K a_vc a_vd a_si a_sj a_iv a_inn a_ac) s.heap.size := ⟨_, rfl⟩
  rw [← hAe] at hD hE
  have hA : ∀ q : Nat, s.heap.size ≤ q → A q := fun q h => by rw [hAe]; exact Or.inr h
  have hS : va_S A s.heap s.heap [] := va_S.rf
  have hl := lv_entry ([.ref (q 12), .int v9, .int i9, .int w9, .int j9]) (n := 5) (Nat.le_of_ble_eq_true rfl)
  rw [lg_entry_eq]
  generalize (lg_sl ([.ref (q 12), .int v9, .int i9, .int w9, .int j9]) ++ List.replicate (5 - (lg_sl ([.ref (q 12), .int v9, .int i9, .int w9, .int j9])).length) Slot.unset).toArray = ls at hl ⊢
  have hl : lv_has ls 5 [(0, .ref (q 12)), (1, .int v9), (2, .int i9), (3, .int w9), (4, .int j9)] := hl
  refine wq (fun Q hQ => ?_)
  have hinX4 : ∀ w ∈ wsX40, w ∈ (wG yX4_holdSameThing cX4_holdSameThing 5 (some .boolean)) := fun w h => List.mem_cons_of_mem _ (inlX4 w h)
  have kc0 : (-1 : Int32).toInt = -1 := by decide
  have kc1 : (0 : Int32).toInt = 0 := by decide
  have kc2 : (1 : Int32).toInt = 1 := by decide
  have k_4_14 := hts (.fieldLink RX4 44 "ArrayTrainer$Runner" "hand" "LArrayTrainer$Value;") (List.mem_cons_of_mem _ (wr4 _ (List.mem_of_getElem? (i := 14) rfl)))
  have k_4_13 := hts (.fieldLink RX4 41 "ArrayTrainer$Runner" "other" "LArrayTrainer$Value;") (List.mem_cons_of_mem _ (wr4 _ (List.mem_of_getElem? (i := 13) rfl)))
  obtain ⟨H, hH⟩ : ∃ H : Heap, H = s.heap := ⟨_, rfl⟩
  obtain ⟨locs, hlc⟩ : ∃ L : List Loc, L = [] := ⟨_, rfl⟩
  have hP : va_P D vwCl (tw cs q v_t_tapeSize v_t_textSize v_t_faultKind a_t_tape a_t_text a_g_beyond v_g_size a_g_steps a_h_beyond v_h_size a_h_steps a_r_scratch a_r_now v_r_takes v_r_negative v_r_namePlace v_r_faultKind v_r_faultPlace v_a_size v_a_limit v_a_digits v_a_kind v_a_from v_a_to v_o_size a_o_out v_b_size v_b_limit v_b_digits v_b_kind v_b_from v_b_to a_u_atom a_u_other a_u_hand v_u_marksMade v_u_came v_u_guesses v_u_right v_u_taken a_u_vars a_u_marks a_u_outcomes a_u_indexes v_s_things v_s_looked v_s_lookedTooOften v_s_arraysMade v_s_cellsMade a_s_classes a_s_starts a_s_lengths a_s_cells a_L a_K a_vc a_vd a_si a_sj a_iv a_inn a_ac) H := by rw [hH]; exact hP
  have hS : va_S A s.heap H locs := by rw [hH, hlc]; exact hS
  refine wHL hH hlc ?_
  have b_v9 := iB v9
  have b_i9 := iB i9
  have b_w9 := iB w9
  have b_j9 := iB j9
  refine lv_aload_n hx hb dX4_holdSameThing_0 rfl (lv_at hl 0 rfl) ?_
  refine lv_iload_n hx hb dX4_holdSameThing_1 rfl (lv_at hl 1 rfl) ?_
  refine lv_iload_n hx hb dX4_holdSameThing_2 rfl (lv_at hl 2 rfl) ?_
  refine lv_iconst (v := (-1)) hx hb dX4_holdSameThing_3 (by decide) ?_
  refine lv_iconst (v := (-1)) hx hb dX4_holdSameThing_4 (by decide) ?_
  refine call_i (As := [.int v9, .int i9, .int (-1), .int (-1)]) (rest := []) ⟨hx, hb, hml, hown, hts⟩ (tX4_walk (l := l) v9 i9 (-1 : Int32) (-1 : Int32) (by first | assumption | omega | (intros; omega) | decide) (by first | assumption | omega | (intros; omega) | decide)) (cwV 4 hts (gV (wr55 _ (List.mem_of_getElem? (i := 15) rfl)) (wr53 _ (List.mem_of_getElem? (i := 23) rfl)) (wr54 _ (List.mem_of_getElem? (i := 0) rfl)) (wr2 _ (List.mem_of_getElem? (i := 10) rfl)) (wr54 _ (List.mem_of_getElem? (i := 1) rfl))) rfl rfl rfl (by decide +kernel) ⟨Nat.le_of_ble_eq_true rfl, Nat.le_of_ble_eq_true rfl⟩) (va_recv hK hP (ci := 3) (q0 := 12) rfl rfl) hK hP hD hE hS hA rfl hl.1 rfl (Nat.le_of_ble_eq_true rfl) dX4_holdSameThing_5 ⟨Nat.le_of_ble_eq_true rfl, Nat.le_of_ble_eq_true rfl⟩ (fun r5 w9 H locs hw5 hP hD hS => ?_)
  obtain ⟨a_vc_5, a_vd_5, rfl, hw5_0⟩ := hw5
  have b_r5 := iB r5
  refine m_if_eq (X := r5.toInt) (tgt := 31) hx hb dX4_holdSameThing_8 (by decide) rfl (fun c8 => ?_) (fun c8 => ?_)
  · skip
    refine lv_iconst (v := 0) hx hb dX4_holdSameThing_31 (by decide) ?_
    subst hAe
    rw [hQ]
    exact W.zret (v := 0) hx hb hr (by decide) (fun t ht hW => ⟨⟨0, _, rfl, ⟨a_vc_5, a_vd_5, rfl, by first | assumption | omega | (intros; omega) | decide⟩, by rw [ht]; exact hP, va_K.moved hW.alike hK, hD⟩, hS.F ht⟩) hS.2.2 dX4_holdSameThing_32
  · skip
    refine lv_aload_n hx hb dX4_holdSameThing_11 rfl (lv_at hl 0 rfl) ?_
    have hf12 : aV a_L a_K a_u_hand := by first | assumption | exact RF.z_uH (by assumption)
    refine va_get (D := D) (ci := 3) (v := .ref a_u_hand) (C := RX4) (T := TX4) (N := 13) hx hb hts hinX4 hown hK hP 12 rfl rfl 7 (by decide) k_4_14 (fun _ h9 => h9) rfl dX4_holdSameThing_12 ?_
    obtain ⟨k15_, hk15_⟩ := pl_V (X := (twX cs q v_t_tapeSize v_t_textSize v_t_faultKind a_t_tape a_t_text a_g_beyond v_g_size a_g_steps a_h_beyond v_h_size a_h_steps a_r_scratch a_r_now v_r_takes v_r_negative v_r_namePlace v_r_faultKind v_r_faultPlace v_a_size v_a_limit v_a_digits v_a_kind v_a_from v_a_to v_o_size a_o_out v_b_size v_b_limit v_b_digits v_b_kind v_b_from v_b_to a_u_atom a_u_other a_u_hand v_u_marksMade v_u_came v_u_guesses v_u_right v_u_taken a_u_vars a_u_marks a_u_outcomes a_u_indexes v_s_things v_s_looked v_s_lookedTooOften v_s_arraysMade v_s_cellsMade a_s_classes a_s_starts a_s_lengths a_s_cells)) (cI := cs 0) (vc := a_vc_5) (vd := a_vd_5) (si := a_si) (sj := a_sj) (iv := a_iv) (inn := a_inn) (ac := a_ac) hf12
    refine call_i (As := []) (rest := []) ⟨hx, hb, hml, hown, hts⟩ (tX8_isNone (l := l) a_u_hand hf12 ) (cwV 0 hts (gV (wr36 _ (List.mem_of_getElem? (i := 14) rfl)) (wr36 _ (List.mem_of_getElem? (i := 15) rfl)) (wr36 _ (List.mem_of_getElem? (i := 16) rfl)) (wr4 _ (List.mem_of_getElem? (i := 11) rfl)) (wr36 _ (List.mem_of_getElem? (i := 17) rfl))) rfl rfl rfl (by decide +kernel) ⟨Nat.le_of_ble_eq_true rfl, Nat.le_of_ble_eq_true rfl⟩) (va_recv hK hP (ci := 7) (q0 := k15_) rfl hk15_) hK hP hD hE hS hA rfl hl.1 rfl (Nat.le_of_ble_eq_true rfl) dX4_holdSameThing_15 ⟨Nat.le_of_ble_eq_true rfl, Nat.le_of_ble_eq_true rfl⟩ (fun r15 w9 H locs hw15 hP hD hS => ?_)
    obtain ⟨rfl, hw15_0⟩ := hw15
    have b_r15 := iB r15
    refine m_if_ne (X := r15.toInt) (tgt := 31) hx hb dX4_holdSameThing_18 (by decide) rfl (fun c18 => ?_) (fun c18 => ?_)
    · skip
      refine lv_iconst (v := 0) hx hb dX4_holdSameThing_31 (by decide) ?_
      subst hAe
      rw [hQ]
      exact W.zret (v := 0) hx hb hr (by decide) (fun t ht hW => ⟨⟨0, _, rfl, ⟨a_vc_5, a_vd_5, rfl, by first | assumption | omega | (intros; omega) | decide⟩, by rw [ht]; exact hP, va_K.moved hW.alike hK, hD⟩, hS.F ht⟩) hS.2.2 dX4_holdSameThing_32
    · skip
      refine lv_aload_n hx hb dX4_holdSameThing_21 rfl (lv_at hl 0 rfl) ?_
      have hf22 : aV a_L a_K a_u_hand := by first | assumption | exact RF.z_uH (by assumption)
      refine va_get (D := D) (ci := 3) (v := .ref a_u_hand) (C := RX4) (T := TX4) (N := 13) hx hb hts hinX4 hown hK hP 12 rfl rfl 7 (by decide) k_4_14 (fun _ h9 => h9) rfl dX4_holdSameThing_22 ?_
      obtain ⟨k25_, hk25_⟩ := pl_V (X := (twX cs q v_t_tapeSize v_t_textSize v_t_faultKind a_t_tape a_t_text a_g_beyond v_g_size a_g_steps a_h_beyond v_h_size a_h_steps a_r_scratch a_r_now v_r_takes v_r_negative v_r_namePlace v_r_faultKind v_r_faultPlace v_a_size v_a_limit v_a_digits v_a_kind v_a_from v_a_to v_o_size a_o_out v_b_size v_b_limit v_b_digits v_b_kind v_b_from v_b_to a_u_atom a_u_other a_u_hand v_u_marksMade v_u_came v_u_guesses v_u_right v_u_taken a_u_vars a_u_marks a_u_outcomes a_u_indexes v_s_things v_s_looked v_s_lookedTooOften v_s_arraysMade v_s_cellsMade a_s_classes a_s_starts a_s_lengths a_s_cells)) (cI := cs 0) (vc := a_vc_5) (vd := a_vd_5) (si := a_si) (sj := a_sj) (iv := a_iv) (inn := a_inn) (ac := a_ac) hf22
      refine call_i (As := []) (rest := []) ⟨hx, hb, hml, hown, hts⟩ (tX8_isNumber (l := l) a_u_hand hf22 ) (cwV 0 hts (gV (wr39 _ (List.mem_of_getElem? (i := 17) rfl)) (wr39 _ (List.mem_of_getElem? (i := 18) rfl)) (wr39 _ (List.mem_of_getElem? (i := 19) rfl)) (wr4 _ (List.mem_of_getElem? (i := 11) rfl)) (wr39 _ (List.mem_of_getElem? (i := 20) rfl))) rfl rfl rfl (by decide +kernel) ⟨Nat.le_of_ble_eq_true rfl, Nat.le_of_ble_eq_true rfl⟩) (va_recv hK hP (ci := 7) (q0 := k25_) rfl hk25_) hK hP hD hE hS hA rfl hl.1 rfl (Nat.le_of_ble_eq_true rfl) dX4_holdSameThing_25 ⟨Nat.le_of_ble_eq_true rfl, Nat.le_of_ble_eq_true rfl⟩ (fun r25 w9 H locs hw25 hP hD hS => ?_)
      obtain ⟨rfl, hw25_0⟩ := hw25
      have b_r25 := iB r25
      refine m_if_eq (X := r25.toInt) (tgt := 33) hx hb dX4_holdSameThing_28 (by decide) rfl (fun c28 => ?_) (fun c28 => ?_)
      · skip
        refine lv_aload_n hx hb dX4_holdSameThing_33 rfl (lv_at hl 0 rfl) ?_
        have hf34 : aV a_L a_K a_u_other := by first | assumption | exact RF.z_uO (by assumption)
        refine va_get (D := D) (ci := 3) (v := .ref a_u_other) (C := RX4) (T := TX4) (N := 13) hx hb hts hinX4 hown hK hP 12 rfl rfl 6 (by decide) k_4_13 (fun _ h9 => h9) rfl dX4_holdSameThing_34 ?_
        refine lv_aload_n hx hb dX4_holdSameThing_37 rfl (lv_at hl 0 rfl) ?_
        have hf38 : aV a_L a_K a_u_hand := by first | assumption | exact RF.z_uH (by assumption)
        refine va_get (D := D) (ci := 3) (v := .ref a_u_hand) (C := RX4) (T := TX4) (N := 13) hx hb hts hinX4 hown hK hP 12 rfl rfl 7 (by decide) k_4_14 (fun _ h9 => h9) rfl dX4_holdSameThing_38 ?_
        obtain ⟨k41_, hk41_⟩ := pl_V (X := (twX cs q v_t_tapeSize v_t_textSize v_t_faultKind a_t_tape a_t_text a_g_beyond v_g_size a_g_steps a_h_beyond v_h_size a_h_steps a_r_scratch a_r_now v_r_takes v_r_negative v_r_namePlace v_r_faultKind v_r_faultPlace v_a_size v_a_limit v_a_digits v_a_kind v_a_from v_a_to v_o_size a_o_out v_b_size v_b_limit v_b_digits v_b_kind v_b_from v_b_to a_u_atom a_u_other a_u_hand v_u_marksMade v_u_came v_u_guesses v_u_right v_u_taken a_u_vars a_u_marks a_u_outcomes a_u_indexes v_s_things v_s_looked v_s_lookedTooOften v_s_arraysMade v_s_cellsMade a_s_classes a_s_starts a_s_lengths a_s_cells)) (cI := cs 0) (vc := a_vc_5) (vd := a_vd_5) (si := a_si) (sj := a_sj) (iv := a_iv) (inn := a_inn) (ac := a_ac) hf34
        refine call_v (As := [.ref a_u_hand]) (rest := []) ⟨hx, hb, hml, hown, hts⟩ (tX8_becomeLike (l := l) a_u_other hf34 a_u_hand hf38) (cwV 1 hts (gV (wr37 _ (List.mem_of_getElem? (i := 1) rfl)) (wr37 _ (List.mem_of_getElem? (i := 2) rfl)) (wr37 _ (List.mem_of_getElem? (i := 3) rfl)) (wr4 _ (List.mem_of_getElem? (i := 11) rfl)) (wr37 _ (List.mem_of_getElem? (i := 4) rfl))) rfl rfl rfl (by decide +kernel) ⟨Nat.le_of_ble_eq_true rfl, Nat.le_of_ble_eq_true rfl⟩) (va_recv hK hP (ci := 7) (q0 := k41_) rfl hk41_) hK hP hD hE hS hA rfl hl.1 rfl (Nat.le_of_ble_eq_true rfl) dX4_holdSameThing_41 ⟨Nat.le_of_ble_eq_true rfl, Nat.le_of_ble_eq_true rfl⟩ (fun w9 H locs hw41 hP hD hS => ?_)
        obtain ⟨a_vc_41, a_vd_41, rfl⟩ := hw41
        refine lv_aload_n hx hb dX4_holdSameThing_44 rfl (lv_at hl 0 rfl) ?_
        refine lv_iload_n hx hb dX4_holdSameThing_45 rfl (lv_at hl 3 rfl) ?_
        refine lv_iload hx hb dX4_holdSameThing_46 (lv_at hl 4 rfl) ?_
        refine lv_iconst (v := (-1)) hx hb dX4_holdSameThing_48 (by decide) ?_
        refine lv_iconst (v := (-1)) hx hb dX4_holdSameThing_49 (by decide) ?_
        refine call_i (As := [.int w9, .int j9, .int (-1), .int (-1)]) (rest := []) ⟨hx, hb, hml, hown, hts⟩ (tX4_walk (l := l) w9 j9 (-1 : Int32) (-1 : Int32) (by first | assumption | omega | (intros; omega) | decide) (by first | assumption | omega | (intros; omega) | decide)) (cwV 4 hts (gV (wr55 _ (List.mem_of_getElem? (i := 15) rfl)) (wr53 _ (List.mem_of_getElem? (i := 23) rfl)) (wr54 _ (List.mem_of_getElem? (i := 0) rfl)) (wr2 _ (List.mem_of_getElem? (i := 10) rfl)) (wr54 _ (List.mem_of_getElem? (i := 1) rfl))) rfl rfl rfl (by decide +kernel) ⟨Nat.le_of_ble_eq_true rfl, Nat.le_of_ble_eq_true rfl⟩) (va_recv hK hP (ci := 3) (q0 := 12) rfl rfl) hK hP hD hE hS hA rfl hl.1 rfl (Nat.le_of_ble_eq_true rfl) dX4_holdSameThing_50 ⟨Nat.le_of_ble_eq_true rfl, Nat.le_of_ble_eq_true rfl⟩ (fun r50 w9 H locs hw50 hP hD hS => ?_)
        obtain ⟨a_vc_50, a_vd_50, rfl, hw50_0⟩ := hw50
        have b_r50 := iB r50
        refine m_if_eq (X := r50.toInt) (tgt := 74) hx hb dX4_holdSameThing_53 (by decide) rfl (fun c53 => ?_) (fun c53 => ?_)
        · skip
          refine lv_iconst (v := 0) hx hb dX4_holdSameThing_74 (by decide) ?_
          subst hAe
          rw [hQ]
          exact W.zret (v := 0) hx hb hr (by decide) (fun t ht hW => ⟨⟨0, _, rfl, ⟨a_vc_50, a_vd_50, rfl, by first | assumption | omega | (intros; omega) | decide⟩, by rw [ht]; exact hP, va_K.moved hW.alike hK, hD⟩, hS.F ht⟩) hS.2.2 dX4_holdSameThing_75
        · skip
          refine lv_aload_n hx hb dX4_holdSameThing_56 rfl (lv_at hl 0 rfl) ?_
          have hf57 : aV a_L a_K a_u_hand := by first | assumption | exact RF.z_uH (by assumption)
          refine va_get (D := D) (ci := 3) (v := .ref a_u_hand) (C := RX4) (T := TX4) (N := 13) hx hb hts hinX4 hown hK hP 12 rfl rfl 7 (by decide) k_4_14 (fun _ h9 => h9) rfl dX4_holdSameThing_57 ?_
          refine lv_aload_n hx hb dX4_holdSameThing_60 rfl (lv_at hl 0 rfl) ?_
          have hf61 : aV a_L a_K a_u_other := by first | assumption | exact RF.z_uO (by assumption)
          refine va_get (D := D) (ci := 3) (v := .ref a_u_other) (C := RX4) (T := TX4) (N := 13) hx hb hts hinX4 hown hK hP 12 rfl rfl 6 (by decide) k_4_13 (fun _ h9 => h9) rfl dX4_holdSameThing_61 ?_
          obtain ⟨k64_, hk64_⟩ := pl_V (X := (twX cs q v_t_tapeSize v_t_textSize v_t_faultKind a_t_tape a_t_text a_g_beyond v_g_size a_g_steps a_h_beyond v_h_size a_h_steps a_r_scratch a_r_now v_r_takes v_r_negative v_r_namePlace v_r_faultKind v_r_faultPlace v_a_size v_a_limit v_a_digits v_a_kind v_a_from v_a_to v_o_size a_o_out v_b_size v_b_limit v_b_digits v_b_kind v_b_from v_b_to a_u_atom a_u_other a_u_hand v_u_marksMade v_u_came v_u_guesses v_u_right v_u_taken a_u_vars a_u_marks a_u_outcomes a_u_indexes v_s_things v_s_looked v_s_lookedTooOften v_s_arraysMade v_s_cellsMade a_s_classes a_s_starts a_s_lengths a_s_cells)) (cI := cs 0) (vc := a_vc_50) (vd := a_vd_50) (si := a_si) (sj := a_sj) (iv := a_iv) (inn := a_inn) (ac := a_ac) hf57
          refine call_i (As := [.ref a_u_other]) (rest := []) ⟨hx, hb, hml, hown, hts⟩ (tX8_isLike (l := l) a_u_hand hf57 a_u_other hf61) (cwV 1 hts (gV (wr46 _ (List.mem_of_getElem? (i := 16) rfl)) (wr46 _ (List.mem_of_getElem? (i := 17) rfl)) (wr46 _ (List.mem_of_getElem? (i := 18) rfl)) (wr4 _ (List.mem_of_getElem? (i := 11) rfl)) (wr46 _ (List.mem_of_getElem? (i := 19) rfl))) rfl rfl rfl (by decide +kernel) ⟨Nat.le_of_ble_eq_true rfl, Nat.le_of_ble_eq_true rfl⟩) (va_recv hK hP (ci := 7) (q0 := k64_) rfl hk64_) hK hP hD hE hS hA rfl hl.1 rfl (Nat.le_of_ble_eq_true rfl) dX4_holdSameThing_64 ⟨Nat.le_of_ble_eq_true rfl, Nat.le_of_ble_eq_true rfl⟩ (fun r64 w9 H locs hw64 hP hD hS => ?_)
          obtain ⟨rfl, hw64_0⟩ := hw64
          have b_r64 := iB r64
          refine m_if_eq (X := r64.toInt) (tgt := 74) hx hb dX4_holdSameThing_67 (by decide) rfl (fun c67 => ?_) (fun c67 => ?_)
          · skip
            refine lv_iconst (v := 0) hx hb dX4_holdSameThing_74 (by decide) ?_
            subst hAe
            rw [hQ]
            exact W.zret (v := 0) hx hb hr (by decide) (fun t ht hW => ⟨⟨0, _, rfl, ⟨a_vc_50, a_vd_50, rfl, by first | assumption | omega | (intros; omega) | decide⟩, by rw [ht]; exact hP, va_K.moved hW.alike hK, hD⟩, hS.F ht⟩) hS.2.2 dX4_holdSameThing_75
          · skip
            refine lv_iconst (v := 1) hx hb dX4_holdSameThing_70 (by decide) ?_
            refine lv_goto (tgt := 75) hx hb dX4_holdSameThing_71 (by decide) ?_
            subst hAe
            rw [hQ]
            exact W.zret (v := 1) hx hb hr (by decide) (fun t ht hW => ⟨⟨1, _, rfl, ⟨a_vc_50, a_vd_50, rfl, by first | assumption | omega | (intros; omega) | decide⟩, by rw [ht]; exact hP, va_K.moved hW.alike hK, hD⟩, hS.F ht⟩) hS.2.2 dX4_holdSameThing_75
      · skip
        refine lv_iconst (v := 0) hx hb dX4_holdSameThing_31 (by decide) ?_
        subst hAe
        rw [hQ]
        exact W.zret (v := 0) hx hb hr (by decide) (fun t ht hW => ⟨⟨0, _, rfl, ⟨a_vc_5, a_vd_5, rfl, by first | assumption | omega | (intros; omega) | decide⟩, by rw [ht]; exact hP, va_K.moved hW.alike hK, hD⟩, hS.F ht⟩) hS.2.2 dX4_holdSameThing_32

def rmX4_needArray : Room := { frames := 40, cells := 0, slots := 0, locals := 800 }
set_option maxHeartbeats 4000000 in
set_option maxRecDepth 100000 in
theorem tX4_needArray {l : Launch} {D : va_G} {K : Nat → Nat → Nat} {cs : Nat → ClassId} {q : Nat → Nat} {v_t_tapeSize v_t_textSize v_t_faultKind v_g_size v_h_size v_r_takes v_r_negative v_r_namePlace v_r_faultKind v_r_faultPlace v_a_size v_a_limit v_a_digits v_a_kind v_a_from v_a_to v_o_size v_b_size v_b_limit v_b_digits v_b_kind v_b_from v_b_to v_u_marksMade v_u_came v_u_guesses v_u_right v_u_taken v_s_things v_s_looked v_s_lookedTooOften v_s_arraysMade v_s_cellsMade : Int32} {a_t_tape a_t_text a_o_out a_u_outcomes a_u_indexes a_s_classes a_s_starts a_s_lengths a_vc : Nat → Int32} {a_g_beyond a_h_beyond a_r_scratch a_r_now a_u_atom a_u_other a_u_hand : Nat} {a_g_steps a_h_steps a_u_vars a_u_marks : Nat → Option Nat} {a_s_cells a_vd a_sj : Nat → Int64} {a_L : List Nat} {a_K a_iv a_inn : Nat → Nat} {a_si a_ac : Nat → Nat → Int32} (v9 : Nat) (h_v9 : aV a_L a_K v9) : CtI l yX4_needArray (wG yX4_needArray cX4_needArray 1 (some .int)) rmX4_needArray D (twT cs) K [.ref v9] (tw cs q v_t_tapeSize v_t_textSize v_t_faultKind a_t_tape a_t_text a_g_beyond v_g_size a_g_steps a_h_beyond v_h_size a_h_steps a_r_scratch a_r_now v_r_takes v_r_negative v_r_namePlace v_r_faultKind v_r_faultPlace v_a_size v_a_limit v_a_digits v_a_kind v_a_from v_a_to v_o_size a_o_out v_b_size v_b_limit v_b_digits v_b_kind v_b_from v_b_to a_u_atom a_u_other a_u_hand v_u_marksMade v_u_came v_u_guesses v_u_right v_u_taken a_u_vars a_u_marks a_u_outcomes a_u_indexes v_s_things v_s_looked v_s_lookedTooOften v_s_arraysMade v_s_cellsMade a_s_classes a_s_starts a_s_lengths a_s_cells a_L a_K a_vc a_vd a_si a_sj a_iv a_inn a_ac) (fun r w1 => w1 = (tw cs q v_t_tapeSize v_t_textSize v_t_faultKind a_t_tape a_t_text a_g_beyond v_g_size a_g_steps a_h_beyond v_h_size a_h_steps a_r_scratch a_r_now v_r_takes v_r_negative v_r_namePlace v_r_faultKind v_r_faultPlace v_a_size v_a_limit v_a_digits v_a_kind v_a_from v_a_to v_o_size a_o_out v_b_size v_b_limit v_b_digits v_b_kind v_b_from v_b_to a_u_atom a_u_other a_u_hand v_u_marksMade v_u_came v_u_guesses v_u_right v_u_taken a_u_vars a_u_marks a_u_outcomes a_u_indexes v_s_things v_s_looked v_s_lookedTooOften v_s_arraysMade v_s_cellsMade a_s_classes a_s_starts a_s_lengths a_s_cells a_L a_K a_vc a_vd a_si a_sj a_iv a_inn a_ac)) 0 0 := by
  intro sz
  refine Met.ofW (cc := cX4_needArray) (maxL := 1) (ret := (some .int)) (by decide) rfl ?_
  intro p e s m args below meth c s₁ B hml hv
  obtain ⟨rfl, hsz, hP, hK, hD0, hE⟩ := hv
  have hx := B.exec
  have hb := B.bytes
  have hr := B.returns
  have hts := atoms_spec (ws := (wG yX4_needArray cX4_needArray 1 (some .int))) B.pre
  have hown : s.vm.findClass RX4 = some m.cls := findClass_of_methodNamed B.named
  have hlocks := B.notSynchronized
  subst hsz
  have hD := hD0.self (sz := s.heap.size)
  obtain ⟨A, hAe⟩ : ∃ A : Nat → Prop, A = va_A (tw cs q v_t_tapeSize v_t_textSize v_t_faultKind a_t_tape a_t_text a_g_beyond v_g_size a_g_steps a_h_beyond v_h_size a_h_steps a_r_scratch a_r_now v_r_takes v_r_negative v_r_namePlace v_r_faultKind v_r_faultPlace v_a_size v_a_limit v_a_digits v_a_kind v_a_from v_a_to v_o_size a_o_out v_b_size v_b_limit v_b_digits v_b_kind v_b_from v_b_to a_u_atom a_u_other a_u_hand v_u_marksMade v_u_came v_u_guesses v_u_right v_u_taken a_u_vars a_u_marks a_u_outcomes a_u_indexes v_s_things v_s_looked v_s_lookedTooOften v_s_arraysMade v_s_cellsMade a_s_classes a_s_starts a_s_lengths a_s_cells a_L a_K a_vc a_vd a_si a_sj a_iv a_inn a_ac) s.heap.size := ⟨_, rfl⟩
  rw [← hAe] at hD hE
  have hA : ∀ q : Nat, s.heap.size ≤ q → A q := fun q h => by rw [hAe]; exact Or.inr h
  have hS : va_S A s.heap s.heap [] := va_S.rf
  have hl := lv_entry ([.ref v9]) (n := 1) (Nat.le_of_ble_eq_true rfl)
  rw [lg_entry_eq]
  generalize (lg_sl ([.ref v9]) ++ List.replicate (1 - (lg_sl ([.ref v9])).length) Slot.unset).toArray = ls at hl ⊢
  have hl : lv_has ls 1 [(0, .ref v9)] := hl
  refine wq (fun Q hQ => ?_)
  have kc0 : (0 : Int32).toInt = 0 := by decide
  have kc1 : (1 : Int32).toInt = 1 := by decide
  have kc2 : (6 : Int32).toInt = 6 := by decide
  obtain ⟨H, hH⟩ : ∃ H : Heap, H = s.heap := ⟨_, rfl⟩
  obtain ⟨locs, hlc⟩ : ∃ L : List Loc, L = [] := ⟨_, rfl⟩
  have hP : va_P D vwCl (tw cs q v_t_tapeSize v_t_textSize v_t_faultKind a_t_tape a_t_text a_g_beyond v_g_size a_g_steps a_h_beyond v_h_size a_h_steps a_r_scratch a_r_now v_r_takes v_r_negative v_r_namePlace v_r_faultKind v_r_faultPlace v_a_size v_a_limit v_a_digits v_a_kind v_a_from v_a_to v_o_size a_o_out v_b_size v_b_limit v_b_digits v_b_kind v_b_from v_b_to a_u_atom a_u_other a_u_hand v_u_marksMade v_u_came v_u_guesses v_u_right v_u_taken a_u_vars a_u_marks a_u_outcomes a_u_indexes v_s_things v_s_looked v_s_lookedTooOften v_s_arraysMade v_s_cellsMade a_s_classes a_s_starts a_s_lengths a_s_cells a_L a_K a_vc a_vd a_si a_sj a_iv a_inn a_ac) H := by rw [hH]; exact hP
  have hS : va_S A s.heap H locs := by rw [hH, hlc]; exact hS
  refine wHL hH hlc ?_
  refine lv_aload_n hx hb dX4_needArray_0 rfl (lv_at hl 0 rfl) ?_
  obtain ⟨k1_, hk1_⟩ := pl_V (X := (twX cs q v_t_tapeSize v_t_textSize v_t_faultKind a_t_tape a_t_text a_g_beyond v_g_size a_g_steps a_h_beyond v_h_size a_h_steps a_r_scratch a_r_now v_r_takes v_r_negative v_r_namePlace v_r_faultKind v_r_faultPlace v_a_size v_a_limit v_a_digits v_a_kind v_a_from v_a_to v_o_size a_o_out v_b_size v_b_limit v_b_digits v_b_kind v_b_from v_b_to a_u_atom a_u_other a_u_hand v_u_marksMade v_u_came v_u_guesses v_u_right v_u_taken a_u_vars a_u_marks a_u_outcomes a_u_indexes v_s_things v_s_looked v_s_lookedTooOften v_s_arraysMade v_s_cellsMade a_s_classes a_s_starts a_s_lengths a_s_cells)) (cI := cs 0) (vc := a_vc) (vd := a_vd) (si := a_si) (sj := a_sj) (iv := a_iv) (inn := a_inn) (ac := a_ac) h_v9
  refine call_i (As := []) (rest := []) ⟨hx, hb, hml, hown, hts⟩ (tX8_isNone (l := l) v9 h_v9 ) (cwV 0 hts (gV (wr36 _ (List.mem_of_getElem? (i := 14) rfl)) (wr36 _ (List.mem_of_getElem? (i := 15) rfl)) (wr36 _ (List.mem_of_getElem? (i := 16) rfl)) (wr4 _ (List.mem_of_getElem? (i := 11) rfl)) (wr36 _ (List.mem_of_getElem? (i := 17) rfl))) rfl rfl rfl (by decide +kernel) ⟨Nat.le_of_ble_eq_true rfl, Nat.le_of_ble_eq_true rfl⟩) (va_recv hK hP (ci := 7) (q0 := k1_) rfl hk1_) hK hP hD hE hS hA rfl hl.1 rfl (Nat.le_of_ble_eq_true rfl) dX4_needArray_1 ⟨Nat.le_of_ble_eq_true rfl, Nat.le_of_ble_eq_true rfl⟩ (fun r1 w9 H locs hw1 hP hD hS => ?_)
  obtain ⟨rfl, hw1_0⟩ := hw1
  have b_r1 := iB r1
  refine m_if_eq (X := r1.toInt) (tgt := 9) hx hb dX4_needArray_4 (by decide) rfl (fun c4 => ?_) (fun c4 => ?_)
  · skip
    refine lv_aload_n hx hb dX4_needArray_9 rfl (lv_at hl 0 rfl) ?_
    obtain ⟨k10_, hk10_⟩ := pl_V (X := (twX cs q v_t_tapeSize v_t_textSize v_t_faultKind a_t_tape a_t_text a_g_beyond v_g_size a_g_steps a_h_beyond v_h_size a_h_steps a_r_scratch a_r_now v_r_takes v_r_negative v_r_namePlace v_r_faultKind v_r_faultPlace v_a_size v_a_limit v_a_digits v_a_kind v_a_from v_a_to v_o_size a_o_out v_b_size v_b_limit v_b_digits v_b_kind v_b_from v_b_to a_u_atom a_u_other a_u_hand v_u_marksMade v_u_came v_u_guesses v_u_right v_u_taken a_u_vars a_u_marks a_u_outcomes a_u_indexes v_s_things v_s_looked v_s_lookedTooOften v_s_arraysMade v_s_cellsMade a_s_classes a_s_starts a_s_lengths a_s_cells)) (cI := cs 0) (vc := a_vc) (vd := a_vd) (si := a_si) (sj := a_sj) (iv := a_iv) (inn := a_inn) (ac := a_ac) h_v9
    refine call_i (As := []) (rest := []) ⟨hx, hb, hml, hown, hts⟩ (tX8_isArray (l := l) v9 h_v9 ) (cwV 0 hts (gV (wr38 _ (List.mem_of_getElem? (i := 4) rfl)) (wr38 _ (List.mem_of_getElem? (i := 5) rfl)) (wr38 _ (List.mem_of_getElem? (i := 6) rfl)) (wr4 _ (List.mem_of_getElem? (i := 11) rfl)) (wr38 _ (List.mem_of_getElem? (i := 7) rfl))) rfl rfl rfl (by decide +kernel) ⟨Nat.le_of_ble_eq_true rfl, Nat.le_of_ble_eq_true rfl⟩) (va_recv hK hP (ci := 7) (q0 := k10_) rfl hk10_) hK hP hD hE hS hA rfl hl.1 rfl (Nat.le_of_ble_eq_true rfl) dX4_needArray_10 ⟨Nat.le_of_ble_eq_true rfl, Nat.le_of_ble_eq_true rfl⟩ (fun r10 w9 H locs hw10 hP hD hS => ?_)
    obtain ⟨rfl, hw10_0⟩ := hw10
    have b_r10 := iB r10
    refine m_if_eq (X := r10.toInt) (tgt := 20) hx hb dX4_needArray_13 (by decide) rfl (fun c13 => ?_) (fun c13 => ?_)
    · skip
      refine lv_bipush (v := 6) hx hb dX4_needArray_20 (by decide) ?_
      subst hAe
      rw [hQ]
      exact W.iret (v := 6) hx hb hr (fun t ht hW => ⟨⟨6, _, rfl, rfl, by rw [ht]; exact hP, va_K.moved hW.alike hK, hD⟩, hS.F ht⟩) hS.2.2 dX4_needArray_22
    · skip
      refine lv_iconst (v := 0) hx hb dX4_needArray_16 (by decide) ?_
      refine lv_goto (tgt := 22) hx hb dX4_needArray_17 (by decide) ?_
      subst hAe
      rw [hQ]
      exact W.iret (v := 0) hx hb hr (fun t ht hW => ⟨⟨0, _, rfl, rfl, by rw [ht]; exact hP, va_K.moved hW.alike hK, hD⟩, hS.F ht⟩) hS.2.2 dX4_needArray_22
  · skip
    refine lv_iconst (v := 1) hx hb dX4_needArray_7 (by decide) ?_
    subst hAe
    rw [hQ]
    exact W.iret (v := 1) hx hb hr (fun t ht hW => ⟨⟨1, _, rfl, rfl, by rw [ht]; exact hP, va_K.moved hW.alike hK, hD⟩, hS.F ht⟩) hS.2.2 dX4_needArray_8

def rmX4_lastIndex : Room := { frames := 20, cells := 0, slots := 0, locals := 400 }
set_option maxHeartbeats 4000000 in
set_option maxRecDepth 100000 in
theorem tX4_lastIndex {l : Launch} {D : va_G} {K : Nat → Nat → Nat} {cs : Nat → ClassId} {q : Nat → Nat} {v_t_tapeSize v_t_textSize v_t_faultKind v_g_size v_h_size v_r_takes v_r_negative v_r_namePlace v_r_faultKind v_r_faultPlace v_a_size v_a_limit v_a_digits v_a_kind v_a_from v_a_to v_o_size v_b_size v_b_limit v_b_digits v_b_kind v_b_from v_b_to v_u_marksMade v_u_came v_u_guesses v_u_right v_u_taken v_s_things v_s_looked v_s_lookedTooOften v_s_arraysMade v_s_cellsMade : Int32} {a_t_tape a_t_text a_o_out a_u_outcomes a_u_indexes a_s_classes a_s_starts a_s_lengths a_vc : Nat → Int32} {a_g_beyond a_h_beyond a_r_scratch a_r_now a_u_atom a_u_other a_u_hand : Nat} {a_g_steps a_h_steps a_u_vars a_u_marks : Nat → Option Nat} {a_s_cells a_vd a_sj : Nat → Int64} {a_L : List Nat} {a_K a_iv a_inn : Nat → Nat} {a_si a_ac : Nat → Nat → Int32} (s9 : Nat) (h_s9 : aS a_L a_K s9) (p_0 : RF a_L a_K a_g_beyond a_h_beyond a_r_scratch a_g_steps a_h_steps a_u_atom a_u_other a_u_hand a_u_vars a_u_marks) (p_1 : STO v_s_things v_s_cellsMade a_s_starts a_s_lengths) (p_2 : PI a_L a_K a_si a_iv a_inn) : CtI l yX4_lastIndex (wG yX4_lastIndex cX4_lastIndex 3 (some .int)) rmX4_lastIndex D (twT cs) K [.ref (q 12), .ref s9] (tw cs q v_t_tapeSize v_t_textSize v_t_faultKind a_t_tape a_t_text a_g_beyond v_g_size a_g_steps a_h_beyond v_h_size a_h_steps a_r_scratch a_r_now v_r_takes v_r_negative v_r_namePlace v_r_faultKind v_r_faultPlace v_a_size v_a_limit v_a_digits v_a_kind v_a_from v_a_to v_o_size a_o_out v_b_size v_b_limit v_b_digits v_b_kind v_b_from v_b_to a_u_atom a_u_other a_u_hand v_u_marksMade v_u_came v_u_guesses v_u_right v_u_taken a_u_vars a_u_marks a_u_outcomes a_u_indexes v_s_things v_s_looked v_s_lookedTooOften v_s_arraysMade v_s_cellsMade a_s_classes a_s_starts a_s_lengths a_s_cells a_L a_K a_vc a_vd a_si a_sj a_iv a_inn a_ac) (fun r w1 => w1 = (tw cs q v_t_tapeSize v_t_textSize v_t_faultKind a_t_tape a_t_text a_g_beyond v_g_size a_g_steps a_h_beyond v_h_size a_h_steps a_r_scratch a_r_now v_r_takes v_r_negative v_r_namePlace v_r_faultKind v_r_faultPlace v_a_size v_a_limit v_a_digits v_a_kind v_a_from v_a_to v_o_size a_o_out v_b_size v_b_limit v_b_digits v_b_kind v_b_from v_b_to a_u_atom a_u_other a_u_hand v_u_marksMade v_u_came v_u_guesses v_u_right v_u_taken a_u_vars a_u_marks a_u_outcomes a_u_indexes v_s_things v_s_looked v_s_lookedTooOften v_s_arraysMade v_s_cellsMade a_s_classes a_s_starts a_s_lengths a_s_cells a_L a_K a_vc a_vd a_si a_sj a_iv a_inn a_ac)) 0 0 := by
  intro sz
  refine Met.ofW (cc := cX4_lastIndex) (maxL := 3) (ret := (some .int)) (by decide) rfl ?_
  intro p e s m args below meth c s₁ B hml hv
  obtain ⟨rfl, hsz, hP, hK, hD0, hE⟩ := hv
  have hx := B.exec
  have hb := B.bytes
  have hr := B.returns
  have hts := atoms_spec (ws := (wG yX4_lastIndex cX4_lastIndex 3 (some .int))) B.pre
  have hown : s.vm.findClass RX4 = some m.cls := findClass_of_methodNamed B.named
  have hlocks := B.notSynchronized
  subst hsz
  have hD := hD0.self (sz := s.heap.size)
  obtain ⟨A, hAe⟩ : ∃ A : Nat → Prop, A = va_A (tw cs q v_t_tapeSize v_t_textSize v_t_faultKind a_t_tape a_t_text a_g_beyond v_g_size a_g_steps a_h_beyond v_h_size a_h_steps a_r_scratch a_r_now v_r_takes v_r_negative v_r_namePlace v_r_faultKind v_r_faultPlace v_a_size v_a_limit v_a_digits v_a_kind v_a_from v_a_to v_o_size a_o_out v_b_size v_b_limit v_b_digits v_b_kind v_b_from v_b_to a_u_atom a_u_other a_u_hand v_u_marksMade v_u_came v_u_guesses v_u_right v_u_taken a_u_vars a_u_marks a_u_outcomes a_u_indexes v_s_things v_s_looked v_s_lookedTooOften v_s_arraysMade v_s_cellsMade a_s_classes a_s_starts a_s_lengths a_s_cells a_L a_K a_vc a_vd a_si a_sj a_iv a_inn a_ac) s.heap.size := ⟨_, rfl⟩
  rw [← hAe] at hD hE
  have hA : ∀ q : Nat, s.heap.size ≤ q → A q := fun q h => by rw [hAe]; exact Or.inr h
  have hS : va_S A s.heap s.heap [] := va_S.rf
  have hl := lv_entry ([.ref (q 12), .ref s9]) (n := 3) (Nat.le_of_ble_eq_true rfl)
  rw [lg_entry_eq]
  generalize (lg_sl ([.ref (q 12), .ref s9]) ++ List.replicate (3 - (lg_sl ([.ref (q 12), .ref s9])).length) Slot.unset).toArray = ls at hl ⊢
  have hl : lv_has ls 3 [(0, .ref (q 12)), (1, .ref s9)] := hl
  refine wq (fun Q hQ => ?_)
  have hinX4 : ∀ w ∈ wsX40, w ∈ (wG yX4_lastIndex cX4_lastIndex 3 (some .int)) := fun w h => List.mem_cons_of_mem _ (inlX4 w h)
  have hinX6 : ∀ w ∈ wsX60, w ∈ (wG yX4_lastIndex cX4_lastIndex 3 (some .int)) := fun w h => List.mem_cons_of_mem _ (inlX6 w h)
  have kc0 : (-1 : Int32).toInt = -1 := by decide
  have kc1 : (1 : Int32).toInt = 1 := by decide
  have k_36_11 := hts (.fieldLink RX4 246 "ArrayTrainer$Step" "indexes" "I") (List.mem_cons_of_mem _ (wr36 _ (List.mem_of_getElem? (i := 11) rfl)))
  have k_4_9 := hts (.fieldLink RX4 33 "ArrayTrainer$Runner" "indexes" "[I") (List.mem_cons_of_mem _ (wr4 _ (List.mem_of_getElem? (i := 9) rfl)))
  obtain ⟨H, hH⟩ : ∃ H : Heap, H = s.heap := ⟨_, rfl⟩
  obtain ⟨locs, hlc⟩ : ∃ L : List Loc, L = [] := ⟨_, rfl⟩
  have hP : va_P D vwCl (tw cs q v_t_tapeSize v_t_textSize v_t_faultKind a_t_tape a_t_text a_g_beyond v_g_size a_g_steps a_h_beyond v_h_size a_h_steps a_r_scratch a_r_now v_r_takes v_r_negative v_r_namePlace v_r_faultKind v_r_faultPlace v_a_size v_a_limit v_a_digits v_a_kind v_a_from v_a_to v_o_size a_o_out v_b_size v_b_limit v_b_digits v_b_kind v_b_from v_b_to a_u_atom a_u_other a_u_hand v_u_marksMade v_u_came v_u_guesses v_u_right v_u_taken a_u_vars a_u_marks a_u_outcomes a_u_indexes v_s_things v_s_looked v_s_lookedTooOften v_s_arraysMade v_s_cellsMade a_s_classes a_s_starts a_s_lengths a_s_cells a_L a_K a_vc a_vd a_si a_sj a_iv a_inn a_ac) H := by rw [hH]; exact hP
  have hS : va_S A s.heap H locs := by rw [hH, hlc]; exact hS
  refine wHL hH hlc ?_
  obtain ⟨-, -, hn0, hn3⟩ := p_2.at h_s9
  refine lv_aload_n hx hb dX4_lastIndex_0 rfl (lv_at hl 1 rfl) ?_
  obtain ⟨k1_, hk1_⟩ := pl_S (X := (twX cs q v_t_tapeSize v_t_textSize v_t_faultKind a_t_tape a_t_text a_g_beyond v_g_size a_g_steps a_h_beyond v_h_size a_h_steps a_r_scratch a_r_now v_r_takes v_r_negative v_r_namePlace v_r_faultKind v_r_faultPlace v_a_size v_a_limit v_a_digits v_a_kind v_a_from v_a_to v_o_size a_o_out v_b_size v_b_limit v_b_digits v_b_kind v_b_from v_b_to a_u_atom a_u_other a_u_hand v_u_marksMade v_u_came v_u_guesses v_u_right v_u_taken a_u_vars a_u_marks a_u_outcomes a_u_indexes v_s_things v_s_looked v_s_lookedTooOften v_s_arraysMade v_s_cellsMade a_s_classes a_s_starts a_s_lengths a_s_cells)) (cI := cs 0) (vc := a_vc) (vd := a_vd) (si := a_si) (sj := a_sj) (iv := a_iv) (inn := a_inn) (ac := a_ac) h_s9
  refine va_get (D := D) (ci := 5) (v := .int (a_si s9 9)) (C := RX6) (T := TX6) (N := 15) hx hb hts hinX6 hown hK hP k1_ hk1_ rfl 9 (by decide) k_36_11 (fun _ h9 => h9) rfl dX4_lastIndex_1 ?_
  refine lv_topi (fun x1 e_x1 => ?_)
  have b_x1 := iB x1
  have hx1 := congrArg Int32.toInt e_x1
  refine lv_iconst (v := 1) hx hb dX4_lastIndex_4 (by decide) ?_
  refine m_isub (X := x1.toInt) (Y := 1) hx hb dX4_lastIndex_5 rfl (by decide) (fun x5 e_x5 g9 => ?_)
  obtain ⟨k_x5, g_x5⟩ := g9
  have b_x5 := iB x5
  try (have q_x5 : x5.toInt = x1.toInt - 1 := (by omega); clear g_x5 k_x5)
  refine lv_istore_n (lv' := [(2, .int x5), (0, .ref (q 12)), (1, .ref s9)]) hx hb dX4_lastIndex_6 rfl hl (by decide) rfl (fun ls hl => ?_)
  refine lv_iload_n hx hb dX4_lastIndex_7 rfl (lv_at hl 0 rfl) ?_
  refine m_if_lt (X := x5.toInt) (tgt := 29) hx hb dX4_lastIndex_8 (by decide) rfl (fun c8 => ?_) (fun c8 => ?_)
  · skip
    refine lv_iconst (v := (-1)) hx hb dX4_lastIndex_29 (by decide) ?_
    subst hAe
    rw [hQ]
    exact W.iret (v := (-1)) hx hb hr (fun t ht hW => ⟨⟨(-1), _, rfl, rfl, by rw [ht]; exact hP, va_K.moved hW.alike hK, hD⟩, hS.F ht⟩) hS.2.2 dX4_lastIndex_30
  · skip
    refine lv_iload_n hx hb dX4_lastIndex_11 rfl (lv_at hl 0 rfl) ?_
    refine lv_aload_n hx hb dX4_lastIndex_12 rfl (lv_at hl 1 rfl) ?_
    refine va_get (D := D) (ci := 3) (v := .ref (q 16)) (C := RX4) (T := TX4) (N := 13) hx hb hts hinX4 hown hK hP 12 rfl rfl 4 (by decide) k_4_9 (fun _ h9 => h9) rfl dX4_lastIndex_13 ?_
    refine m_alen hx hb hK hP 16 0 rfl rfl (show 3 < 2147483648 by decide) dX4_lastIndex_16 (fun x16 g_x16 => ?_)
    have g_x16 : x16.toInt = 3 := g_x16
    refine m_icmp_ge (X := x5.toInt) (Y := x16.toInt) (tgt := 29) hx hb dX4_lastIndex_17 (by decide) rfl rfl (fun c17 => ?_) (fun c17 => ?_)
    · skip
      refine lv_iconst (v := (-1)) hx hb dX4_lastIndex_29 (by decide) ?_
      subst hAe
      rw [hQ]
      exact W.iret (v := (-1)) hx hb hr (fun t ht hW => ⟨⟨(-1), _, rfl, rfl, by rw [ht]; exact hP, va_K.moved hW.alike hK, hD⟩, hS.F ht⟩) hS.2.2 dX4_lastIndex_30
    · skip
      refine lv_aload_n hx hb dX4_lastIndex_20 rfl (lv_at hl 1 rfl) ?_
      refine va_get (D := D) (ci := 3) (v := .ref (q 16)) (C := RX4) (T := TX4) (N := 13) hx hb hts hinX4 hown hK hP 12 rfl rfl 4 (by decide) k_4_9 (fun _ h9 => h9) rfl dX4_lastIndex_21 ?_
      refine lv_iload_n hx hb dX4_lastIndex_24 rfl (lv_at hl 0 rfl) ?_
      refine m_iald hx hb hK hP 16 0 rfl rfl (ix (by omega) (by omega)) dX4_lastIndex_25 (fun x25 e_x25 => ?_)
      have b_x25 := iB x25
      refine lv_goto (tgt := 30) hx hb dX4_lastIndex_26 (by decide) ?_
      subst hAe
      rw [hQ]
      exact W.iret (v := x25) hx hb hr (fun t ht hW => ⟨⟨x25, _, rfl, rfl, by rw [ht]; exact hP, va_K.moved hW.alike hK, hD⟩, hS.F ht⟩) hS.2.2 dX4_lastIndex_30

def rmX4_readIndexes : Room := { frames := 40, cells := 0, slots := 0, locals := 800 }
set_option maxHeartbeats 4000000 in
set_option maxRecDepth 100000 in
theorem tX4_readIndexes {l : Launch} {D : va_G} {K : Nat → Nat → Nat} {cs : Nat → ClassId} {q : Nat → Nat} {v_t_tapeSize v_t_textSize v_t_faultKind v_g_size v_h_size v_r_takes v_r_negative v_r_namePlace v_r_faultKind v_r_faultPlace v_a_size v_a_limit v_a_digits v_a_kind v_a_from v_a_to v_o_size v_b_size v_b_limit v_b_digits v_b_kind v_b_from v_b_to v_u_marksMade v_u_came v_u_guesses v_u_right v_u_taken v_s_things v_s_looked v_s_lookedTooOften v_s_arraysMade v_s_cellsMade : Int32} {a_t_tape a_t_text a_o_out a_u_outcomes a_u_indexes a_s_classes a_s_starts a_s_lengths a_vc : Nat → Int32} {a_g_beyond a_h_beyond a_r_scratch a_r_now a_u_atom a_u_other a_u_hand : Nat} {a_g_steps a_h_steps a_u_vars a_u_marks : Nat → Option Nat} {a_s_cells a_vd a_sj : Nat → Int64} {a_L : List Nat} {a_K a_iv a_inn : Nat → Nat} {a_si a_ac : Nat → Nat → Int32} (s9 : Nat) (h_s9 : aS a_L a_K s9) (p_0 : RF a_L a_K a_g_beyond a_h_beyond a_r_scratch a_g_steps a_h_steps a_u_atom a_u_other a_u_hand a_u_vars a_u_marks) (p_1 : STO v_s_things v_s_cellsMade a_s_starts a_s_lengths) (p_2 : PI a_L a_K a_si a_iv a_inn) : CtI l yX4_readIndexes (wG yX4_readIndexes cX4_readIndexes 4 (some .int)) rmX4_readIndexes D (twT cs) K [.ref (q 12), .ref s9] (tw cs q v_t_tapeSize v_t_textSize v_t_faultKind a_t_tape a_t_text a_g_beyond v_g_size a_g_steps a_h_beyond v_h_size a_h_steps a_r_scratch a_r_now v_r_takes v_r_negative v_r_namePlace v_r_faultKind v_r_faultPlace v_a_size v_a_limit v_a_digits v_a_kind v_a_from v_a_to v_o_size a_o_out v_b_size v_b_limit v_b_digits v_b_kind v_b_from v_b_to a_u_atom a_u_other a_u_hand v_u_marksMade v_u_came v_u_guesses v_u_right v_u_taken a_u_vars a_u_marks a_u_outcomes a_u_indexes v_s_things v_s_looked v_s_lookedTooOften v_s_arraysMade v_s_cellsMade a_s_classes a_s_starts a_s_lengths a_s_cells a_L a_K a_vc a_vd a_si a_sj a_iv a_inn a_ac) (fun r w1 => ∃ (a_u_indexes' : Nat → Int32), w1 = (tw cs q v_t_tapeSize v_t_textSize v_t_faultKind a_t_tape a_t_text a_g_beyond v_g_size a_g_steps a_h_beyond v_h_size a_h_steps a_r_scratch a_r_now v_r_takes v_r_negative v_r_namePlace v_r_faultKind v_r_faultPlace v_a_size v_a_limit v_a_digits v_a_kind v_a_from v_a_to v_o_size a_o_out v_b_size v_b_limit v_b_digits v_b_kind v_b_from v_b_to a_u_atom a_u_other a_u_hand v_u_marksMade v_u_came v_u_guesses v_u_right v_u_taken a_u_vars a_u_marks a_u_outcomes a_u_indexes' v_s_things v_s_looked v_s_lookedTooOften v_s_arraysMade v_s_cellsMade a_s_classes a_s_starts a_s_lengths a_s_cells a_L a_K a_vc a_vd a_si a_sj a_iv a_inn a_ac)) 0 0 := by
  intro sz
  refine Met.ofW (cc := cX4_readIndexes) (maxL := 4) (ret := (some .int)) (by decide) rfl ?_
  intro p e s m args below meth c s₁ B hml hv
  obtain ⟨rfl, hsz, hP, hK, hD0, hE⟩ := hv
  have hx := B.exec
  have hb := B.bytes
  have hr := B.returns
  have hts := atoms_spec (ws := (wG yX4_readIndexes cX4_readIndexes 4 (some .int))) B.pre
  have hown : s.vm.findClass RX4 = some m.cls := findClass_of_methodNamed B.named
  have hlocks := B.notSynchronized
  subst hsz
  have hD := hD0.self (sz := s.heap.size)
  obtain ⟨A, hAe⟩ : ∃ A : Nat → Prop, A = va_A (tw cs q v_t_tapeSize v_t_textSize v_t_faultKind a_t_tape a_t_text a_g_beyond v_g_size a_g_steps a_h_beyond v_h_size a_h_steps a_r_scratch a_r_now v_r_takes v_r_negative v_r_namePlace v_r_faultKind v_r_faultPlace v_a_size v_a_limit v_a_digits v_a_kind v_a_from v_a_to v_o_size a_o_out v_b_size v_b_limit v_b_digits v_b_kind v_b_from v_b_to a_u_atom a_u_other a_u_hand v_u_marksMade v_u_came v_u_guesses v_u_right v_u_taken a_u_vars a_u_marks a_u_outcomes a_u_indexes v_s_things v_s_looked v_s_lookedTooOften v_s_arraysMade v_s_cellsMade a_s_classes a_s_starts a_s_lengths a_s_cells a_L a_K a_vc a_vd a_si a_sj a_iv a_inn a_ac) s.heap.size := ⟨_, rfl⟩
  rw [← hAe] at hD hE
  have hA : ∀ q : Nat, s.heap.size ≤ q → A q := fun q h => by rw [hAe]; exact Or.inr h
  have hS : va_S A s.heap s.heap [] := va_S.rf
  have hl := lv_entry ([.ref (q 12), .ref s9]) (n := 4) (Nat.le_of_ble_eq_true rfl)
  rw [lg_entry_eq]
  generalize (lg_sl ([.ref (q 12), .ref s9]) ++ List.replicate (4 - (lg_sl ([.ref (q 12), .ref s9])).length) Slot.unset).toArray = ls at hl ⊢
  have hl : lv_has ls 4 [(0, .ref (q 12)), (1, .ref s9)] := hl
  refine wq (fun Q hQ => ?_)
  have hinX4 : ∀ w ∈ wsX40, w ∈ (wG yX4_readIndexes cX4_readIndexes 4 (some .int)) := fun w h => List.mem_cons_of_mem _ (inlX4 w h)
  have hinX6 : ∀ w ∈ wsX60, w ∈ (wG yX4_readIndexes cX4_readIndexes 4 (some .int)) := fun w h => List.mem_cons_of_mem _ (inlX6 w h)
  have hinX8 : ∀ w ∈ wsX80, w ∈ (wG yX4_readIndexes cX4_readIndexes 4 (some .int)) := fun w h => List.mem_cons_of_mem _ (inlX8 w h)
  have kc0 : (-1 : Int32).toInt = -1 := by decide
  have kc1 : (0 : Int32).toInt = 0 := by decide
  have kc2 : (1 : Int32).toInt = 1 := by decide
  have kc3 : (4 : Int32).toInt = 4 := by decide
  have kc4 : (6 : Int32).toInt = 6 := by decide
  have k_36_11 := hts (.fieldLink RX4 246 "ArrayTrainer$Step" "indexes" "I") (List.mem_cons_of_mem _ (wr36 _ (List.mem_of_getElem? (i := 11) rfl)))
  have k_4_9 := hts (.fieldLink RX4 33 "ArrayTrainer$Runner" "indexes" "[I") (List.mem_cons_of_mem _ (wr4 _ (List.mem_of_getElem? (i := 9) rfl)))
  have k_36_12 := hts (.fieldLink RX4 248 "ArrayTrainer$Step" "indexVar" "[I") (List.mem_cons_of_mem _ (wr36 _ (List.mem_of_getElem? (i := 12) rfl)))
  have k_36_5 := hts (.fieldLink RX4 152 "ArrayTrainer$Value" "cls" "I") (List.mem_cons_of_mem _ (wr36 _ (List.mem_of_getElem? (i := 5) rfl)))
  have k_36_6 := hts (.fieldLink RX4 155 "ArrayTrainer$Value" "datum" "J") (List.mem_cons_of_mem _ (wr36 _ (List.mem_of_getElem? (i := 6) rfl)))
  have k_36_13 := hts (.fieldLink RX4 251 "ArrayTrainer$Step" "indexNumber" "[I") (List.mem_cons_of_mem _ (wr36 _ (List.mem_of_getElem? (i := 13) rfl)))
  obtain ⟨H, hH⟩ : ∃ H : Heap, H = s.heap := ⟨_, rfl⟩
  obtain ⟨locs, hlc⟩ : ∃ L : List Loc, L = [] := ⟨_, rfl⟩
  have hP : va_P D vwCl (tw cs q v_t_tapeSize v_t_textSize v_t_faultKind a_t_tape a_t_text a_g_beyond v_g_size a_g_steps a_h_beyond v_h_size a_h_steps a_r_scratch a_r_now v_r_takes v_r_negative v_r_namePlace v_r_faultKind v_r_faultPlace v_a_size v_a_limit v_a_digits v_a_kind v_a_from v_a_to v_o_size a_o_out v_b_size v_b_limit v_b_digits v_b_kind v_b_from v_b_to a_u_atom a_u_other a_u_hand v_u_marksMade v_u_came v_u_guesses v_u_right v_u_taken a_u_vars a_u_marks a_u_outcomes a_u_indexes v_s_things v_s_looked v_s_lookedTooOften v_s_arraysMade v_s_cellsMade a_s_classes a_s_starts a_s_lengths a_s_cells a_L a_K a_vc a_vd a_si a_sj a_iv a_inn a_ac) H := by rw [hH]; exact hP
  have hS : va_S A s.heap H locs := by rw [hH, hlc]; exact hS
  refine wHL hH hlc ?_
  refine lv_iconst (v := 0) hx hb dX4_readIndexes_0 (by decide) ?_
  refine lv_istore_n (lv' := [(2, .int 0), (0, .ref (q 12)), (1, .ref s9)]) hx hb dX4_readIndexes_1 rfl hl (by decide) rfl (fun ls hl => ?_)
  have J2 : ∀ (n2 : Nat) (l2_2 : Int32) (a_u_indexes_2 : Nat → Int32) (H : Heap) (locs : List Loc) (ls : Array Slot), (0 ≤ l2_2.toInt) → (l2_2.toInt ≤ 3) → (3 - l2_2.toInt < (n2 : Int)) → va_P D vwCl (tw cs q v_t_tapeSize v_t_textSize v_t_faultKind a_t_tape a_t_text a_g_beyond v_g_size a_g_steps a_h_beyond v_h_size a_h_steps a_r_scratch a_r_now v_r_takes v_r_negative v_r_namePlace v_r_faultKind v_r_faultPlace v_a_size v_a_limit v_a_digits v_a_kind v_a_from v_a_to v_o_size a_o_out v_b_size v_b_limit v_b_digits v_b_kind v_b_from v_b_to a_u_atom a_u_other a_u_hand v_u_marksMade v_u_came v_u_guesses v_u_right v_u_taken a_u_vars a_u_marks a_u_outcomes a_u_indexes_2 v_s_things v_s_looked v_s_lookedTooOften v_s_arraysMade v_s_cellsMade a_s_classes a_s_starts a_s_lengths a_s_cells a_L a_K a_vc a_vd a_si a_sj a_iv a_inn a_ac) H → va_D A (tw cs q v_t_tapeSize v_t_textSize v_t_faultKind a_t_tape a_t_text a_g_beyond v_g_size a_g_steps a_h_beyond v_h_size a_h_steps a_r_scratch a_r_now v_r_takes v_r_negative v_r_namePlace v_r_faultKind v_r_faultPlace v_a_size v_a_limit v_a_digits v_a_kind v_a_from v_a_to v_o_size a_o_out v_b_size v_b_limit v_b_digits v_b_kind v_b_from v_b_to a_u_atom a_u_other a_u_hand v_u_marksMade v_u_came v_u_guesses v_u_right v_u_taken a_u_vars a_u_marks a_u_outcomes a_u_indexes_2 v_s_things v_s_looked v_s_lookedTooOften v_s_arraysMade v_s_cellsMade a_s_classes a_s_starts a_s_lengths a_s_cells a_L a_K a_vc a_vd a_si a_sj a_iv a_inn a_ac) → va_S A s.heap H locs → lv_has ls 4 [(0, .ref (q 12)), (1, .ref s9), (2, .int l2_2)] → W p l e (headSpec (wG yX4_readIndexes cX4_readIndexes 4 (some .int)) rmX4_readIndexes).room s m ([.ref (q 12), .ref s9] : List Value).toArray below meth c H locs 0 0 Q (F0 m 2 ls []) := by
    intro n2
    induction n2 with
    | zero =>
      intro l2_2 a_u_indexes_2 H locs ls f2_0 f2_1 hm2
      exfalso
      omega
    | succ n2 ih2 =>
      intro l2_2 a_u_indexes_2 H locs ls f2_0 f2_1 hm2 hP hD hS hl
      refine lv_iload_n hx hb dX4_readIndexes_2 rfl (lv_at hl 2 rfl) ?_
      refine lv_aload_n hx hb dX4_readIndexes_3 rfl (lv_at hl 1 rfl) ?_
      obtain ⟨k4_, hk4_⟩ := pl_S (X := (twX cs q v_t_tapeSize v_t_textSize v_t_faultKind a_t_tape a_t_text a_g_beyond v_g_size a_g_steps a_h_beyond v_h_size a_h_steps a_r_scratch a_r_now v_r_takes v_r_negative v_r_namePlace v_r_faultKind v_r_faultPlace v_a_size v_a_limit v_a_digits v_a_kind v_a_from v_a_to v_o_size a_o_out v_b_size v_b_limit v_b_digits v_b_kind v_b_from v_b_to a_u_atom a_u_other a_u_hand v_u_marksMade v_u_came v_u_guesses v_u_right v_u_taken a_u_vars a_u_marks a_u_outcomes a_u_indexes_2 v_s_things v_s_looked v_s_lookedTooOften v_s_arraysMade v_s_cellsMade a_s_classes a_s_starts a_s_lengths a_s_cells)) (cI := cs 0) (vc := a_vc) (vd := a_vd) (si := a_si) (sj := a_sj) (iv := a_iv) (inn := a_inn) (ac := a_ac) h_s9
      refine va_get (D := D) (ci := 5) (v := .int (a_si s9 9)) (C := RX6) (T := TX6) (N := 15) hx hb hts hinX6 hown hK hP k4_ hk4_ rfl 9 (by decide) k_36_11 (fun _ h9 => h9) rfl dX4_readIndexes_4 ?_
      refine lv_topi (fun x4 e_x4 => ?_)
      have b_x4 := iB x4
      refine m_icmp_ge (X := l2_2.toInt) (Y := x4.toInt) (tgt := 99) hx hb dX4_readIndexes_7 (by decide) rfl rfl (fun c7 => ?_) (fun c7 => ?_)
      · skip
        refine lv_iconst (v := 0) hx hb dX4_readIndexes_99 (by decide) ?_
        subst hAe
        rw [hQ]
        exact W.iret (v := 0) hx hb hr (fun t ht hW => ⟨⟨0, _, rfl, ⟨a_u_indexes_2, rfl⟩, by rw [ht]; exact hP, va_K.moved hW.alike hK, hD⟩, hS.F ht⟩) hS.2.2 dX4_readIndexes_100
      · skip
        refine lv_iload_n hx hb dX4_readIndexes_10 rfl (lv_at hl 2 rfl) ?_
        refine lv_aload_n hx hb dX4_readIndexes_11 rfl (lv_at hl 0 rfl) ?_
        refine va_get (D := D) (ci := 3) (v := .ref (q 16)) (C := RX4) (T := TX4) (N := 13) hx hb hts hinX4 hown hK hP 12 rfl rfl 4 (by decide) k_4_9 (fun _ h9 => h9) rfl dX4_readIndexes_12 ?_
        refine m_alen hx hb hK hP 16 0 rfl rfl (show 3 < 2147483648 by decide) dX4_readIndexes_15 (fun x15 g_x15 => ?_)
        have g_x15 : x15.toInt = 3 := g_x15
        refine m_icmp_ge (X := l2_2.toInt) (Y := x15.toInt) (tgt := 99) hx hb dX4_readIndexes_16 (by decide) rfl rfl (fun c16 => ?_) (fun c16 => ?_)
        · skip
          refine lv_iconst (v := 0) hx hb dX4_readIndexes_99 (by decide) ?_
          subst hAe
          rw [hQ]
          exact W.iret (v := 0) hx hb hr (fun t ht hW => ⟨⟨0, _, rfl, ⟨a_u_indexes_2, rfl⟩, by rw [ht]; exact hP, va_K.moved hW.alike hK, hD⟩, hS.F ht⟩) hS.2.2 dX4_readIndexes_100
        · skip
          refine lv_aload_n hx hb dX4_readIndexes_19 rfl (lv_at hl 1 rfl) ?_
          obtain ⟨k20_, hk20_⟩ := pl_S (X := (twX cs q v_t_tapeSize v_t_textSize v_t_faultKind a_t_tape a_t_text a_g_beyond v_g_size a_g_steps a_h_beyond v_h_size a_h_steps a_r_scratch a_r_now v_r_takes v_r_negative v_r_namePlace v_r_faultKind v_r_faultPlace v_a_size v_a_limit v_a_digits v_a_kind v_a_from v_a_to v_o_size a_o_out v_b_size v_b_limit v_b_digits v_b_kind v_b_from v_b_to a_u_atom a_u_other a_u_hand v_u_marksMade v_u_came v_u_guesses v_u_right v_u_taken a_u_vars a_u_marks a_u_outcomes a_u_indexes_2 v_s_things v_s_looked v_s_lookedTooOften v_s_arraysMade v_s_cellsMade a_s_classes a_s_starts a_s_lengths a_s_cells)) (cI := cs 0) (vc := a_vc) (vd := a_vd) (si := a_si) (sj := a_sj) (iv := a_iv) (inn := a_inn) (ac := a_ac) h_s9
          refine va_get (D := D) (ci := 5) (v := .ref (a_iv s9)) (C := RX6) (T := TX6) (N := 15) hx hb hts hinX6 hown hK hP k20_ hk20_ rfl 10 (by decide) k_36_12 (fun _ h9 => h9) rfl dX4_readIndexes_20 ?_
          have hf20 : aR a_L a_K (a_iv s9) := (PI.at (by assumption) h_s9).1
          refine lv_iload_n hx hb dX4_readIndexes_23 rfl (lv_at hl 2 rfl) ?_
          obtain ⟨k24_, hk24_⟩ := pl_A (X := (twX cs q v_t_tapeSize v_t_textSize v_t_faultKind a_t_tape a_t_text a_g_beyond v_g_size a_g_steps a_h_beyond v_h_size a_h_steps a_r_scratch a_r_now v_r_takes v_r_negative v_r_namePlace v_r_faultKind v_r_faultPlace v_a_size v_a_limit v_a_digits v_a_kind v_a_from v_a_to v_o_size a_o_out v_b_size v_b_limit v_b_digits v_b_kind v_b_from v_b_to a_u_atom a_u_other a_u_hand v_u_marksMade v_u_came v_u_guesses v_u_right v_u_taken a_u_vars a_u_marks a_u_outcomes a_u_indexes_2 v_s_things v_s_looked v_s_lookedTooOften v_s_arraysMade v_s_cellsMade a_s_classes a_s_starts a_s_lengths a_s_cells)) (cI := cs 0) (vc := a_vc) (vd := a_vd) (si := a_si) (sj := a_sj) (iv := a_iv) (inn := a_inn) (ac := a_ac) hf20
          refine m_iald hx hb hK hP k24_ 0 hk24_ rfl (ix (by omega) (by omega)) dX4_readIndexes_24 (fun x24 e_x24 => ?_)
          have b_x24 := iB x24
          refine lv_iconst (v := (-1)) hx hb dX4_readIndexes_25 (by decide) ?_
          have J93 : ∀ (a_u_indexes_93 : Nat → Int32) (H : Heap) (locs : List Loc) (ls : Array Slot), (True) → va_P D vwCl (tw cs q v_t_tapeSize v_t_textSize v_t_faultKind a_t_tape a_t_text a_g_beyond v_g_size a_g_steps a_h_beyond v_h_size a_h_steps a_r_scratch a_r_now v_r_takes v_r_negative v_r_namePlace v_r_faultKind v_r_faultPlace v_a_size v_a_limit v_a_digits v_a_kind v_a_from v_a_to v_o_size a_o_out v_b_size v_b_limit v_b_digits v_b_kind v_b_from v_b_to a_u_atom a_u_other a_u_hand v_u_marksMade v_u_came v_u_guesses v_u_right v_u_taken a_u_vars a_u_marks a_u_outcomes a_u_indexes_93 v_s_things v_s_looked v_s_lookedTooOften v_s_arraysMade v_s_cellsMade a_s_classes a_s_starts a_s_lengths a_s_cells a_L a_K a_vc a_vd a_si a_sj a_iv a_inn a_ac) H → va_D A (tw cs q v_t_tapeSize v_t_textSize v_t_faultKind a_t_tape a_t_text a_g_beyond v_g_size a_g_steps a_h_beyond v_h_size a_h_steps a_r_scratch a_r_now v_r_takes v_r_negative v_r_namePlace v_r_faultKind v_r_faultPlace v_a_size v_a_limit v_a_digits v_a_kind v_a_from v_a_to v_o_size a_o_out v_b_size v_b_limit v_b_digits v_b_kind v_b_from v_b_to a_u_atom a_u_other a_u_hand v_u_marksMade v_u_came v_u_guesses v_u_right v_u_taken a_u_vars a_u_marks a_u_outcomes a_u_indexes_93 v_s_things v_s_looked v_s_lookedTooOften v_s_arraysMade v_s_cellsMade a_s_classes a_s_starts a_s_lengths a_s_cells a_L a_K a_vc a_vd a_si a_sj a_iv a_inn a_ac) → va_S A s.heap H locs → lv_has ls 4 [(0, .ref (q 12)), (1, .ref s9), (2, .int l2_2)] → W p l e (headSpec (wG yX4_readIndexes cX4_readIndexes 4 (some .int)) rmX4_readIndexes).room s m ([.ref (q 12), .ref s9] : List Value).toArray below meth c H locs 0 0 Q (F0 m 93 ls []) := by
            intro a_u_indexes_93 H locs ls f93_0 hP hD hS hl
            obtain ⟨x93, e_x93⟩ : ∃ z : Int32, z = l2_2 + (1 : Int32) := ⟨_, rfl⟩
            obtain ⟨k_x93, g_x93⟩ : ∃ k : Int, x93.toInt = l2_2.toInt + (1) + k * 4294967296 := by rw [e_x93]; exact iAdd l2_2 (1)
            have b_x93 := iB x93
            try (have q_x93 : x93.toInt = l2_2.toInt + (1) := (by omega); clear g_x93 k_x93)
            refine lv_iinc (v := x93) (lv' := [(2, .int x93), (0, .ref (q 12)), (1, .ref s9)]) hx hb dX4_readIndexes_93 hl (k := 2) rfl (by rw [e_x93]; rfl) (by decide) rfl (fun ls hl => ?_)
            refine lv_goto (tgt := 2) hx hb dX4_readIndexes_96 (by decide) ?_
            exact ih2 x93 a_u_indexes_93 H locs ls (by first | assumption | omega | (intros; omega) | decide) (by first | assumption | omega | (intros; omega) | decide) (by omega) hP hD hS (lv_sub hl [1, 2, 0] rfl)
          refine m_icmp_ne (X := x24.toInt) (Y := (-1)) (tgt := 44) hx hb dX4_readIndexes_26 (by decide) rfl (by decide) (fun c26 => ?_) (fun c26 => ?_)
          · skip
            refine lv_aload_n hx hb dX4_readIndexes_44 rfl (lv_at hl 0 rfl) ?_
            refine lv_aload_n hx hb dX4_readIndexes_45 rfl (lv_at hl 1 rfl) ?_
            obtain ⟨k46_, hk46_⟩ := pl_S (X := (twX cs q v_t_tapeSize v_t_textSize v_t_faultKind a_t_tape a_t_text a_g_beyond v_g_size a_g_steps a_h_beyond v_h_size a_h_steps a_r_scratch a_r_now v_r_takes v_r_negative v_r_namePlace v_r_faultKind v_r_faultPlace v_a_size v_a_limit v_a_digits v_a_kind v_a_from v_a_to v_o_size a_o_out v_b_size v_b_limit v_b_digits v_b_kind v_b_from v_b_to a_u_atom a_u_other a_u_hand v_u_marksMade v_u_came v_u_guesses v_u_right v_u_taken a_u_vars a_u_marks a_u_outcomes a_u_indexes_2 v_s_things v_s_looked v_s_lookedTooOften v_s_arraysMade v_s_cellsMade a_s_classes a_s_starts a_s_lengths a_s_cells)) (cI := cs 0) (vc := a_vc) (vd := a_vd) (si := a_si) (sj := a_sj) (iv := a_iv) (inn := a_inn) (ac := a_ac) h_s9
            refine va_get (D := D) (ci := 5) (v := .ref (a_iv s9)) (C := RX6) (T := TX6) (N := 15) hx hb hts hinX6 hown hK hP k46_ hk46_ rfl 10 (by decide) k_36_12 (fun _ h9 => h9) rfl dX4_readIndexes_46 ?_
            have hf46 : aR a_L a_K (a_iv s9) := (PI.at (by assumption) h_s9).1
            refine lv_iload_n hx hb dX4_readIndexes_49 rfl (lv_at hl 2 rfl) ?_
            obtain ⟨k50_, hk50_⟩ := pl_A (X := (twX cs q v_t_tapeSize v_t_textSize v_t_faultKind a_t_tape a_t_text a_g_beyond v_g_size a_g_steps a_h_beyond v_h_size a_h_steps a_r_scratch a_r_now v_r_takes v_r_negative v_r_namePlace v_r_faultKind v_r_faultPlace v_a_size v_a_limit v_a_digits v_a_kind v_a_from v_a_to v_o_size a_o_out v_b_size v_b_limit v_b_digits v_b_kind v_b_from v_b_to a_u_atom a_u_other a_u_hand v_u_marksMade v_u_came v_u_guesses v_u_right v_u_taken a_u_vars a_u_marks a_u_outcomes a_u_indexes_2 v_s_things v_s_looked v_s_lookedTooOften v_s_arraysMade v_s_cellsMade a_s_classes a_s_starts a_s_lengths a_s_cells)) (cI := cs 0) (vc := a_vc) (vd := a_vd) (si := a_si) (sj := a_sj) (iv := a_iv) (inn := a_inn) (ac := a_ac) hf46
            refine m_iald hx hb hK hP k50_ 0 hk50_ rfl (ix (by omega) (by omega)) dX4_readIndexes_50 (fun x50 e_x50 => ?_)
            have b_x50 := iB x50
            refine call_r (As := [.int x50]) (rest := []) ⟨hx, hb, hml, hown, hts⟩ (tX4_variable (l := l) x50 (by first | assumption | omega | (intros; omega) | decide)) (cwV 1 hts (gV (wr21 _ (List.mem_of_getElem? (i := 22) rfl)) (wr21 _ (List.mem_of_getElem? (i := 23) rfl)) (wr22 _ (List.mem_of_getElem? (i := 0) rfl)) (wr2 _ (List.mem_of_getElem? (i := 10) rfl)) (wr22 _ (List.mem_of_getElem? (i := 1) rfl))) rfl rfl rfl (by decide +kernel) ⟨Nat.le_of_ble_eq_true rfl, Nat.le_of_ble_eq_true rfl⟩) (va_recv hK hP (ci := 3) (q0 := 12) rfl rfl) hK hP hD hE hS hA rfl hl.1 rfl (Nat.le_of_ble_eq_true rfl) dX4_readIndexes_51 ⟨Nat.le_of_ble_eq_true rfl, Nat.le_of_ble_eq_true rfl⟩ (fun r51 w9 H locs hw51 hP hD hS => ?_)
            obtain ⟨rfl, hw51_0⟩ := hw51
            refine lv_astore_n (lv' := [(3, .ref r51), (0, .ref (q 12)), (1, .ref s9), (2, .int l2_2)]) hx hb dX4_readIndexes_54 rfl hl (by decide) rfl (fun ls hl => ?_)
            refine lv_aload_n hx hb dX4_readIndexes_55 rfl (lv_at hl 0 rfl) ?_
            obtain ⟨k56_, hk56_⟩ := pl_V (X := (twX cs q v_t_tapeSize v_t_textSize v_t_faultKind a_t_tape a_t_text a_g_beyond v_g_size a_g_steps a_h_beyond v_h_size a_h_steps a_r_scratch a_r_now v_r_takes v_r_negative v_r_namePlace v_r_faultKind v_r_faultPlace v_a_size v_a_limit v_a_digits v_a_kind v_a_from v_a_to v_o_size a_o_out v_b_size v_b_limit v_b_digits v_b_kind v_b_from v_b_to a_u_atom a_u_other a_u_hand v_u_marksMade v_u_came v_u_guesses v_u_right v_u_taken a_u_vars a_u_marks a_u_outcomes a_u_indexes_2 v_s_things v_s_looked v_s_lookedTooOften v_s_arraysMade v_s_cellsMade a_s_classes a_s_starts a_s_lengths a_s_cells)) (cI := cs 0) (vc := a_vc) (vd := a_vd) (si := a_si) (sj := a_sj) (iv := a_iv) (inn := a_inn) (ac := a_ac) hw51_0
            refine call_i (As := []) (rest := []) ⟨hx, hb, hml, hown, hts⟩ (tX8_isNone (l := l) r51 hw51_0 ) (cwV 0 hts (gV (wr36 _ (List.mem_of_getElem? (i := 14) rfl)) (wr36 _ (List.mem_of_getElem? (i := 15) rfl)) (wr36 _ (List.mem_of_getElem? (i := 16) rfl)) (wr4 _ (List.mem_of_getElem? (i := 11) rfl)) (wr36 _ (List.mem_of_getElem? (i := 17) rfl))) rfl rfl rfl (by decide +kernel) ⟨Nat.le_of_ble_eq_true rfl, Nat.le_of_ble_eq_true rfl⟩) (va_recv hK hP (ci := 7) (q0 := k56_) rfl hk56_) hK hP hD hE hS hA rfl hl.1 rfl (Nat.le_of_ble_eq_true rfl) dX4_readIndexes_56 ⟨Nat.le_of_ble_eq_true rfl, Nat.le_of_ble_eq_true rfl⟩ (fun r56 w9 H locs hw56 hP hD hS => ?_)
            obtain ⟨rfl, hw56_0⟩ := hw56
            have b_r56 := iB r56
            refine m_if_eq (X := r56.toInt) (tgt := 64) hx hb dX4_readIndexes_59 (by decide) rfl (fun c59 => ?_) (fun c59 => ?_)
            · skip
              refine lv_aload_n hx hb dX4_readIndexes_64 rfl (lv_at hl 0 rfl) ?_
              obtain ⟨k65_, hk65_⟩ := pl_V (X := (twX cs q v_t_tapeSize v_t_textSize v_t_faultKind a_t_tape a_t_text a_g_beyond v_g_size a_g_steps a_h_beyond v_h_size a_h_steps a_r_scratch a_r_now v_r_takes v_r_negative v_r_namePlace v_r_faultKind v_r_faultPlace v_a_size v_a_limit v_a_digits v_a_kind v_a_from v_a_to v_o_size a_o_out v_b_size v_b_limit v_b_digits v_b_kind v_b_from v_b_to a_u_atom a_u_other a_u_hand v_u_marksMade v_u_came v_u_guesses v_u_right v_u_taken a_u_vars a_u_marks a_u_outcomes a_u_indexes_2 v_s_things v_s_looked v_s_lookedTooOften v_s_arraysMade v_s_cellsMade a_s_classes a_s_starts a_s_lengths a_s_cells)) (cI := cs 0) (vc := a_vc) (vd := a_vd) (si := a_si) (sj := a_sj) (iv := a_iv) (inn := a_inn) (ac := a_ac) hw51_0
              refine va_get (D := D) (ci := 7) (v := .int (a_vc r51)) (C := RX8) (T := TX8) (N := 2) hx hb hts hinX8 hown hK hP k65_ hk65_ rfl 0 (by decide) k_36_5 (fun _ h9 => h9) rfl dX4_readIndexes_65 ?_
              refine lv_topi (fun x65 e_x65 => ?_)
              have b_x65 := iB x65
              refine m_if_eq (X := x65.toInt) (tgt := 79) hx hb dX4_readIndexes_68 (by decide) rfl (fun c68 => ?_) (fun c68 => ?_)
              · skip
                refine lv_bipush (v := 6) hx hb dX4_readIndexes_79 (by decide) ?_
                subst hAe
                rw [hQ]
                exact W.iret (v := 6) hx hb hr (fun t ht hW => ⟨⟨6, _, rfl, ⟨a_u_indexes_2, rfl⟩, by rw [ht]; exact hP, va_K.moved hW.alike hK, hD⟩, hS.F ht⟩) hS.2.2 dX4_readIndexes_81
              · skip
                refine lv_aload_n hx hb dX4_readIndexes_71 rfl (lv_at hl 0 rfl) ?_
                obtain ⟨k72_, hk72_⟩ := pl_V (X := (twX cs q v_t_tapeSize v_t_textSize v_t_faultKind a_t_tape a_t_text a_g_beyond v_g_size a_g_steps a_h_beyond v_h_size a_h_steps a_r_scratch a_r_now v_r_takes v_r_negative v_r_namePlace v_r_faultKind v_r_faultPlace v_a_size v_a_limit v_a_digits v_a_kind v_a_from v_a_to v_o_size a_o_out v_b_size v_b_limit v_b_digits v_b_kind v_b_from v_b_to a_u_atom a_u_other a_u_hand v_u_marksMade v_u_came v_u_guesses v_u_right v_u_taken a_u_vars a_u_marks a_u_outcomes a_u_indexes_2 v_s_things v_s_looked v_s_lookedTooOften v_s_arraysMade v_s_cellsMade a_s_classes a_s_starts a_s_lengths a_s_cells)) (cI := cs 0) (vc := a_vc) (vd := a_vd) (si := a_si) (sj := a_sj) (iv := a_iv) (inn := a_inn) (ac := a_ac) hw51_0
                refine va_get (D := D) (ci := 7) (v := .int (a_vc r51)) (C := RX8) (T := TX8) (N := 2) hx hb hts hinX8 hown hK hP k72_ hk72_ rfl 0 (by decide) k_36_5 (fun _ h9 => h9) rfl dX4_readIndexes_72 ?_
                refine lv_topi (fun x72 e_x72 => ?_)
                have b_x72 := iB x72
                refine lv_iconst (v := 4) hx hb dX4_readIndexes_75 (by decide) ?_
                refine m_icmp_le (X := x72.toInt) (Y := 4) (tgt := 82) hx hb dX4_readIndexes_76 (by decide) rfl (by decide) (fun c76 => ?_) (fun c76 => ?_)
                · skip
                  refine lv_aload_n hx hb dX4_readIndexes_82 rfl (lv_at hl 1 rfl) ?_
                  refine va_get (D := D) (ci := 3) (v := .ref (q 16)) (C := RX4) (T := TX4) (N := 13) hx hb hts hinX4 hown hK hP 12 rfl rfl 4 (by decide) k_4_9 (fun _ h9 => h9) rfl dX4_readIndexes_83 ?_
                  refine lv_iload_n hx hb dX4_readIndexes_86 rfl (lv_at hl 3 rfl) ?_
                  refine lv_aload_n hx hb dX4_readIndexes_87 rfl (lv_at hl 0 rfl) ?_
                  obtain ⟨k88_, hk88_⟩ := pl_V (X := (twX cs q v_t_tapeSize v_t_textSize v_t_faultKind a_t_tape a_t_text a_g_beyond v_g_size a_g_steps a_h_beyond v_h_size a_h_steps a_r_scratch a_r_now v_r_takes v_r_negative v_r_namePlace v_r_faultKind v_r_faultPlace v_a_size v_a_limit v_a_digits v_a_kind v_a_from v_a_to v_o_size a_o_out v_b_size v_b_limit v_b_digits v_b_kind v_b_from v_b_to a_u_atom a_u_other a_u_hand v_u_marksMade v_u_came v_u_guesses v_u_right v_u_taken a_u_vars a_u_marks a_u_outcomes a_u_indexes_2 v_s_things v_s_looked v_s_lookedTooOften v_s_arraysMade v_s_cellsMade a_s_classes a_s_starts a_s_lengths a_s_cells)) (cI := cs 0) (vc := a_vc) (vd := a_vd) (si := a_si) (sj := a_sj) (iv := a_iv) (inn := a_inn) (ac := a_ac) hw51_0
                  refine va_get (D := D) (ci := 7) (v := .long (a_vd r51)) (C := RX8) (T := TX8) (N := 2) hx hb hts hinX8 hown hK hP k88_ hk88_ rfl 1 (by decide) k_36_6 (fun _ h9 => h9) rfl dX4_readIndexes_88 ?_
                  refine lv_topl (fun x88 e_x88 => ?_)
                  have b_x88 := jB x88
                  refine m_l2i hx hb dX4_readIndexes_91 (fun x91 e_x91 => ?_)
                  have b_x91 := iB x91
                  refine va_iast hx hb hK hP hD hS 16 0 rfl rfl (ix (by omega) (by omega)) dX4_readIndexes_92 (fun H locs hP hD hS => ?_)
                  obtain ⟨a_u_indexes_92, e_a_u_indexes_92⟩ : ∃ g, g = upd a_u_indexes_2 l2_2.toNatClampNeg x91 := ⟨_, rfl⟩
                  have hP : va_P D vwCl (tw cs q v_t_tapeSize v_t_textSize v_t_faultKind a_t_tape a_t_text a_g_beyond v_g_size a_g_steps a_h_beyond v_h_size a_h_steps a_r_scratch a_r_now v_r_takes v_r_negative v_r_namePlace v_r_faultKind v_r_faultPlace v_a_size v_a_limit v_a_digits v_a_kind v_a_from v_a_to v_o_size a_o_out v_b_size v_b_limit v_b_digits v_b_kind v_b_from v_b_to a_u_atom a_u_other a_u_hand v_u_marksMade v_u_came v_u_guesses v_u_right v_u_taken a_u_vars a_u_marks a_u_outcomes a_u_indexes_92 v_s_things v_s_looked v_s_lookedTooOften v_s_arraysMade v_s_cellsMade a_s_classes a_s_starts a_s_lengths a_s_cells a_L a_K a_vc a_vd a_si a_sj a_iv a_inn a_ac) H := by rw [e_a_u_indexes_92]; exact hP
                  have hD : va_D A (tw cs q v_t_tapeSize v_t_textSize v_t_faultKind a_t_tape a_t_text a_g_beyond v_g_size a_g_steps a_h_beyond v_h_size a_h_steps a_r_scratch a_r_now v_r_takes v_r_negative v_r_namePlace v_r_faultKind v_r_faultPlace v_a_size v_a_limit v_a_digits v_a_kind v_a_from v_a_to v_o_size a_o_out v_b_size v_b_limit v_b_digits v_b_kind v_b_from v_b_to a_u_atom a_u_other a_u_hand v_u_marksMade v_u_came v_u_guesses v_u_right v_u_taken a_u_vars a_u_marks a_u_outcomes a_u_indexes_92 v_s_things v_s_looked v_s_lookedTooOften v_s_arraysMade v_s_cellsMade a_s_classes a_s_starts a_s_lengths a_s_cells a_L a_K a_vc a_vd a_si a_sj a_iv a_inn a_ac) := by rw [e_a_u_indexes_92]; exact hD
                  exact J93 a_u_indexes_92 H locs ls (by trivial) hP hD hS (lv_sub hl [1, 2, 3] rfl)
                · skip
                  refine lv_bipush (v := 6) hx hb dX4_readIndexes_79 (by decide) ?_
                  subst hAe
                  rw [hQ]
                  exact W.iret (v := 6) hx hb hr (fun t ht hW => ⟨⟨6, _, rfl, ⟨a_u_indexes_2, rfl⟩, by rw [ht]; exact hP, va_K.moved hW.alike hK, hD⟩, hS.F ht⟩) hS.2.2 dX4_readIndexes_81
            · skip
              refine lv_iconst (v := 1) hx hb dX4_readIndexes_62 (by decide) ?_
              subst hAe
              rw [hQ]
              exact W.iret (v := 1) hx hb hr (fun t ht hW => ⟨⟨1, _, rfl, ⟨a_u_indexes_2, rfl⟩, by rw [ht]; exact hP, va_K.moved hW.alike hK, hD⟩, hS.F ht⟩) hS.2.2 dX4_readIndexes_63
          · skip
            refine lv_aload_n hx hb dX4_readIndexes_29 rfl (lv_at hl 0 rfl) ?_
            refine va_get (D := D) (ci := 3) (v := .ref (q 16)) (C := RX4) (T := TX4) (N := 13) hx hb hts hinX4 hown hK hP 12 rfl rfl 4 (by decide) k_4_9 (fun _ h9 => h9) rfl dX4_readIndexes_30 ?_
            refine lv_iload_n hx hb dX4_readIndexes_33 rfl (lv_at hl 2 rfl) ?_
            refine lv_aload_n hx hb dX4_readIndexes_34 rfl (lv_at hl 1 rfl) ?_
            obtain ⟨k35_, hk35_⟩ := pl_S (X := (twX cs q v_t_tapeSize v_t_textSize v_t_faultKind a_t_tape a_t_text a_g_beyond v_g_size a_g_steps a_h_beyond v_h_size a_h_steps a_r_scratch a_r_now v_r_takes v_r_negative v_r_namePlace v_r_faultKind v_r_faultPlace v_a_size v_a_limit v_a_digits v_a_kind v_a_from v_a_to v_o_size a_o_out v_b_size v_b_limit v_b_digits v_b_kind v_b_from v_b_to a_u_atom a_u_other a_u_hand v_u_marksMade v_u_came v_u_guesses v_u_right v_u_taken a_u_vars a_u_marks a_u_outcomes a_u_indexes_2 v_s_things v_s_looked v_s_lookedTooOften v_s_arraysMade v_s_cellsMade a_s_classes a_s_starts a_s_lengths a_s_cells)) (cI := cs 0) (vc := a_vc) (vd := a_vd) (si := a_si) (sj := a_sj) (iv := a_iv) (inn := a_inn) (ac := a_ac) h_s9
            refine va_get (D := D) (ci := 5) (v := .ref (a_inn s9)) (C := RX6) (T := TX6) (N := 15) hx hb hts hinX6 hown hK hP k35_ hk35_ rfl 11 (by decide) k_36_13 (fun _ h9 => h9) rfl dX4_readIndexes_35 ?_
            have hf35 : aR a_L a_K (a_inn s9) := (PI.at (by assumption) h_s9).2.1
            refine lv_iload_n hx hb dX4_readIndexes_38 rfl (lv_at hl 2 rfl) ?_
            obtain ⟨k39_, hk39_⟩ := pl_A (X := (twX cs q v_t_tapeSize v_t_textSize v_t_faultKind a_t_tape a_t_text a_g_beyond v_g_size a_g_steps a_h_beyond v_h_size a_h_steps a_r_scratch a_r_now v_r_takes v_r_negative v_r_namePlace v_r_faultKind v_r_faultPlace v_a_size v_a_limit v_a_digits v_a_kind v_a_from v_a_to v_o_size a_o_out v_b_size v_b_limit v_b_digits v_b_kind v_b_from v_b_to a_u_atom a_u_other a_u_hand v_u_marksMade v_u_came v_u_guesses v_u_right v_u_taken a_u_vars a_u_marks a_u_outcomes a_u_indexes_2 v_s_things v_s_looked v_s_lookedTooOften v_s_arraysMade v_s_cellsMade a_s_classes a_s_starts a_s_lengths a_s_cells)) (cI := cs 0) (vc := a_vc) (vd := a_vd) (si := a_si) (sj := a_sj) (iv := a_iv) (inn := a_inn) (ac := a_ac) hf35
            refine m_iald hx hb hK hP k39_ 0 hk39_ rfl (ix (by omega) (by omega)) dX4_readIndexes_39 (fun x39 e_x39 => ?_)
            have b_x39 := iB x39
            refine va_iast hx hb hK hP hD hS 16 0 rfl rfl (ix (by omega) (by omega)) dX4_readIndexes_40 (fun H locs hP hD hS => ?_)
            obtain ⟨a_u_indexes_40, e_a_u_indexes_40⟩ : ∃ g, g = upd a_u_indexes_2 l2_2.toNatClampNeg x39 := ⟨_, rfl⟩
            have hP : va_P D vwCl (tw cs q v_t_tapeSize v_t_textSize v_t_faultKind a_t_tape a_t_text a_g_beyond v_g_size a_g_steps a_h_beyond v_h_size a_h_steps a_r_scratch a_r_now v_r_takes v_r_negative v_r_namePlace v_r_faultKind v_r_faultPlace v_a_size v_a_limit v_a_digits v_a_kind v_a_from v_a_to v_o_size a_o_out v_b_size v_b_limit v_b_digits v_b_kind v_b_from v_b_to a_u_atom a_u_other a_u_hand v_u_marksMade v_u_came v_u_guesses v_u_right v_u_taken a_u_vars a_u_marks a_u_outcomes a_u_indexes_40 v_s_things v_s_looked v_s_lookedTooOften v_s_arraysMade v_s_cellsMade a_s_classes a_s_starts a_s_lengths a_s_cells a_L a_K a_vc a_vd a_si a_sj a_iv a_inn a_ac) H := by rw [e_a_u_indexes_40]; exact hP
            have hD : va_D A (tw cs q v_t_tapeSize v_t_textSize v_t_faultKind a_t_tape a_t_text a_g_beyond v_g_size a_g_steps a_h_beyond v_h_size a_h_steps a_r_scratch a_r_now v_r_takes v_r_negative v_r_namePlace v_r_faultKind v_r_faultPlace v_a_size v_a_limit v_a_digits v_a_kind v_a_from v_a_to v_o_size a_o_out v_b_size v_b_limit v_b_digits v_b_kind v_b_from v_b_to a_u_atom a_u_other a_u_hand v_u_marksMade v_u_came v_u_guesses v_u_right v_u_taken a_u_vars a_u_marks a_u_outcomes a_u_indexes_40 v_s_things v_s_looked v_s_lookedTooOften v_s_arraysMade v_s_cellsMade a_s_classes a_s_starts a_s_lengths a_s_cells a_L a_K a_vc a_vd a_si a_sj a_iv a_inn a_ac) := by rw [e_a_u_indexes_40]; exact hD
            refine lv_goto (tgt := 93) hx hb dX4_readIndexes_41 (by decide) ?_
            exact J93 a_u_indexes_40 H locs ls (by trivial) hP hD hS (lv_sub hl [0, 1, 2] rfl)
  exact J2 ((3 - (0 : Int32).toInt).toNat + 1) (0 : Int32) a_u_indexes H locs ls (by first | assumption | omega | (intros; omega) | decide) (by first | assumption | omega | (intros; omega) | decide) (by omega) hP hD hS (lv_sub hl [1, 2, 0] rfl)

def rmX4_readAtom : Room := { frames := 60, cells := 0, slots := 0, locals := 1200 }
set_option maxHeartbeats 4000000 in
set_option maxRecDepth 100000 in
theorem tX4_readAtom {l : Launch} {D : va_G} {K : Nat → Nat → Nat} {cs : Nat → ClassId} {q : Nat → Nat} {v_t_tapeSize v_t_textSize v_t_faultKind v_g_size v_h_size v_r_takes v_r_negative v_r_namePlace v_r_faultKind v_r_faultPlace v_a_size v_a_limit v_a_digits v_a_kind v_a_from v_a_to v_o_size v_b_size v_b_limit v_b_digits v_b_kind v_b_from v_b_to v_u_marksMade v_u_came v_u_guesses v_u_right v_u_taken v_s_things v_s_looked v_s_lookedTooOften v_s_arraysMade v_s_cellsMade : Int32} {a_t_tape a_t_text a_o_out a_u_outcomes a_u_indexes a_s_classes a_s_starts a_s_lengths a_vc : Nat → Int32} {a_g_beyond a_h_beyond a_r_scratch a_r_now a_u_atom a_u_other a_u_hand : Nat} {a_g_steps a_h_steps a_u_vars a_u_marks : Nat → Option Nat} {a_s_cells a_vd a_sj : Nat → Int64} {a_L : List Nat} {a_K a_iv a_inn : Nat → Nat} {a_si a_ac : Nat → Nat → Int32} (s9 : Nat) (h_s9 : aS a_L a_K s9) (p_0 : RF a_L a_K a_g_beyond a_h_beyond a_r_scratch a_g_steps a_h_steps a_u_atom a_u_other a_u_hand a_u_vars a_u_marks) (p_1 : STO v_s_things v_s_cellsMade a_s_starts a_s_lengths) (p_2 : PI a_L a_K a_si a_iv a_inn) : CtV l yX4_readAtom (wG yX4_readAtom cX4_readAtom 2 none) rmX4_readAtom D (twT cs) K [.ref (q 12), .ref s9] (tw cs q v_t_tapeSize v_t_textSize v_t_faultKind a_t_tape a_t_text a_g_beyond v_g_size a_g_steps a_h_beyond v_h_size a_h_steps a_r_scratch a_r_now v_r_takes v_r_negative v_r_namePlace v_r_faultKind v_r_faultPlace v_a_size v_a_limit v_a_digits v_a_kind v_a_from v_a_to v_o_size a_o_out v_b_size v_b_limit v_b_digits v_b_kind v_b_from v_b_to a_u_atom a_u_other a_u_hand v_u_marksMade v_u_came v_u_guesses v_u_right v_u_taken a_u_vars a_u_marks a_u_outcomes a_u_indexes v_s_things v_s_looked v_s_lookedTooOften v_s_arraysMade v_s_cellsMade a_s_classes a_s_starts a_s_lengths a_s_cells a_L a_K a_vc a_vd a_si a_sj a_iv a_inn a_ac) (fun w1 => ∃ (v_s_things' : Int32) (a_s_classes' : Nat → Int32) (a_s_starts' : Nat → Int32) (a_s_lengths' : Nat → Int32) (a_vc' : Nat → Int32) (a_vd' : Nat → Int64), w1 = (tw cs q v_t_tapeSize v_t_textSize v_t_faultKind a_t_tape a_t_text a_g_beyond v_g_size a_g_steps a_h_beyond v_h_size a_h_steps a_r_scratch a_r_now v_r_takes v_r_negative v_r_namePlace v_r_faultKind v_r_faultPlace v_a_size v_a_limit v_a_digits v_a_kind v_a_from v_a_to v_o_size a_o_out v_b_size v_b_limit v_b_digits v_b_kind v_b_from v_b_to a_u_atom a_u_other a_u_hand v_u_marksMade v_u_came v_u_guesses v_u_right v_u_taken a_u_vars a_u_marks a_u_outcomes a_u_indexes v_s_things' v_s_looked v_s_lookedTooOften v_s_arraysMade v_s_cellsMade a_s_classes' a_s_starts' a_s_lengths' a_s_cells a_L a_K a_vc' a_vd' a_si a_sj a_iv a_inn a_ac) ∧ (STO v_s_things' v_s_cellsMade a_s_starts' a_s_lengths')) 0 0 := by
  intro sz
  refine Met.ofW (cc := cX4_readAtom) (maxL := 2) (ret := none) (by decide) rfl ?_
  intro p e s m args below meth c s₁ B hml hv
  obtain ⟨rfl, hsz, hP, hK, hD0, hE⟩ := hv
  have hx := B.exec
  have hb := B.bytes
  have hr := B.returns
  have hts := atoms_spec (ws := (wG yX4_readAtom cX4_readAtom 2 none)) B.pre
  have hown : s.vm.findClass RX4 = some m.cls := findClass_of_methodNamed B.named
  have hlocks := B.notSynchronized
  subst hsz
  have hD := hD0.self (sz := s.heap.size)
  obtain ⟨A, hAe⟩ : ∃ A : Nat → Prop, A = va_A (tw cs q v_t_tapeSize v_t_textSize v_t_faultKind a_t_tape a_t_text a_g_beyond v_g_size a_g_steps a_h_beyond v_h_size a_h_steps a_r_scratch a_r_now v_r_takes v_r_negative v_r_namePlace v_r_faultKind v_r_faultPlace v_a_size v_a_limit v_a_digits v_a_kind v_a_from v_a_to v_o_size a_o_out v_b_size v_b_limit v_b_digits v_b_kind v_b_from v_b_to a_u_atom a_u_other a_u_hand v_u_marksMade v_u_came v_u_guesses v_u_right v_u_taken a_u_vars a_u_marks a_u_outcomes a_u_indexes v_s_things v_s_looked v_s_lookedTooOften v_s_arraysMade v_s_cellsMade a_s_classes a_s_starts a_s_lengths a_s_cells a_L a_K a_vc a_vd a_si a_sj a_iv a_inn a_ac) s.heap.size := ⟨_, rfl⟩
  rw [← hAe] at hD hE
  have hA : ∀ q : Nat, s.heap.size ≤ q → A q := fun q h => by rw [hAe]; exact Or.inr h
  have hS : va_S A s.heap s.heap [] := va_S.rf
  have hl := lv_entry ([.ref (q 12), .ref s9]) (n := 2) (Nat.le_of_ble_eq_true rfl)
  rw [lg_entry_eq]
  generalize (lg_sl ([.ref (q 12), .ref s9]) ++ List.replicate (2 - (lg_sl ([.ref (q 12), .ref s9])).length) Slot.unset).toArray = ls at hl ⊢
  have hl : lv_has ls 2 [(0, .ref (q 12)), (1, .ref s9)] := hl
  refine wq (fun Q hQ => ?_)
  have hinX4 : ∀ w ∈ wsX40, w ∈ (wG yX4_readAtom cX4_readAtom 2 none) := fun w h => List.mem_cons_of_mem _ (inlX4 w h)
  have hinX6 : ∀ w ∈ wsX60, w ∈ (wG yX4_readAtom cX4_readAtom 2 none) := fun w h => List.mem_cons_of_mem _ (inlX6 w h)
  have kc0 : (-1 : Int32).toInt = -1 := by decide
  have kc1 : (8 : Int32).toInt = 8 := by decide
  have k_36_22 := hts (.fieldLink RX4 254 "ArrayTrainer$Step" "atomVar" "I") (List.mem_cons_of_mem _ (wr36 _ (List.mem_of_getElem? (i := 22) rfl)))
  have k_36_23 := hts (.fieldLink RX4 257 "ArrayTrainer$Step" "atomClass" "I") (List.mem_cons_of_mem _ (wr36 _ (List.mem_of_getElem? (i := 23) rfl)))
  have k_4_12 := hts (.fieldLink RX4 37 "ArrayTrainer$Runner" "atom" "LArrayTrainer$Value;") (List.mem_cons_of_mem _ (wr4 _ (List.mem_of_getElem? (i := 12) rfl)))
  have k_37_0 := hts (.fieldLink RX4 263 "ArrayTrainer$Step" "atomNumber" "J") (List.mem_cons_of_mem _ (wr37 _ (List.mem_of_getElem? (i := 0) rfl)))
  have k_4_4 := hts (.fieldLink RX4 12 "ArrayTrainer$Runner" "store" "LArrayTrainer$Store;") (List.mem_cons_of_mem _ (wr4 _ (List.mem_of_getElem? (i := 4) rfl)))
  obtain ⟨H, hH⟩ : ∃ H : Heap, H = s.heap := ⟨_, rfl⟩
  obtain ⟨locs, hlc⟩ : ∃ L : List Loc, L = [] := ⟨_, rfl⟩
  have hP : va_P D vwCl (tw cs q v_t_tapeSize v_t_textSize v_t_faultKind a_t_tape a_t_text a_g_beyond v_g_size a_g_steps a_h_beyond v_h_size a_h_steps a_r_scratch a_r_now v_r_takes v_r_negative v_r_namePlace v_r_faultKind v_r_faultPlace v_a_size v_a_limit v_a_digits v_a_kind v_a_from v_a_to v_o_size a_o_out v_b_size v_b_limit v_b_digits v_b_kind v_b_from v_b_to a_u_atom a_u_other a_u_hand v_u_marksMade v_u_came v_u_guesses v_u_right v_u_taken a_u_vars a_u_marks a_u_outcomes a_u_indexes v_s_things v_s_looked v_s_lookedTooOften v_s_arraysMade v_s_cellsMade a_s_classes a_s_starts a_s_lengths a_s_cells a_L a_K a_vc a_vd a_si a_sj a_iv a_inn a_ac) H := by rw [hH]; exact hP
  have hS : va_S A s.heap H locs := by rw [hH, hlc]; exact hS
  refine wHL hH hlc ?_
  refine lv_aload_n hx hb dX4_readAtom_0 rfl (lv_at hl 1 rfl) ?_
  obtain ⟨k1_, hk1_⟩ := pl_S (X := (twX cs q v_t_tapeSize v_t_textSize v_t_faultKind a_t_tape a_t_text a_g_beyond v_g_size a_g_steps a_h_beyond v_h_size a_h_steps a_r_scratch a_r_now v_r_takes v_r_negative v_r_namePlace v_r_faultKind v_r_faultPlace v_a_size v_a_limit v_a_digits v_a_kind v_a_from v_a_to v_o_size a_o_out v_b_size v_b_limit v_b_digits v_b_kind v_b_from v_b_to a_u_atom a_u_other a_u_hand v_u_marksMade v_u_came v_u_guesses v_u_right v_u_taken a_u_vars a_u_marks a_u_outcomes a_u_indexes v_s_things v_s_looked v_s_lookedTooOften v_s_arraysMade v_s_cellsMade a_s_classes a_s_starts a_s_lengths a_s_cells)) (cI := cs 0) (vc := a_vc) (vd := a_vd) (si := a_si) (sj := a_sj) (iv := a_iv) (inn := a_inn) (ac := a_ac) h_s9
  refine va_get (D := D) (ci := 5) (v := .int (a_si s9 10)) (C := RX6) (T := TX6) (N := 15) hx hb hts hinX6 hown hK hP k1_ hk1_ rfl 12 (by decide) k_36_22 (fun _ h9 => h9) rfl dX4_readAtom_1 ?_
  refine lv_topi (fun x1 e_x1 => ?_)
  have b_x1 := iB x1
  refine lv_iconst (v := (-1)) hx hb dX4_readAtom_4 (by decide) ?_
  refine m_icmp_eq (X := x1.toInt) (Y := (-1)) (tgt := 26) hx hb dX4_readAtom_5 (by decide) rfl (by decide) (fun c5 => ?_) (fun c5 => ?_)
  · skip
    refine lv_aload_n hx hb dX4_readAtom_26 rfl (lv_at hl 1 rfl) ?_
    obtain ⟨k27_, hk27_⟩ := pl_S (X := (twX cs q v_t_tapeSize v_t_textSize v_t_faultKind a_t_tape a_t_text a_g_beyond v_g_size a_g_steps a_h_beyond v_h_size a_h_steps a_r_scratch a_r_now v_r_takes v_r_negative v_r_namePlace v_r_faultKind v_r_faultPlace v_a_size v_a_limit v_a_digits v_a_kind v_a_from v_a_to v_o_size a_o_out v_b_size v_b_limit v_b_digits v_b_kind v_b_from v_b_to a_u_atom a_u_other a_u_hand v_u_marksMade v_u_came v_u_guesses v_u_right v_u_taken a_u_vars a_u_marks a_u_outcomes a_u_indexes v_s_things v_s_looked v_s_lookedTooOften v_s_arraysMade v_s_cellsMade a_s_classes a_s_starts a_s_lengths a_s_cells)) (cI := cs 0) (vc := a_vc) (vd := a_vd) (si := a_si) (sj := a_sj) (iv := a_iv) (inn := a_inn) (ac := a_ac) h_s9
    refine va_get (D := D) (ci := 5) (v := .int (a_si s9 11)) (C := RX6) (T := TX6) (N := 15) hx hb hts hinX6 hown hK hP k27_ hk27_ rfl 13 (by decide) k_36_23 (fun _ h9 => h9) rfl dX4_readAtom_27 ?_
    refine lv_topi (fun x27 e_x27 => ?_)
    have b_x27 := iB x27
    refine lv_bipush (v := 8) hx hb dX4_readAtom_30 (by decide) ?_
    refine m_icmp_lt (X := x27.toInt) (Y := 8) (tgt := 61) hx hb dX4_readAtom_32 (by decide) rfl (by decide) (fun c32 => ?_) (fun c32 => ?_)
    · skip
      refine lv_aload_n hx hb dX4_readAtom_61 rfl (lv_at hl 0 rfl) ?_
      have hf62 : aV a_L a_K a_u_atom := by first | assumption | exact RF.z_uA (by assumption)
      refine va_get (D := D) (ci := 3) (v := .ref a_u_atom) (C := RX4) (T := TX4) (N := 13) hx hb hts hinX4 hown hK hP 12 rfl rfl 5 (by decide) k_4_12 (fun _ h9 => h9) rfl dX4_readAtom_62 ?_
      refine lv_aload_n hx hb dX4_readAtom_65 rfl (lv_at hl 1 rfl) ?_
      obtain ⟨k66_, hk66_⟩ := pl_S (X := (twX cs q v_t_tapeSize v_t_textSize v_t_faultKind a_t_tape a_t_text a_g_beyond v_g_size a_g_steps a_h_beyond v_h_size a_h_steps a_r_scratch a_r_now v_r_takes v_r_negative v_r_namePlace v_r_faultKind v_r_faultPlace v_a_size v_a_limit v_a_digits v_a_kind v_a_from v_a_to v_o_size a_o_out v_b_size v_b_limit v_b_digits v_b_kind v_b_from v_b_to a_u_atom a_u_other a_u_hand v_u_marksMade v_u_came v_u_guesses v_u_right v_u_taken a_u_vars a_u_marks a_u_outcomes a_u_indexes v_s_things v_s_looked v_s_lookedTooOften v_s_arraysMade v_s_cellsMade a_s_classes a_s_starts a_s_lengths a_s_cells)) (cI := cs 0) (vc := a_vc) (vd := a_vd) (si := a_si) (sj := a_sj) (iv := a_iv) (inn := a_inn) (ac := a_ac) h_s9
      refine va_get (D := D) (ci := 5) (v := .int (a_si s9 11)) (C := RX6) (T := TX6) (N := 15) hx hb hts hinX6 hown hK hP k66_ hk66_ rfl 13 (by decide) k_36_23 (fun _ h9 => h9) rfl dX4_readAtom_66 ?_
      refine lv_topi (fun x66 e_x66 => ?_)
      have b_x66 := iB x66
      refine lv_aload_n hx hb dX4_readAtom_69 rfl (lv_at hl 1 rfl) ?_
      obtain ⟨k70_, hk70_⟩ := pl_S (X := (twX cs q v_t_tapeSize v_t_textSize v_t_faultKind a_t_tape a_t_text a_g_beyond v_g_size a_g_steps a_h_beyond v_h_size a_h_steps a_r_scratch a_r_now v_r_takes v_r_negative v_r_namePlace v_r_faultKind v_r_faultPlace v_a_size v_a_limit v_a_digits v_a_kind v_a_from v_a_to v_o_size a_o_out v_b_size v_b_limit v_b_digits v_b_kind v_b_from v_b_to a_u_atom a_u_other a_u_hand v_u_marksMade v_u_came v_u_guesses v_u_right v_u_taken a_u_vars a_u_marks a_u_outcomes a_u_indexes v_s_things v_s_looked v_s_lookedTooOften v_s_arraysMade v_s_cellsMade a_s_classes a_s_starts a_s_lengths a_s_cells)) (cI := cs 0) (vc := a_vc) (vd := a_vd) (si := a_si) (sj := a_sj) (iv := a_iv) (inn := a_inn) (ac := a_ac) h_s9
      refine va_get (D := D) (ci := 5) (v := .long (a_sj s9)) (C := RX6) (T := TX6) (N := 15) hx hb hts hinX6 hown hK hP k70_ hk70_ rfl 14 (by decide) k_37_0 (fun _ h9 => h9) rfl dX4_readAtom_70 ?_
      refine lv_topl (fun x70 e_x70 => ?_)
      have b_x70 := jB x70
      obtain ⟨k73_, hk73_⟩ := pl_V (X := (twX cs q v_t_tapeSize v_t_textSize v_t_faultKind a_t_tape a_t_text a_g_beyond v_g_size a_g_steps a_h_beyond v_h_size a_h_steps a_r_scratch a_r_now v_r_takes v_r_negative v_r_namePlace v_r_faultKind v_r_faultPlace v_a_size v_a_limit v_a_digits v_a_kind v_a_from v_a_to v_o_size a_o_out v_b_size v_b_limit v_b_digits v_b_kind v_b_from v_b_to a_u_atom a_u_other a_u_hand v_u_marksMade v_u_came v_u_guesses v_u_right v_u_taken a_u_vars a_u_marks a_u_outcomes a_u_indexes v_s_things v_s_looked v_s_lookedTooOften v_s_arraysMade v_s_cellsMade a_s_classes a_s_starts a_s_lengths a_s_cells)) (cI := cs 0) (vc := a_vc) (vd := a_vd) (si := a_si) (sj := a_sj) (iv := a_iv) (inn := a_inn) (ac := a_ac) hf62
      refine call_v (As := [.int x66, .long x70]) (rest := []) ⟨hx, hb, hml, hown, hts⟩ (tX8_become (l := l) a_u_atom hf62 x66 x70) (cwV 2 hts (gV (wr22 _ (List.mem_of_getElem? (i := 2) rfl)) (wr22 _ (List.mem_of_getElem? (i := 3) rfl)) (wr22 _ (List.mem_of_getElem? (i := 4) rfl)) (wr4 _ (List.mem_of_getElem? (i := 11) rfl)) (wr22 _ (List.mem_of_getElem? (i := 5) rfl))) rfl rfl rfl (by decide +kernel) ⟨Nat.le_of_ble_eq_true rfl, Nat.le_of_ble_eq_true rfl⟩) (va_recv hK hP (ci := 7) (q0 := k73_) rfl hk73_) hK hP hD hE hS hA rfl hl.1 rfl (Nat.le_of_ble_eq_true rfl) dX4_readAtom_73 ⟨Nat.le_of_ble_eq_true rfl, Nat.le_of_ble_eq_true rfl⟩ (fun w9 H locs hw73 hP hD hS => ?_)
      obtain ⟨a_vc_73, a_vd_73, rfl⟩ := hw73
      subst hAe
      rw [hQ]
      exact W.vret hx hb hr (fun t ht hW => ⟨⟨_, rfl, ⟨v_s_things, a_s_classes, a_s_starts, a_s_lengths, a_vc_73, a_vd_73, rfl, by first | assumption | omega | (intros; omega) | decide⟩, by rw [ht]; exact hP, va_K.moved hW.alike hK, hD⟩, hS.F ht⟩) hS.2.2 dX4_readAtom_76
    · skip
      refine lv_aload_n hx hb dX4_readAtom_35 rfl (lv_at hl 0 rfl) ?_
      have hf36 : aV a_L a_K a_u_atom := by first | assumption | exact RF.z_uA (by assumption)
      refine va_get (D := D) (ci := 3) (v := .ref a_u_atom) (C := RX4) (T := TX4) (N := 13) hx hb hts hinX4 hown hK hP 12 rfl rfl 5 (by decide) k_4_12 (fun _ h9 => h9) rfl dX4_readAtom_36 ?_
      refine lv_aload_n hx hb dX4_readAtom_39 rfl (lv_at hl 1 rfl) ?_
      obtain ⟨k40_, hk40_⟩ := pl_S (X := (twX cs q v_t_tapeSize v_t_textSize v_t_faultKind a_t_tape a_t_text a_g_beyond v_g_size a_g_steps a_h_beyond v_h_size a_h_steps a_r_scratch a_r_now v_r_takes v_r_negative v_r_namePlace v_r_faultKind v_r_faultPlace v_a_size v_a_limit v_a_digits v_a_kind v_a_from v_a_to v_o_size a_o_out v_b_size v_b_limit v_b_digits v_b_kind v_b_from v_b_to a_u_atom a_u_other a_u_hand v_u_marksMade v_u_came v_u_guesses v_u_right v_u_taken a_u_vars a_u_marks a_u_outcomes a_u_indexes v_s_things v_s_looked v_s_lookedTooOften v_s_arraysMade v_s_cellsMade a_s_classes a_s_starts a_s_lengths a_s_cells)) (cI := cs 0) (vc := a_vc) (vd := a_vd) (si := a_si) (sj := a_sj) (iv := a_iv) (inn := a_inn) (ac := a_ac) h_s9
      refine va_get (D := D) (ci := 5) (v := .int (a_si s9 11)) (C := RX6) (T := TX6) (N := 15) hx hb hts hinX6 hown hK hP k40_ hk40_ rfl 13 (by decide) k_36_23 (fun _ h9 => h9) rfl dX4_readAtom_40 ?_
      refine lv_topi (fun x40 e_x40 => ?_)
      have b_x40 := iB x40
      refine lv_aload_n hx hb dX4_readAtom_43 rfl (lv_at hl 0 rfl) ?_
      refine va_get (D := D) (ci := 3) (v := .ref (q 17)) (C := RX4) (T := TX4) (N := 13) hx hb hts hinX4 hown hK hP 12 rfl rfl 0 (by decide) k_4_4 (fun _ h9 => h9) rfl dX4_readAtom_44 ?_
      refine lv_aload_n hx hb dX4_readAtom_47 rfl (lv_at hl 1 rfl) ?_
      obtain ⟨k48_, hk48_⟩ := pl_S (X := (twX cs q v_t_tapeSize v_t_textSize v_t_faultKind a_t_tape a_t_text a_g_beyond v_g_size a_g_steps a_h_beyond v_h_size a_h_steps a_r_scratch a_r_now v_r_takes v_r_negative v_r_namePlace v_r_faultKind v_r_faultPlace v_a_size v_a_limit v_a_digits v_a_kind v_a_from v_a_to v_o_size a_o_out v_b_size v_b_limit v_b_digits v_b_kind v_b_from v_b_to a_u_atom a_u_other a_u_hand v_u_marksMade v_u_came v_u_guesses v_u_right v_u_taken a_u_vars a_u_marks a_u_outcomes a_u_indexes v_s_things v_s_looked v_s_lookedTooOften v_s_arraysMade v_s_cellsMade a_s_classes a_s_starts a_s_lengths a_s_cells)) (cI := cs 0) (vc := a_vc) (vd := a_vd) (si := a_si) (sj := a_sj) (iv := a_iv) (inn := a_inn) (ac := a_ac) h_s9
      refine va_get (D := D) (ci := 5) (v := .int (a_si s9 11)) (C := RX6) (T := TX6) (N := 15) hx hb hts hinX6 hown hK hP k48_ hk48_ rfl 13 (by decide) k_36_23 (fun _ h9 => h9) rfl dX4_readAtom_48 ?_
      refine lv_topi (fun x48 e_x48 => ?_)
      have b_x48 := iB x48
      refine call_i (As := [.int x48]) (rest := [.int x40, .ref a_u_atom]) ⟨hx, hb, hml, hown, hts⟩ (tX7_makeCreature (l := l) x48 (by first | assumption | omega | (intros; omega) | decide)) (cwV 1 hts (gV (wr37 _ (List.mem_of_getElem? (i := 6) rfl)) (wr37 _ (List.mem_of_getElem? (i := 7) rfl)) (wr37 _ (List.mem_of_getElem? (i := 8) rfl)) (wr4 _ (List.mem_of_getElem? (i := 3) rfl)) (wr37 _ (List.mem_of_getElem? (i := 9) rfl))) rfl rfl rfl (by decide +kernel) ⟨Nat.le_of_ble_eq_true rfl, Nat.le_of_ble_eq_true rfl⟩) (va_recv hK hP (ci := 6) (q0 := 17) rfl rfl) hK hP hD hE hS hA rfl hl.1 rfl (Nat.le_of_ble_eq_true rfl) dX4_readAtom_51 ⟨Nat.le_of_ble_eq_true rfl, Nat.le_of_ble_eq_true rfl⟩ (fun r51 w9 H locs hw51 hP hD hS => ?_)
      obtain ⟨v_s_things_51, a_s_classes_51, a_s_starts_51, a_s_lengths_51, rfl, hw51_0⟩ := hw51
      have b_v_s_things_51 := iB v_s_things_51
      have b_r51 := iB r51
      refine m_i2l (X := r51.toInt) hx hb dX4_readAtom_54 rfl (fun x54 e_x54 g_x54 => ?_)
      obtain ⟨k55_, hk55_⟩ := pl_V (X := (twX cs q v_t_tapeSize v_t_textSize v_t_faultKind a_t_tape a_t_text a_g_beyond v_g_size a_g_steps a_h_beyond v_h_size a_h_steps a_r_scratch a_r_now v_r_takes v_r_negative v_r_namePlace v_r_faultKind v_r_faultPlace v_a_size v_a_limit v_a_digits v_a_kind v_a_from v_a_to v_o_size a_o_out v_b_size v_b_limit v_b_digits v_b_kind v_b_from v_b_to a_u_atom a_u_other a_u_hand v_u_marksMade v_u_came v_u_guesses v_u_right v_u_taken a_u_vars a_u_marks a_u_outcomes a_u_indexes v_s_things_51 v_s_looked v_s_lookedTooOften v_s_arraysMade v_s_cellsMade a_s_classes_51 a_s_starts_51 a_s_lengths_51 a_s_cells)) (cI := cs 0) (vc := a_vc) (vd := a_vd) (si := a_si) (sj := a_sj) (iv := a_iv) (inn := a_inn) (ac := a_ac) hf36
      refine call_v (As := [.int x40, .long x54]) (rest := []) ⟨hx, hb, hml, hown, hts⟩ (tX8_become (l := l) a_u_atom hf36 x40 x54) (cwV 2 hts (gV (wr22 _ (List.mem_of_getElem? (i := 2) rfl)) (wr22 _ (List.mem_of_getElem? (i := 3) rfl)) (wr22 _ (List.mem_of_getElem? (i := 4) rfl)) (wr4 _ (List.mem_of_getElem? (i := 11) rfl)) (wr22 _ (List.mem_of_getElem? (i := 5) rfl))) rfl rfl rfl (by decide +kernel) ⟨Nat.le_of_ble_eq_true rfl, Nat.le_of_ble_eq_true rfl⟩) (va_recv hK hP (ci := 7) (q0 := k55_) rfl hk55_) hK hP hD hE hS hA rfl hl.1 rfl (Nat.le_of_ble_eq_true rfl) dX4_readAtom_55 ⟨Nat.le_of_ble_eq_true rfl, Nat.le_of_ble_eq_true rfl⟩ (fun w9 H locs hw55 hP hD hS => ?_)
      obtain ⟨a_vc_55, a_vd_55, rfl⟩ := hw55
      refine lv_goto (tgt := 76) hx hb dX4_readAtom_58 (by decide) ?_
      subst hAe
      rw [hQ]
      exact W.vret hx hb hr (fun t ht hW => ⟨⟨_, rfl, ⟨v_s_things_51, a_s_classes_51, a_s_starts_51, a_s_lengths_51, a_vc_55, a_vd_55, rfl, by first | assumption | omega | (intros; omega) | decide⟩, by rw [ht]; exact hP, va_K.moved hW.alike hK, hD⟩, hS.F ht⟩) hS.2.2 dX4_readAtom_76
  · skip
    refine lv_aload_n hx hb dX4_readAtom_8 rfl (lv_at hl 0 rfl) ?_
    have hf9 : aV a_L a_K a_u_atom := by first | assumption | exact RF.z_uA (by assumption)
    refine va_get (D := D) (ci := 3) (v := .ref a_u_atom) (C := RX4) (T := TX4) (N := 13) hx hb hts hinX4 hown hK hP 12 rfl rfl 5 (by decide) k_4_12 (fun _ h9 => h9) rfl dX4_readAtom_9 ?_
    refine lv_aload_n hx hb dX4_readAtom_12 rfl (lv_at hl 0 rfl) ?_
    refine lv_aload_n hx hb dX4_readAtom_13 rfl (lv_at hl 1 rfl) ?_
    obtain ⟨k14_, hk14_⟩ := pl_S (X := (twX cs q v_t_tapeSize v_t_textSize v_t_faultKind a_t_tape a_t_text a_g_beyond v_g_size a_g_steps a_h_beyond v_h_size a_h_steps a_r_scratch a_r_now v_r_takes v_r_negative v_r_namePlace v_r_faultKind v_r_faultPlace v_a_size v_a_limit v_a_digits v_a_kind v_a_from v_a_to v_o_size a_o_out v_b_size v_b_limit v_b_digits v_b_kind v_b_from v_b_to a_u_atom a_u_other a_u_hand v_u_marksMade v_u_came v_u_guesses v_u_right v_u_taken a_u_vars a_u_marks a_u_outcomes a_u_indexes v_s_things v_s_looked v_s_lookedTooOften v_s_arraysMade v_s_cellsMade a_s_classes a_s_starts a_s_lengths a_s_cells)) (cI := cs 0) (vc := a_vc) (vd := a_vd) (si := a_si) (sj := a_sj) (iv := a_iv) (inn := a_inn) (ac := a_ac) h_s9
    refine va_get (D := D) (ci := 5) (v := .int (a_si s9 10)) (C := RX6) (T := TX6) (N := 15) hx hb hts hinX6 hown hK hP k14_ hk14_ rfl 12 (by decide) k_36_22 (fun _ h9 => h9) rfl dX4_readAtom_14 ?_
    refine lv_topi (fun x14 e_x14 => ?_)
    have b_x14 := iB x14
    refine call_r (As := [.int x14]) (rest := [.ref a_u_atom]) ⟨hx, hb, hml, hown, hts⟩ (tX4_variable (l := l) x14 (by first | assumption | omega | (intros; omega) | decide)) (cwV 1 hts (gV (wr21 _ (List.mem_of_getElem? (i := 22) rfl)) (wr21 _ (List.mem_of_getElem? (i := 23) rfl)) (wr22 _ (List.mem_of_getElem? (i := 0) rfl)) (wr2 _ (List.mem_of_getElem? (i := 10) rfl)) (wr22 _ (List.mem_of_getElem? (i := 1) rfl))) rfl rfl rfl (by decide +kernel) ⟨Nat.le_of_ble_eq_true rfl, Nat.le_of_ble_eq_true rfl⟩) (va_recv hK hP (ci := 3) (q0 := 12) rfl rfl) hK hP hD hE hS hA rfl hl.1 rfl (Nat.le_of_ble_eq_true rfl) dX4_readAtom_17 ⟨Nat.le_of_ble_eq_true rfl, Nat.le_of_ble_eq_true rfl⟩ (fun r17 w9 H locs hw17 hP hD hS => ?_)
    obtain ⟨rfl, hw17_0⟩ := hw17
    obtain ⟨k20_, hk20_⟩ := pl_V (X := (twX cs q v_t_tapeSize v_t_textSize v_t_faultKind a_t_tape a_t_text a_g_beyond v_g_size a_g_steps a_h_beyond v_h_size a_h_steps a_r_scratch a_r_now v_r_takes v_r_negative v_r_namePlace v_r_faultKind v_r_faultPlace v_a_size v_a_limit v_a_digits v_a_kind v_a_from v_a_to v_o_size a_o_out v_b_size v_b_limit v_b_digits v_b_kind v_b_from v_b_to a_u_atom a_u_other a_u_hand v_u_marksMade v_u_came v_u_guesses v_u_right v_u_taken a_u_vars a_u_marks a_u_outcomes a_u_indexes v_s_things v_s_looked v_s_lookedTooOften v_s_arraysMade v_s_cellsMade a_s_classes a_s_starts a_s_lengths a_s_cells)) (cI := cs 0) (vc := a_vc) (vd := a_vd) (si := a_si) (sj := a_sj) (iv := a_iv) (inn := a_inn) (ac := a_ac) hf9
    refine call_v (As := [.ref r17]) (rest := []) ⟨hx, hb, hml, hown, hts⟩ (tX8_becomeLike (l := l) a_u_atom hf9 r17 hw17_0) (cwV 1 hts (gV (wr37 _ (List.mem_of_getElem? (i := 1) rfl)) (wr37 _ (List.mem_of_getElem? (i := 2) rfl)) (wr37 _ (List.mem_of_getElem? (i := 3) rfl)) (wr4 _ (List.mem_of_getElem? (i := 11) rfl)) (wr37 _ (List.mem_of_getElem? (i := 4) rfl))) rfl rfl rfl (by decide +kernel) ⟨Nat.le_of_ble_eq_true rfl, Nat.le_of_ble_eq_true rfl⟩) (va_recv hK hP (ci := 7) (q0 := k20_) rfl hk20_) hK hP hD hE hS hA rfl hl.1 rfl (Nat.le_of_ble_eq_true rfl) dX4_readAtom_20 ⟨Nat.le_of_ble_eq_true rfl, Nat.le_of_ble_eq_true rfl⟩ (fun w9 H locs hw20 hP hD hS => ?_)
    obtain ⟨a_vc_20, a_vd_20, rfl⟩ := hw20
    refine lv_goto (tgt := 76) hx hb dX4_readAtom_23 (by decide) ?_
    subst hAe
    rw [hQ]
    exact W.vret hx hb hr (fun t ht hW => ⟨⟨_, rfl, ⟨v_s_things, a_s_classes, a_s_starts, a_s_lengths, a_vc_20, a_vd_20, rfl, by first | assumption | omega | (intros; omega) | decide⟩, by rw [ht]; exact hP, va_K.moved hW.alike hK, hD⟩, hS.F ht⟩) hS.2.2 dX4_readAtom_76

def rmX4_reach : Room := { frames := 60, cells := 0, slots := 0, locals := 1200 }
set_option maxHeartbeats 4000000 in
set_option maxRecDepth 100000 in
theorem tX4_reach {l : Launch} {D : va_G} {K : Nat → Nat → Nat} {cs : Nat → ClassId} {q : Nat → Nat} {v_t_tapeSize v_t_textSize v_t_faultKind v_g_size v_h_size v_r_takes v_r_negative v_r_namePlace v_r_faultKind v_r_faultPlace v_a_size v_a_limit v_a_digits v_a_kind v_a_from v_a_to v_o_size v_b_size v_b_limit v_b_digits v_b_kind v_b_from v_b_to v_u_marksMade v_u_came v_u_guesses v_u_right v_u_taken v_s_things v_s_looked v_s_lookedTooOften v_s_arraysMade v_s_cellsMade : Int32} {a_t_tape a_t_text a_o_out a_u_outcomes a_u_indexes a_s_classes a_s_starts a_s_lengths a_vc : Nat → Int32} {a_g_beyond a_h_beyond a_r_scratch a_r_now a_u_atom a_u_other a_u_hand : Nat} {a_g_steps a_h_steps a_u_vars a_u_marks : Nat → Option Nat} {a_s_cells a_vd a_sj : Nat → Int64} {a_L : List Nat} {a_K a_iv a_inn : Nat → Nat} {a_si a_ac : Nat → Nat → Int32} (s9 : Nat) (h_s9 : aS a_L a_K s9) (p_0 : RF a_L a_K a_g_beyond a_h_beyond a_r_scratch a_g_steps a_h_steps a_u_atom a_u_other a_u_hand a_u_vars a_u_marks) (p_1 : STO v_s_things v_s_cellsMade a_s_starts a_s_lengths) (p_2 : PI a_L a_K a_si a_iv a_inn) : CtI l yX4_reach (wG yX4_reach cX4_reach 4 (some .int)) rmX4_reach D (twT cs) K [.ref (q 12), .ref s9] (tw cs q v_t_tapeSize v_t_textSize v_t_faultKind a_t_tape a_t_text a_g_beyond v_g_size a_g_steps a_h_beyond v_h_size a_h_steps a_r_scratch a_r_now v_r_takes v_r_negative v_r_namePlace v_r_faultKind v_r_faultPlace v_a_size v_a_limit v_a_digits v_a_kind v_a_from v_a_to v_o_size a_o_out v_b_size v_b_limit v_b_digits v_b_kind v_b_from v_b_to a_u_atom a_u_other a_u_hand v_u_marksMade v_u_came v_u_guesses v_u_right v_u_taken a_u_vars a_u_marks a_u_outcomes a_u_indexes v_s_things v_s_looked v_s_lookedTooOften v_s_arraysMade v_s_cellsMade a_s_classes a_s_starts a_s_lengths a_s_cells a_L a_K a_vc a_vd a_si a_sj a_iv a_inn a_ac) (fun r w1 => ∃ (a_vc' : Nat → Int32) (a_vd' : Nat → Int64), w1 = (tw cs q v_t_tapeSize v_t_textSize v_t_faultKind a_t_tape a_t_text a_g_beyond v_g_size a_g_steps a_h_beyond v_h_size a_h_steps a_r_scratch a_r_now v_r_takes v_r_negative v_r_namePlace v_r_faultKind v_r_faultPlace v_a_size v_a_limit v_a_digits v_a_kind v_a_from v_a_to v_o_size a_o_out v_b_size v_b_limit v_b_digits v_b_kind v_b_from v_b_to a_u_atom a_u_other a_u_hand v_u_marksMade v_u_came v_u_guesses v_u_right v_u_taken a_u_vars a_u_marks a_u_outcomes a_u_indexes v_s_things v_s_looked v_s_lookedTooOften v_s_arraysMade v_s_cellsMade a_s_classes a_s_starts a_s_lengths a_s_cells a_L a_K a_vc' a_vd' a_si a_sj a_iv a_inn a_ac)) 0 0 := by
  intro sz
  refine Met.ofW (cc := cX4_reach) (maxL := 4) (ret := (some .int)) (by decide) rfl ?_
  intro p e s m args below meth c s₁ B hml hv
  obtain ⟨rfl, hsz, hP, hK, hD0, hE⟩ := hv
  have hx := B.exec
  have hb := B.bytes
  have hr := B.returns
  have hts := atoms_spec (ws := (wG yX4_reach cX4_reach 4 (some .int))) B.pre
  have hown : s.vm.findClass RX4 = some m.cls := findClass_of_methodNamed B.named
  have hlocks := B.notSynchronized
  subst hsz
  have hD := hD0.self (sz := s.heap.size)
  obtain ⟨A, hAe⟩ : ∃ A : Nat → Prop, A = va_A (tw cs q v_t_tapeSize v_t_textSize v_t_faultKind a_t_tape a_t_text a_g_beyond v_g_size a_g_steps a_h_beyond v_h_size a_h_steps a_r_scratch a_r_now v_r_takes v_r_negative v_r_namePlace v_r_faultKind v_r_faultPlace v_a_size v_a_limit v_a_digits v_a_kind v_a_from v_a_to v_o_size a_o_out v_b_size v_b_limit v_b_digits v_b_kind v_b_from v_b_to a_u_atom a_u_other a_u_hand v_u_marksMade v_u_came v_u_guesses v_u_right v_u_taken a_u_vars a_u_marks a_u_outcomes a_u_indexes v_s_things v_s_looked v_s_lookedTooOften v_s_arraysMade v_s_cellsMade a_s_classes a_s_starts a_s_lengths a_s_cells a_L a_K a_vc a_vd a_si a_sj a_iv a_inn a_ac) s.heap.size := ⟨_, rfl⟩
  rw [← hAe] at hD hE
  have hA : ∀ q : Nat, s.heap.size ≤ q → A q := fun q h => by rw [hAe]; exact Or.inr h
  have hS : va_S A s.heap s.heap [] := va_S.rf
  have hl := lv_entry ([.ref (q 12), .ref s9]) (n := 4) (Nat.le_of_ble_eq_true rfl)
  rw [lg_entry_eq]
  generalize (lg_sl ([.ref (q 12), .ref s9]) ++ List.replicate (4 - (lg_sl ([.ref (q 12), .ref s9])).length) Slot.unset).toArray = ls at hl ⊢
  have hl : lv_has ls 4 [(0, .ref (q 12)), (1, .ref s9)] := hl
  refine wq (fun Q hQ => ?_)
  have hinX4 : ∀ w ∈ wsX40, w ∈ (wG yX4_reach cX4_reach 4 (some .int)) := fun w h => List.mem_cons_of_mem _ (inlX4 w h)
  have hinX6 : ∀ w ∈ wsX60, w ∈ (wG yX4_reach cX4_reach 4 (some .int)) := fun w h => List.mem_cons_of_mem _ (inlX6 w h)
  have kc0 : (0 : Int32).toInt = 0 := by decide
  have kc1 : (1 : Int32).toInt = 1 := by decide
  have kc2 : (2 : Int32).toInt = 2 := by decide
  have k_4_14 := hts (.fieldLink RX4 44 "ArrayTrainer$Runner" "hand" "LArrayTrainer$Value;") (List.mem_cons_of_mem _ (wr4 _ (List.mem_of_getElem? (i := 14) rfl)))
  have k_38_0 := hts (.fieldLink RX4 266 "ArrayTrainer$Step" "first" "I") (List.mem_cons_of_mem _ (wr38 _ (List.mem_of_getElem? (i := 0) rfl)))
  have k_36_11 := hts (.fieldLink RX4 246 "ArrayTrainer$Step" "indexes" "I") (List.mem_cons_of_mem _ (wr36 _ (List.mem_of_getElem? (i := 11) rfl)))
  have k_4_9 := hts (.fieldLink RX4 33 "ArrayTrainer$Runner" "indexes" "[I") (List.mem_cons_of_mem _ (wr4 _ (List.mem_of_getElem? (i := 9) rfl)))
  have k_4_4 := hts (.fieldLink RX4 12 "ArrayTrainer$Runner" "store" "LArrayTrainer$Store;") (List.mem_cons_of_mem _ (wr4 _ (List.mem_of_getElem? (i := 4) rfl)))
  obtain ⟨H, hH⟩ : ∃ H : Heap, H = s.heap := ⟨_, rfl⟩
  obtain ⟨locs, hlc⟩ : ∃ L : List Loc, L = [] := ⟨_, rfl⟩
  have hP : va_P D vwCl (tw cs q v_t_tapeSize v_t_textSize v_t_faultKind a_t_tape a_t_text a_g_beyond v_g_size a_g_steps a_h_beyond v_h_size a_h_steps a_r_scratch a_r_now v_r_takes v_r_negative v_r_namePlace v_r_faultKind v_r_faultPlace v_a_size v_a_limit v_a_digits v_a_kind v_a_from v_a_to v_o_size a_o_out v_b_size v_b_limit v_b_digits v_b_kind v_b_from v_b_to a_u_atom a_u_other a_u_hand v_u_marksMade v_u_came v_u_guesses v_u_right v_u_taken a_u_vars a_u_marks a_u_outcomes a_u_indexes v_s_things v_s_looked v_s_lookedTooOften v_s_arraysMade v_s_cellsMade a_s_classes a_s_starts a_s_lengths a_s_cells a_L a_K a_vc a_vd a_si a_sj a_iv a_inn a_ac) H := by rw [hH]; exact hP
  have hS : va_S A s.heap H locs := by rw [hH, hlc]; exact hS
  refine wHL hH hlc ?_
  refine lv_aload_n hx hb dX4_reach_0 rfl (lv_at hl 0 rfl) ?_
  have hf1 : aV a_L a_K a_u_hand := by first | assumption | exact RF.z_uH (by assumption)
  refine va_get (D := D) (ci := 3) (v := .ref a_u_hand) (C := RX4) (T := TX4) (N := 13) hx hb hts hinX4 hown hK hP 12 rfl rfl 7 (by decide) k_4_14 (fun _ h9 => h9) rfl dX4_reach_1 ?_
  refine lv_aload_n hx hb dX4_reach_4 rfl (lv_at hl 0 rfl) ?_
  refine lv_aload_n hx hb dX4_reach_5 rfl (lv_at hl 1 rfl) ?_
  obtain ⟨k6_, hk6_⟩ := pl_S (X := (twX cs q v_t_tapeSize v_t_textSize v_t_faultKind a_t_tape a_t_text a_g_beyond v_g_size a_g_steps a_h_beyond v_h_size a_h_steps a_r_scratch a_r_now v_r_takes v_r_negative v_r_namePlace v_r_faultKind v_r_faultPlace v_a_size v_a_limit v_a_digits v_a_kind v_a_from v_a_to v_o_size a_o_out v_b_size v_b_limit v_b_digits v_b_kind v_b_from v_b_to a_u_atom a_u_other a_u_hand v_u_marksMade v_u_came v_u_guesses v_u_right v_u_taken a_u_vars a_u_marks a_u_outcomes a_u_indexes v_s_things v_s_looked v_s_lookedTooOften v_s_arraysMade v_s_cellsMade a_s_classes a_s_starts a_s_lengths a_s_cells)) (cI := cs 0) (vc := a_vc) (vd := a_vd) (si := a_si) (sj := a_sj) (iv := a_iv) (inn := a_inn) (ac := a_ac) h_s9
  refine va_get (D := D) (ci := 5) (v := .int (a_si s9 5)) (C := RX6) (T := TX6) (N := 15) hx hb hts hinX6 hown hK hP k6_ hk6_ rfl 5 (by decide) k_38_0 (fun _ h9 => h9) rfl dX4_reach_6 ?_
  refine lv_topi (fun x6 e_x6 => ?_)
  have b_x6 := iB x6
  refine call_r (As := [.int x6]) (rest := [.ref a_u_hand]) ⟨hx, hb, hml, hown, hts⟩ (tX4_variable (l := l) x6 (by first | assumption | omega | (intros; omega) | decide)) (cwV 1 hts (gV (wr21 _ (List.mem_of_getElem? (i := 22) rfl)) (wr21 _ (List.mem_of_getElem? (i := 23) rfl)) (wr22 _ (List.mem_of_getElem? (i := 0) rfl)) (wr2 _ (List.mem_of_getElem? (i := 10) rfl)) (wr22 _ (List.mem_of_getElem? (i := 1) rfl))) rfl rfl rfl (by decide +kernel) ⟨Nat.le_of_ble_eq_true rfl, Nat.le_of_ble_eq_true rfl⟩) (va_recv hK hP (ci := 3) (q0 := 12) rfl rfl) hK hP hD hE hS hA rfl hl.1 rfl (Nat.le_of_ble_eq_true rfl) dX4_reach_9 ⟨Nat.le_of_ble_eq_true rfl, Nat.le_of_ble_eq_true rfl⟩ (fun r9 w9 H locs hw9 hP hD hS => ?_)
  obtain ⟨rfl, hw9_0⟩ := hw9
  obtain ⟨k12_, hk12_⟩ := pl_V (X := (twX cs q v_t_tapeSize v_t_textSize v_t_faultKind a_t_tape a_t_text a_g_beyond v_g_size a_g_steps a_h_beyond v_h_size a_h_steps a_r_scratch a_r_now v_r_takes v_r_negative v_r_namePlace v_r_faultKind v_r_faultPlace v_a_size v_a_limit v_a_digits v_a_kind v_a_from v_a_to v_o_size a_o_out v_b_size v_b_limit v_b_digits v_b_kind v_b_from v_b_to a_u_atom a_u_other a_u_hand v_u_marksMade v_u_came v_u_guesses v_u_right v_u_taken a_u_vars a_u_marks a_u_outcomes a_u_indexes v_s_things v_s_looked v_s_lookedTooOften v_s_arraysMade v_s_cellsMade a_s_classes a_s_starts a_s_lengths a_s_cells)) (cI := cs 0) (vc := a_vc) (vd := a_vd) (si := a_si) (sj := a_sj) (iv := a_iv) (inn := a_inn) (ac := a_ac) hf1
  refine call_v (As := [.ref r9]) (rest := []) ⟨hx, hb, hml, hown, hts⟩ (tX8_becomeLike (l := l) a_u_hand hf1 r9 hw9_0) (cwV 1 hts (gV (wr37 _ (List.mem_of_getElem? (i := 1) rfl)) (wr37 _ (List.mem_of_getElem? (i := 2) rfl)) (wr37 _ (List.mem_of_getElem? (i := 3) rfl)) (wr4 _ (List.mem_of_getElem? (i := 11) rfl)) (wr37 _ (List.mem_of_getElem? (i := 4) rfl))) rfl rfl rfl (by decide +kernel) ⟨Nat.le_of_ble_eq_true rfl, Nat.le_of_ble_eq_true rfl⟩) (va_recv hK hP (ci := 7) (q0 := k12_) rfl hk12_) hK hP hD hE hS hA rfl hl.1 rfl (Nat.le_of_ble_eq_true rfl) dX4_reach_12 ⟨Nat.le_of_ble_eq_true rfl, Nat.le_of_ble_eq_true rfl⟩ (fun w9 H locs hw12 hP hD hS => ?_)
  obtain ⟨a_vc_12, a_vd_12, rfl⟩ := hw12
  refine lv_iconst (v := 0) hx hb dX4_reach_15 (by decide) ?_
  refine lv_istore_n (lv' := [(2, .int 0), (0, .ref (q 12)), (1, .ref s9)]) hx hb dX4_reach_16 rfl hl (by decide) rfl (fun ls hl => ?_)
  have J17 : ∀ (n17 : Nat) (l2_17 : Int32) (a_vc_17 : Nat → Int32) (a_vd_17 : Nat → Int64) (H : Heap) (locs : List Loc) (ls : Array Slot), (0 ≤ l2_17.toInt) → (l2_17.toInt ≤ 3) → (3 - l2_17.toInt < (n17 : Int)) → va_P D vwCl (tw cs q v_t_tapeSize v_t_textSize v_t_faultKind a_t_tape a_t_text a_g_beyond v_g_size a_g_steps a_h_beyond v_h_size a_h_steps a_r_scratch a_r_now v_r_takes v_r_negative v_r_namePlace v_r_faultKind v_r_faultPlace v_a_size v_a_limit v_a_digits v_a_kind v_a_from v_a_to v_o_size a_o_out v_b_size v_b_limit v_b_digits v_b_kind v_b_from v_b_to a_u_atom a_u_other a_u_hand v_u_marksMade v_u_came v_u_guesses v_u_right v_u_taken a_u_vars a_u_marks a_u_outcomes a_u_indexes v_s_things v_s_looked v_s_lookedTooOften v_s_arraysMade v_s_cellsMade a_s_classes a_s_starts a_s_lengths a_s_cells a_L a_K a_vc_17 a_vd_17 a_si a_sj a_iv a_inn a_ac) H → va_D A (tw cs q v_t_tapeSize v_t_textSize v_t_faultKind a_t_tape a_t_text a_g_beyond v_g_size a_g_steps a_h_beyond v_h_size a_h_steps a_r_scratch a_r_now v_r_takes v_r_negative v_r_namePlace v_r_faultKind v_r_faultPlace v_a_size v_a_limit v_a_digits v_a_kind v_a_from v_a_to v_o_size a_o_out v_b_size v_b_limit v_b_digits v_b_kind v_b_from v_b_to a_u_atom a_u_other a_u_hand v_u_marksMade v_u_came v_u_guesses v_u_right v_u_taken a_u_vars a_u_marks a_u_outcomes a_u_indexes v_s_things v_s_looked v_s_lookedTooOften v_s_arraysMade v_s_cellsMade a_s_classes a_s_starts a_s_lengths a_s_cells a_L a_K a_vc_17 a_vd_17 a_si a_sj a_iv a_inn a_ac) → va_S A s.heap H locs → lv_has ls 4 [(0, .ref (q 12)), (1, .ref s9), (2, .int l2_17)] → W p l e (headSpec (wG yX4_reach cX4_reach 4 (some .int)) rmX4_reach).room s m ([.ref (q 12), .ref s9] : List Value).toArray below meth c H locs 0 0 Q (F0 m 17 ls []) := by
    intro n17
    induction n17 with
    | zero =>
      intro l2_17 a_vc_17 a_vd_17 H locs ls f17_0 f17_1 hm17
      exfalso
      omega
    | succ n17 ih17 =>
      intro l2_17 a_vc_17 a_vd_17 H locs ls f17_0 f17_1 hm17 hP hD hS hl
      refine lv_iload_n hx hb dX4_reach_17 rfl (lv_at hl 2 rfl) ?_
      refine lv_iconst (v := 1) hx hb dX4_reach_18 (by decide) ?_
      refine m_iadd (X := l2_17.toInt) (Y := 1) hx hb dX4_reach_19 rfl (by decide) (fun x19 e_x19 g9 => ?_)
      obtain ⟨k_x19, g_x19⟩ := g9
      have b_x19 := iB x19
      try (have q_x19 : x19.toInt = l2_17.toInt + 1 := (by omega); clear g_x19 k_x19)
      refine lv_aload_n hx hb dX4_reach_20 rfl (lv_at hl 1 rfl) ?_
      obtain ⟨k21_, hk21_⟩ := pl_S (X := (twX cs q v_t_tapeSize v_t_textSize v_t_faultKind a_t_tape a_t_text a_g_beyond v_g_size a_g_steps a_h_beyond v_h_size a_h_steps a_r_scratch a_r_now v_r_takes v_r_negative v_r_namePlace v_r_faultKind v_r_faultPlace v_a_size v_a_limit v_a_digits v_a_kind v_a_from v_a_to v_o_size a_o_out v_b_size v_b_limit v_b_digits v_b_kind v_b_from v_b_to a_u_atom a_u_other a_u_hand v_u_marksMade v_u_came v_u_guesses v_u_right v_u_taken a_u_vars a_u_marks a_u_outcomes a_u_indexes v_s_things v_s_looked v_s_lookedTooOften v_s_arraysMade v_s_cellsMade a_s_classes a_s_starts a_s_lengths a_s_cells)) (cI := cs 0) (vc := a_vc_17) (vd := a_vd_17) (si := a_si) (sj := a_sj) (iv := a_iv) (inn := a_inn) (ac := a_ac) h_s9
      refine va_get (D := D) (ci := 5) (v := .int (a_si s9 9)) (C := RX6) (T := TX6) (N := 15) hx hb hts hinX6 hown hK hP k21_ hk21_ rfl 9 (by decide) k_36_11 (fun _ h9 => h9) rfl dX4_reach_21 ?_
      refine lv_topi (fun x21 e_x21 => ?_)
      have b_x21 := iB x21
      have J78 : ∀ (H : Heap) (locs : List Loc) (ls : Array Slot), va_P D vwCl (tw cs q v_t_tapeSize v_t_textSize v_t_faultKind a_t_tape a_t_text a_g_beyond v_g_size a_g_steps a_h_beyond v_h_size a_h_steps a_r_scratch a_r_now v_r_takes v_r_negative v_r_namePlace v_r_faultKind v_r_faultPlace v_a_size v_a_limit v_a_digits v_a_kind v_a_from v_a_to v_o_size a_o_out v_b_size v_b_limit v_b_digits v_b_kind v_b_from v_b_to a_u_atom a_u_other a_u_hand v_u_marksMade v_u_came v_u_guesses v_u_right v_u_taken a_u_vars a_u_marks a_u_outcomes a_u_indexes v_s_things v_s_looked v_s_lookedTooOften v_s_arraysMade v_s_cellsMade a_s_classes a_s_starts a_s_lengths a_s_cells a_L a_K a_vc_17 a_vd_17 a_si a_sj a_iv a_inn a_ac) H → va_D A (tw cs q v_t_tapeSize v_t_textSize v_t_faultKind a_t_tape a_t_text a_g_beyond v_g_size a_g_steps a_h_beyond v_h_size a_h_steps a_r_scratch a_r_now v_r_takes v_r_negative v_r_namePlace v_r_faultKind v_r_faultPlace v_a_size v_a_limit v_a_digits v_a_kind v_a_from v_a_to v_o_size a_o_out v_b_size v_b_limit v_b_digits v_b_kind v_b_from v_b_to a_u_atom a_u_other a_u_hand v_u_marksMade v_u_came v_u_guesses v_u_right v_u_taken a_u_vars a_u_marks a_u_outcomes a_u_indexes v_s_things v_s_looked v_s_lookedTooOften v_s_arraysMade v_s_cellsMade a_s_classes a_s_starts a_s_lengths a_s_cells a_L a_K a_vc_17 a_vd_17 a_si a_sj a_iv a_inn a_ac) → va_S A s.heap H locs → lv_has ls 4 [(0, .ref (q 12))] → W p l e (headSpec (wG yX4_reach cX4_reach 4 (some .int)) rmX4_reach).room s m ([.ref (q 12), .ref s9] : List Value).toArray below meth c H locs 0 0 Q (F0 m 78 ls []) := by
        intro H locs ls hP hD hS hl
        refine lv_aload_n hx hb dX4_reach_78 rfl (lv_at hl 0 rfl) ?_
        have hf79 : aV a_L a_K a_u_hand := by first | assumption | exact RF.z_uH (by assumption)
        refine va_get (D := D) (ci := 3) (v := .ref a_u_hand) (C := RX4) (T := TX4) (N := 13) hx hb hts hinX4 hown hK hP 12 rfl rfl 7 (by decide) k_4_14 (fun _ h9 => h9) rfl dX4_reach_79 ?_
        refine call_iS (As := [.ref a_u_hand]) (rest := []) ⟨hx, hb, hml, hown, hts⟩ (tX4_needArray (l := l) a_u_hand hf79) (va_cwS 1 hts (gS (wr38 _ (List.mem_of_getElem? (i := 1) rfl)) (wr38 _ (List.mem_of_getElem? (i := 2) rfl)) (wr2 _ (List.mem_of_getElem? (i := 10) rfl)) (wr38 _ (List.mem_of_getElem? (i := 3) rfl))) rfl rfl rfl (by decide +kernel) ⟨Nat.le_of_ble_eq_true rfl, Nat.le_of_ble_eq_true rfl⟩) hK hP hD hE hS hA rfl hl.1 rfl (Nat.le_of_ble_eq_true rfl) dX4_reach_82 ⟨Nat.le_of_ble_eq_true rfl, Nat.le_of_ble_eq_true rfl⟩ (fun r82 w9 H locs hw82 hP hD hS => ?_)
        obtain ⟨rfl⟩ := hw82
        have b_r82 := iB r82
        subst hAe
        rw [hQ]
        exact W.iret (v := r82) hx hb hr (fun t ht hW => ⟨⟨r82, _, rfl, ⟨a_vc_17, a_vd_17, rfl⟩, by rw [ht]; exact hP, va_K.moved hW.alike hK, hD⟩, hS.F ht⟩) hS.2.2 dX4_reach_85
      refine m_icmp_ge (X := x19.toInt) (Y := x21.toInt) (tgt := 78) hx hb dX4_reach_24 (by decide) rfl rfl (fun c24 => ?_) (fun c24 => ?_)
      · skip
        exact J78 H locs ls hP hD hS (lv_sub hl [0] rfl)
      · skip
        refine lv_iload_n hx hb dX4_reach_27 rfl (lv_at hl 2 rfl) ?_
        refine lv_aload_n hx hb dX4_reach_28 rfl (lv_at hl 0 rfl) ?_
        refine va_get (D := D) (ci := 3) (v := .ref (q 16)) (C := RX4) (T := TX4) (N := 13) hx hb hts hinX4 hown hK hP 12 rfl rfl 4 (by decide) k_4_9 (fun _ h9 => h9) rfl dX4_reach_29 ?_
        refine m_alen hx hb hK hP 16 0 rfl rfl (show 3 < 2147483648 by decide) dX4_reach_32 (fun x32 g_x32 => ?_)
        have g_x32 : x32.toInt = 3 := g_x32
        refine m_icmp_ge (X := l2_17.toInt) (Y := x32.toInt) (tgt := 78) hx hb dX4_reach_33 (by decide) rfl rfl (fun c33 => ?_) (fun c33 => ?_)
        · skip
          exact J78 H locs ls hP hD hS (lv_sub hl [0] rfl)
        · skip
          refine lv_aload_n hx hb dX4_reach_36 rfl (lv_at hl 0 rfl) ?_
          have hf37 : aV a_L a_K a_u_hand := by first | assumption | exact RF.z_uH (by assumption)
          refine va_get (D := D) (ci := 3) (v := .ref a_u_hand) (C := RX4) (T := TX4) (N := 13) hx hb hts hinX4 hown hK hP 12 rfl rfl 7 (by decide) k_4_14 (fun _ h9 => h9) rfl dX4_reach_37 ?_
          refine call_iS (As := [.ref a_u_hand]) (rest := []) ⟨hx, hb, hml, hown, hts⟩ (tX4_needArray (l := l) a_u_hand hf37) (va_cwS 1 hts (gS (wr38 _ (List.mem_of_getElem? (i := 1) rfl)) (wr38 _ (List.mem_of_getElem? (i := 2) rfl)) (wr2 _ (List.mem_of_getElem? (i := 10) rfl)) (wr38 _ (List.mem_of_getElem? (i := 3) rfl))) rfl rfl rfl (by decide +kernel) ⟨Nat.le_of_ble_eq_true rfl, Nat.le_of_ble_eq_true rfl⟩) hK hP hD hE hS hA rfl hl.1 rfl (Nat.le_of_ble_eq_true rfl) dX4_reach_40 ⟨Nat.le_of_ble_eq_true rfl, Nat.le_of_ble_eq_true rfl⟩ (fun r40 w9 H locs hw40 hP hD hS => ?_)
          obtain ⟨rfl⟩ := hw40
          have b_r40 := iB r40
          refine lv_istore_n (lv' := [(3, .int r40), (0, .ref (q 12)), (1, .ref s9), (2, .int l2_17)]) hx hb dX4_reach_43 rfl hl (by decide) rfl (fun ls hl => ?_)
          refine lv_iload_n hx hb dX4_reach_44 rfl (lv_at hl 0 rfl) ?_
          refine m_if_eq (X := r40.toInt) (tgt := 50) hx hb dX4_reach_45 (by decide) rfl (fun c45 => ?_) (fun c45 => ?_)
          · skip
            refine lv_aload_n hx hb dX4_reach_50 rfl (lv_at hl 1 rfl) ?_
            refine va_get (D := D) (ci := 3) (v := .ref (q 17)) (C := RX4) (T := TX4) (N := 13) hx hb hts hinX4 hown hK hP 12 rfl rfl 0 (by decide) k_4_4 (fun _ h9 => h9) rfl dX4_reach_51 ?_
            refine lv_aload_n hx hb dX4_reach_54 rfl (lv_at hl 1 rfl) ?_
            have hf55 : aV a_L a_K a_u_hand := by first | assumption | exact RF.z_uH (by assumption)
            refine va_get (D := D) (ci := 3) (v := .ref a_u_hand) (C := RX4) (T := TX4) (N := 13) hx hb hts hinX4 hown hK hP 12 rfl rfl 7 (by decide) k_4_14 (fun _ h9 => h9) rfl dX4_reach_55 ?_
            refine lv_aload_n hx hb dX4_reach_58 rfl (lv_at hl 1 rfl) ?_
            refine va_get (D := D) (ci := 3) (v := .ref (q 16)) (C := RX4) (T := TX4) (N := 13) hx hb hts hinX4 hown hK hP 12 rfl rfl 4 (by decide) k_4_9 (fun _ h9 => h9) rfl dX4_reach_59 ?_
            refine lv_iload_n hx hb dX4_reach_62 rfl (lv_at hl 3 rfl) ?_
            refine m_iald hx hb hK hP 16 0 rfl rfl (ix (by omega) (by omega)) dX4_reach_63 (fun x63 e_x63 => ?_)
            have b_x63 := iB x63
            refine call_i (As := [.ref a_u_hand, .int x63]) (rest := []) ⟨hx, hb, hml, hown, hts⟩ (tX7_goInto (l := l) a_u_hand hf55 x63 (by first | assumption | omega | (intros; omega) | decide)) (cwV 2 hts (gV (wr38 _ (List.mem_of_getElem? (i := 8) rfl)) (wr38 _ (List.mem_of_getElem? (i := 9) rfl)) (wr38 _ (List.mem_of_getElem? (i := 10) rfl)) (wr4 _ (List.mem_of_getElem? (i := 3) rfl)) (wr38 _ (List.mem_of_getElem? (i := 11) rfl))) rfl rfl rfl (by decide +kernel) ⟨Nat.le_of_ble_eq_true rfl, Nat.le_of_ble_eq_true rfl⟩) (va_recv hK hP (ci := 6) (q0 := 17) rfl rfl) hK hP hD hE hS hA rfl hl.1 rfl (Nat.le_of_ble_eq_true rfl) dX4_reach_64 ⟨Nat.le_of_ble_eq_true rfl, Nat.le_of_ble_eq_true rfl⟩ (fun r64 w9 H locs hw64 hP hD hS => ?_)
            obtain ⟨a_vc_64, a_vd_64, rfl, hw64_0⟩ := hw64
            have b_r64 := iB r64
            refine m_if_ne (X := r64.toInt) (tgt := 72) hx hb dX4_reach_67 (by decide) rfl (fun c67 => ?_) (fun c67 => ?_)
            · skip
              obtain ⟨x72, e_x72⟩ : ∃ z : Int32, z = l2_17 + (1 : Int32) := ⟨_, rfl⟩
              obtain ⟨k_x72, g_x72⟩ : ∃ k : Int, x72.toInt = l2_17.toInt + (1) + k * 4294967296 := by rw [e_x72]; exact iAdd l2_17 (1)
              have b_x72 := iB x72
              try (have q_x72 : x72.toInt = l2_17.toInt + (1) := (by omega); clear g_x72 k_x72)
              refine lv_iinc (v := x72) (lv' := [(2, .int x72), (3, .int r40), (0, .ref (q 12)), (1, .ref s9)]) hx hb dX4_reach_72 hl (k := 3) rfl (by rw [e_x72]; rfl) (by decide) rfl (fun ls hl => ?_)
              refine lv_goto (tgt := 17) hx hb dX4_reach_75 (by decide) ?_
              exact ih17 x72 a_vc_64 a_vd_64 H locs ls (by first | assumption | omega | (intros; omega) | decide) (by first | assumption | omega | (intros; omega) | decide) (by omega) hP hD hS (lv_sub hl [2, 3, 0] rfl)
            · skip
              refine lv_iconst (v := 2) hx hb dX4_reach_70 (by decide) ?_
              subst hAe
              rw [hQ]
              exact W.iret (v := 2) hx hb hr (fun t ht hW => ⟨⟨2, _, rfl, ⟨a_vc_64, a_vd_64, rfl⟩, by rw [ht]; exact hP, va_K.moved hW.alike hK, hD⟩, hS.F ht⟩) hS.2.2 dX4_reach_71
          · skip
            refine lv_iload_n hx hb dX4_reach_48 rfl (lv_at hl 0 rfl) ?_
            subst hAe
            rw [hQ]
            exact W.iret (v := r40) hx hb hr (fun t ht hW => ⟨⟨r40, _, rfl, ⟨a_vc_17, a_vd_17, rfl⟩, by rw [ht]; exact hP, va_K.moved hW.alike hK, hD⟩, hS.F ht⟩) hS.2.2 dX4_reach_49
  exact J17 ((3 - (0 : Int32).toInt).toNat + 1) (0 : Int32) a_vc_12 a_vd_12 H locs ls (by first | assumption | omega | (intros; omega) | decide) (by first | assumption | omega | (intros; omega) | decide) (by omega) hP hD hS (lv_sub hl [1, 2, 0] rfl)

def rmX4_writeAtom : Room := { frames := 60, cells := 0, slots := 0, locals := 1200 }
set_option maxHeartbeats 4000000 in
set_option maxRecDepth 100000 in
theorem tX4_writeAtom {l : Launch} {D : va_G} {K : Nat → Nat → Nat} {cs : Nat → ClassId} {q : Nat → Nat} {v_t_tapeSize v_t_textSize v_t_faultKind v_g_size v_h_size v_r_takes v_r_negative v_r_namePlace v_r_faultKind v_r_faultPlace v_a_size v_a_limit v_a_digits v_a_kind v_a_from v_a_to v_o_size v_b_size v_b_limit v_b_digits v_b_kind v_b_from v_b_to v_u_marksMade v_u_came v_u_guesses v_u_right v_u_taken v_s_things v_s_looked v_s_lookedTooOften v_s_arraysMade v_s_cellsMade : Int32} {a_t_tape a_t_text a_o_out a_u_outcomes a_u_indexes a_s_classes a_s_starts a_s_lengths a_vc : Nat → Int32} {a_g_beyond a_h_beyond a_r_scratch a_r_now a_u_atom a_u_other a_u_hand : Nat} {a_g_steps a_h_steps a_u_vars a_u_marks : Nat → Option Nat} {a_s_cells a_vd a_sj : Nat → Int64} {a_L : List Nat} {a_K a_iv a_inn : Nat → Nat} {a_si a_ac : Nat → Nat → Int32} (v9 : Nat) (h_v9 : aV a_L a_K v9) (i9 : Int32) (p_0 : RF a_L a_K a_g_beyond a_h_beyond a_r_scratch a_g_steps a_h_steps a_u_atom a_u_other a_u_hand a_u_vars a_u_marks) (p_1 : STO v_s_things v_s_cellsMade a_s_starts a_s_lengths) : CtV l yX4_writeAtom (wG yX4_writeAtom cX4_writeAtom 3 none) rmX4_writeAtom D (twT cs) K [.ref (q 12), .ref v9, .int i9] (tw cs q v_t_tapeSize v_t_textSize v_t_faultKind a_t_tape a_t_text a_g_beyond v_g_size a_g_steps a_h_beyond v_h_size a_h_steps a_r_scratch a_r_now v_r_takes v_r_negative v_r_namePlace v_r_faultKind v_r_faultPlace v_a_size v_a_limit v_a_digits v_a_kind v_a_from v_a_to v_o_size a_o_out v_b_size v_b_limit v_b_digits v_b_kind v_b_from v_b_to a_u_atom a_u_other a_u_hand v_u_marksMade v_u_came v_u_guesses v_u_right v_u_taken a_u_vars a_u_marks a_u_outcomes a_u_indexes v_s_things v_s_looked v_s_lookedTooOften v_s_arraysMade v_s_cellsMade a_s_classes a_s_starts a_s_lengths a_s_cells a_L a_K a_vc a_vd a_si a_sj a_iv a_inn a_ac) (fun w1 => ∃ (a_s_cells' : Nat → Int64), w1 = (tw cs q v_t_tapeSize v_t_textSize v_t_faultKind a_t_tape a_t_text a_g_beyond v_g_size a_g_steps a_h_beyond v_h_size a_h_steps a_r_scratch a_r_now v_r_takes v_r_negative v_r_namePlace v_r_faultKind v_r_faultPlace v_a_size v_a_limit v_a_digits v_a_kind v_a_from v_a_to v_o_size a_o_out v_b_size v_b_limit v_b_digits v_b_kind v_b_from v_b_to a_u_atom a_u_other a_u_hand v_u_marksMade v_u_came v_u_guesses v_u_right v_u_taken a_u_vars a_u_marks a_u_outcomes a_u_indexes v_s_things v_s_looked v_s_lookedTooOften v_s_arraysMade v_s_cellsMade a_s_classes a_s_starts a_s_lengths a_s_cells' a_L a_K a_vc a_vd a_si a_sj a_iv a_inn a_ac)) 0 0 := by
  intro sz
  refine Met.ofW (cc := cX4_writeAtom) (maxL := 3) (ret := none) (by decide) rfl ?_
  intro p e s m args below meth c s₁ B hml hv
  obtain ⟨rfl, hsz, hP, hK, hD0, hE⟩ := hv
  have hx := B.exec
  have hb := B.bytes
  have hr := B.returns
  have hts := atoms_spec (ws := (wG yX4_writeAtom cX4_writeAtom 3 none)) B.pre
  have hown : s.vm.findClass RX4 = some m.cls := findClass_of_methodNamed B.named
  have hlocks := B.notSynchronized
  subst hsz
  have hD := hD0.self (sz := s.heap.size)
  obtain ⟨A, hAe⟩ : ∃ A : Nat → Prop, A = va_A (tw cs q v_t_tapeSize v_t_textSize v_t_faultKind a_t_tape a_t_text a_g_beyond v_g_size a_g_steps a_h_beyond v_h_size a_h_steps a_r_scratch a_r_now v_r_takes v_r_negative v_r_namePlace v_r_faultKind v_r_faultPlace v_a_size v_a_limit v_a_digits v_a_kind v_a_from v_a_to v_o_size a_o_out v_b_size v_b_limit v_b_digits v_b_kind v_b_from v_b_to a_u_atom a_u_other a_u_hand v_u_marksMade v_u_came v_u_guesses v_u_right v_u_taken a_u_vars a_u_marks a_u_outcomes a_u_indexes v_s_things v_s_looked v_s_lookedTooOften v_s_arraysMade v_s_cellsMade a_s_classes a_s_starts a_s_lengths a_s_cells a_L a_K a_vc a_vd a_si a_sj a_iv a_inn a_ac) s.heap.size := ⟨_, rfl⟩
  rw [← hAe] at hD hE
  have hA : ∀ q : Nat, s.heap.size ≤ q → A q := fun q h => by rw [hAe]; exact Or.inr h
  have hS : va_S A s.heap s.heap [] := va_S.rf
  have hl := lv_entry ([.ref (q 12), .ref v9, .int i9]) (n := 3) (Nat.le_of_ble_eq_true rfl)
  rw [lg_entry_eq]
  generalize (lg_sl ([.ref (q 12), .ref v9, .int i9]) ++ List.replicate (3 - (lg_sl ([.ref (q 12), .ref v9, .int i9])).length) Slot.unset).toArray = ls at hl ⊢
  have hl : lv_has ls 3 [(0, .ref (q 12)), (1, .ref v9), (2, .int i9)] := hl
  refine wq (fun Q hQ => ?_)
  have hinX4 : ∀ w ∈ wsX40, w ∈ (wG yX4_writeAtom cX4_writeAtom 3 none) := fun w h => List.mem_cons_of_mem _ (inlX4 w h)
  have hinX8 : ∀ w ∈ wsX80, w ∈ (wG yX4_writeAtom cX4_writeAtom 3 none) := fun w h => List.mem_cons_of_mem _ (inlX8 w h)
  have k_4_4 := hts (.fieldLink RX4 12 "ArrayTrainer$Runner" "store" "LArrayTrainer$Store;") (List.mem_cons_of_mem _ (wr4 _ (List.mem_of_getElem? (i := 4) rfl)))
  have k_4_12 := hts (.fieldLink RX4 37 "ArrayTrainer$Runner" "atom" "LArrayTrainer$Value;") (List.mem_cons_of_mem _ (wr4 _ (List.mem_of_getElem? (i := 12) rfl)))
  have k_36_6 := hts (.fieldLink RX4 155 "ArrayTrainer$Value" "datum" "J") (List.mem_cons_of_mem _ (wr36 _ (List.mem_of_getElem? (i := 6) rfl)))
  have k_36_5 := hts (.fieldLink RX4 152 "ArrayTrainer$Value" "cls" "I") (List.mem_cons_of_mem _ (wr36 _ (List.mem_of_getElem? (i := 5) rfl)))
  obtain ⟨H, hH⟩ : ∃ H : Heap, H = s.heap := ⟨_, rfl⟩
  obtain ⟨locs, hlc⟩ : ∃ L : List Loc, L = [] := ⟨_, rfl⟩
  have hP : va_P D vwCl (tw cs q v_t_tapeSize v_t_textSize v_t_faultKind a_t_tape a_t_text a_g_beyond v_g_size a_g_steps a_h_beyond v_h_size a_h_steps a_r_scratch a_r_now v_r_takes v_r_negative v_r_namePlace v_r_faultKind v_r_faultPlace v_a_size v_a_limit v_a_digits v_a_kind v_a_from v_a_to v_o_size a_o_out v_b_size v_b_limit v_b_digits v_b_kind v_b_from v_b_to a_u_atom a_u_other a_u_hand v_u_marksMade v_u_came v_u_guesses v_u_right v_u_taken a_u_vars a_u_marks a_u_outcomes a_u_indexes v_s_things v_s_looked v_s_lookedTooOften v_s_arraysMade v_s_cellsMade a_s_classes a_s_starts a_s_lengths a_s_cells a_L a_K a_vc a_vd a_si a_sj a_iv a_inn a_ac) H := by rw [hH]; exact hP
  have hS : va_S A s.heap H locs := by rw [hH, hlc]; exact hS
  refine wHL hH hlc ?_
  have b_i9 := iB i9
  refine lv_aload_n hx hb dX4_writeAtom_0 rfl (lv_at hl 0 rfl) ?_
  refine va_get (D := D) (ci := 3) (v := .ref (q 17)) (C := RX4) (T := TX4) (N := 13) hx hb hts hinX4 hown hK hP 12 rfl rfl 0 (by decide) k_4_4 (fun _ h9 => h9) rfl dX4_writeAtom_1 ?_
  refine lv_aload_n hx hb dX4_writeAtom_4 rfl (lv_at hl 1 rfl) ?_
  obtain ⟨k5_, hk5_⟩ := pl_V (X := (twX cs q v_t_tapeSize v_t_textSize v_t_faultKind a_t_tape a_t_text a_g_beyond v_g_size a_g_steps a_h_beyond v_h_size a_h_steps a_r_scratch a_r_now v_r_takes v_r_negative v_r_namePlace v_r_faultKind v_r_faultPlace v_a_size v_a_limit v_a_digits v_a_kind v_a_from v_a_to v_o_size a_o_out v_b_size v_b_limit v_b_digits v_b_kind v_b_from v_b_to a_u_atom a_u_other a_u_hand v_u_marksMade v_u_came v_u_guesses v_u_right v_u_taken a_u_vars a_u_marks a_u_outcomes a_u_indexes v_s_things v_s_looked v_s_lookedTooOften v_s_arraysMade v_s_cellsMade a_s_classes a_s_starts a_s_lengths a_s_cells)) (cI := cs 0) (vc := a_vc) (vd := a_vd) (si := a_si) (sj := a_sj) (iv := a_iv) (inn := a_inn) (ac := a_ac) h_v9
  refine call_i (As := []) (rest := [.ref (q 17)]) ⟨hx, hb, hml, hown, hts⟩ (tX8_array (l := l) v9 h_v9 ) (cwV 0 hts (gV (wr39 _ (List.mem_of_getElem? (i := 22) rfl)) (wr38 _ (List.mem_of_getElem? (i := 13) rfl)) (wr38 _ (List.mem_of_getElem? (i := 14) rfl)) (wr4 _ (List.mem_of_getElem? (i := 11) rfl)) (wr38 _ (List.mem_of_getElem? (i := 15) rfl))) rfl rfl rfl (by decide +kernel) ⟨Nat.le_of_ble_eq_true rfl, Nat.le_of_ble_eq_true rfl⟩) (va_recv hK hP (ci := 7) (q0 := k5_) rfl hk5_) hK hP hD hE hS hA rfl hl.1 rfl (Nat.le_of_ble_eq_true rfl) dX4_writeAtom_5 ⟨Nat.le_of_ble_eq_true rfl, Nat.le_of_ble_eq_true rfl⟩ (fun r5 w9 H locs hw5 hP hD hS => ?_)
  obtain ⟨rfl⟩ := hw5
  have b_r5 := iB r5
  refine lv_iload_n hx hb dX4_writeAtom_8 rfl (lv_at hl 2 rfl) ?_
  refine lv_aload_n hx hb dX4_writeAtom_9 rfl (lv_at hl 0 rfl) ?_
  have hf10 : aV a_L a_K a_u_atom := by first | assumption | exact RF.z_uA (by assumption)
  refine va_get (D := D) (ci := 3) (v := .ref a_u_atom) (C := RX4) (T := TX4) (N := 13) hx hb hts hinX4 hown hK hP 12 rfl rfl 5 (by decide) k_4_12 (fun _ h9 => h9) rfl dX4_writeAtom_10 ?_
  obtain ⟨k13_, hk13_⟩ := pl_V (X := (twX cs q v_t_tapeSize v_t_textSize v_t_faultKind a_t_tape a_t_text a_g_beyond v_g_size a_g_steps a_h_beyond v_h_size a_h_steps a_r_scratch a_r_now v_r_takes v_r_negative v_r_namePlace v_r_faultKind v_r_faultPlace v_a_size v_a_limit v_a_digits v_a_kind v_a_from v_a_to v_o_size a_o_out v_b_size v_b_limit v_b_digits v_b_kind v_b_from v_b_to a_u_atom a_u_other a_u_hand v_u_marksMade v_u_came v_u_guesses v_u_right v_u_taken a_u_vars a_u_marks a_u_outcomes a_u_indexes v_s_things v_s_looked v_s_lookedTooOften v_s_arraysMade v_s_cellsMade a_s_classes a_s_starts a_s_lengths a_s_cells)) (cI := cs 0) (vc := a_vc) (vd := a_vd) (si := a_si) (sj := a_sj) (iv := a_iv) (inn := a_inn) (ac := a_ac) hf10
  refine va_get (D := D) (ci := 7) (v := .long (a_vd a_u_atom)) (C := RX8) (T := TX8) (N := 2) hx hb hts hinX8 hown hK hP k13_ hk13_ rfl 1 (by decide) k_36_6 (fun _ h9 => h9) rfl dX4_writeAtom_13 ?_
  refine lv_topl (fun x13 e_x13 => ?_)
  have b_x13 := jB x13
  refine lv_aload_n hx hb dX4_writeAtom_16 rfl (lv_at hl 1 rfl) ?_
  obtain ⟨k17_, hk17_⟩ := pl_V (X := (twX cs q v_t_tapeSize v_t_textSize v_t_faultKind a_t_tape a_t_text a_g_beyond v_g_size a_g_steps a_h_beyond v_h_size a_h_steps a_r_scratch a_r_now v_r_takes v_r_negative v_r_namePlace v_r_faultKind v_r_faultPlace v_a_size v_a_limit v_a_digits v_a_kind v_a_from v_a_to v_o_size a_o_out v_b_size v_b_limit v_b_digits v_b_kind v_b_from v_b_to a_u_atom a_u_other a_u_hand v_u_marksMade v_u_came v_u_guesses v_u_right v_u_taken a_u_vars a_u_marks a_u_outcomes a_u_indexes v_s_things v_s_looked v_s_lookedTooOften v_s_arraysMade v_s_cellsMade a_s_classes a_s_starts a_s_lengths a_s_cells)) (cI := cs 0) (vc := a_vc) (vd := a_vd) (si := a_si) (sj := a_sj) (iv := a_iv) (inn := a_inn) (ac := a_ac) h_v9
  refine va_get (D := D) (ci := 7) (v := .int (a_vc v9)) (C := RX8) (T := TX8) (N := 2) hx hb hts hinX8 hown hK hP k17_ hk17_ rfl 0 (by decide) k_36_5 (fun _ h9 => h9) rfl dX4_writeAtom_17 ?_
  refine lv_topi (fun x17 e_x17 => ?_)
  have b_x17 := iB x17
  refine call_iSP (As := [.int x17]) (rest := [.long x13, .int i9, .int r5, .ref (q 17)]) ⟨hx, hb, hml, hown, hts⟩ (tX0_elementsOf (l := l) x17) (va_cwS 1 hts (gS (wr39 _ (List.mem_of_getElem? (i := 13) rfl)) (wr39 _ (List.mem_of_getElem? (i := 14) rfl)) (wr19 _ (List.mem_of_getElem? (i := 5) rfl)) (wr39 _ (List.mem_of_getElem? (i := 15) rfl))) rfl rfl rfl (by decide +kernel) ⟨Nat.le_of_ble_eq_true rfl, Nat.le_of_ble_eq_true rfl⟩) (hK.sub [] rfl) hP hD hE hS hA rfl hl.1 rfl (Nat.le_of_ble_eq_true rfl) dX4_writeAtom_20 ⟨Nat.le_of_ble_eq_true rfl, Nat.le_of_ble_eq_true rfl⟩ (fun r20 w9 H locs hw20 hP hD hS => ?_)
  obtain ⟨rfl, hw20_0⟩ := hw20
  have b_r20 := iB r20
  refine call_jSP (As := [.long x13, .int r20]) (rest := [.int i9, .int r5, .ref (q 17)]) ⟨hx, hb, hml, hown, hts⟩ (tX0_widened (l := l) x13 r20) (va_cwS 2 hts (gS (wr40 _ (List.mem_of_getElem? (i := 17) rfl)) (wr21 _ (List.mem_of_getElem? (i := 1) rfl)) (wr19 _ (List.mem_of_getElem? (i := 5) rfl)) (wr21 _ (List.mem_of_getElem? (i := 2) rfl))) rfl rfl rfl (by decide +kernel) ⟨Nat.le_of_ble_eq_true rfl, Nat.le_of_ble_eq_true rfl⟩) (hK.sub [] rfl) hP hD hE hS hA rfl hl.1 rfl (Nat.le_of_ble_eq_true rfl) dX4_writeAtom_23 ⟨Nat.le_of_ble_eq_true rfl, Nat.le_of_ble_eq_true rfl⟩ (fun r23 w9 H locs hw23 hP hD hS => ?_)
  obtain ⟨rfl⟩ := hw23
  have b_r23 := jB r23
  refine call_v (As := [.int r5, .int i9, .long r23]) (rest := []) ⟨hx, hb, hml, hown, hts⟩ (tX7_write (l := l) r5 i9 r23 (by first | assumption | omega | (intros; omega) | decide)) (cwV 3 hts (gV (wr40 _ (List.mem_of_getElem? (i := 22) rfl)) (wr40 _ (List.mem_of_getElem? (i := 23) rfl)) (wr41 _ (List.mem_of_getElem? (i := 0) rfl)) (wr4 _ (List.mem_of_getElem? (i := 3) rfl)) (wr41 _ (List.mem_of_getElem? (i := 1) rfl))) rfl rfl rfl (by decide +kernel) ⟨Nat.le_of_ble_eq_true rfl, Nat.le_of_ble_eq_true rfl⟩) (va_recv hK hP (ci := 6) (q0 := 17) rfl rfl) hK hP hD hE hS hA rfl hl.1 rfl (Nat.le_of_ble_eq_true rfl) dX4_writeAtom_26 ⟨Nat.le_of_ble_eq_true rfl, Nat.le_of_ble_eq_true rfl⟩ (fun w9 H locs hw26 hP hD hS => ?_)
  obtain ⟨a_s_cells_26, rfl⟩ := hw26
  subst hAe
  rw [hQ]
  exact W.vret hx hb hr (fun t ht hW => ⟨⟨_, rfl, ⟨a_s_cells_26, rfl⟩, by rw [ht]; exact hP, va_K.moved hW.alike hK, hD⟩, hS.F ht⟩) hS.2.2 dX4_writeAtom_29

def rmX4_refusalAtCell : Room := { frames := 60, cells := 0, slots := 0, locals := 1200 }
set_option maxHeartbeats 4000000 in
set_option maxRecDepth 100000 in
theorem tX4_refusalAtCell {l : Launch} {D : va_G} {K : Nat → Nat → Nat} {cs : Nat → ClassId} {q : Nat → Nat} {v_t_tapeSize v_t_textSize v_t_faultKind v_g_size v_h_size v_r_takes v_r_negative v_r_namePlace v_r_faultKind v_r_faultPlace v_a_size v_a_limit v_a_digits v_a_kind v_a_from v_a_to v_o_size v_b_size v_b_limit v_b_digits v_b_kind v_b_from v_b_to v_u_marksMade v_u_came v_u_guesses v_u_right v_u_taken v_s_things v_s_looked v_s_lookedTooOften v_s_arraysMade v_s_cellsMade : Int32} {a_t_tape a_t_text a_o_out a_u_outcomes a_u_indexes a_s_classes a_s_starts a_s_lengths a_vc : Nat → Int32} {a_g_beyond a_h_beyond a_r_scratch a_r_now a_u_atom a_u_other a_u_hand : Nat} {a_g_steps a_h_steps a_u_vars a_u_marks : Nat → Option Nat} {a_s_cells a_vd a_sj : Nat → Int64} {a_L : List Nat} {a_K a_iv a_inn : Nat → Nat} {a_si a_ac : Nat → Nat → Int32} (s9 : Nat) (h_s9 : aS a_L a_K s9) (i9 : Int32) (p_0 : RF a_L a_K a_g_beyond a_h_beyond a_r_scratch a_g_steps a_h_steps a_u_atom a_u_other a_u_hand a_u_vars a_u_marks) (p_1 : STO v_s_things v_s_cellsMade a_s_starts a_s_lengths) (p_2 : PI a_L a_K a_si a_iv a_inn) : CtI l yX4_refusalAtCell (wG yX4_refusalAtCell cX4_refusalAtCell 6 (some .int)) rmX4_refusalAtCell D (twT cs) K [.ref (q 12), .ref s9, .int i9] (tw cs q v_t_tapeSize v_t_textSize v_t_faultKind a_t_tape a_t_text a_g_beyond v_g_size a_g_steps a_h_beyond v_h_size a_h_steps a_r_scratch a_r_now v_r_takes v_r_negative v_r_namePlace v_r_faultKind v_r_faultPlace v_a_size v_a_limit v_a_digits v_a_kind v_a_from v_a_to v_o_size a_o_out v_b_size v_b_limit v_b_digits v_b_kind v_b_from v_b_to a_u_atom a_u_other a_u_hand v_u_marksMade v_u_came v_u_guesses v_u_right v_u_taken a_u_vars a_u_marks a_u_outcomes a_u_indexes v_s_things v_s_looked v_s_lookedTooOften v_s_arraysMade v_s_cellsMade a_s_classes a_s_starts a_s_lengths a_s_cells a_L a_K a_vc a_vd a_si a_sj a_iv a_inn a_ac) (fun r w1 => w1 = (tw cs q v_t_tapeSize v_t_textSize v_t_faultKind a_t_tape a_t_text a_g_beyond v_g_size a_g_steps a_h_beyond v_h_size a_h_steps a_r_scratch a_r_now v_r_takes v_r_negative v_r_namePlace v_r_faultKind v_r_faultPlace v_a_size v_a_limit v_a_digits v_a_kind v_a_from v_a_to v_o_size a_o_out v_b_size v_b_limit v_b_digits v_b_kind v_b_from v_b_to a_u_atom a_u_other a_u_hand v_u_marksMade v_u_came v_u_guesses v_u_right v_u_taken a_u_vars a_u_marks a_u_outcomes a_u_indexes v_s_things v_s_looked v_s_lookedTooOften v_s_arraysMade v_s_cellsMade a_s_classes a_s_starts a_s_lengths a_s_cells a_L a_K a_vc a_vd a_si a_sj a_iv a_inn a_ac)) 0 0 := by
  intro sz
  refine Met.ofW (cc := cX4_refusalAtCell) (maxL := 6) (ret := (some .int)) (by decide) rfl ?_
  intro p e s m args below meth c s₁ B hml hv
  obtain ⟨rfl, hsz, hP, hK, hD0, hE⟩ := hv
  have hx := B.exec
  have hb := B.bytes
  have hr := B.returns
  have hts := atoms_spec (ws := (wG yX4_refusalAtCell cX4_refusalAtCell 6 (some .int))) B.pre
  have hown : s.vm.findClass RX4 = some m.cls := findClass_of_methodNamed B.named
  have hlocks := B.notSynchronized
  subst hsz
  have hD := hD0.self (sz := s.heap.size)
  obtain ⟨A, hAe⟩ : ∃ A : Nat → Prop, A = va_A (tw cs q v_t_tapeSize v_t_textSize v_t_faultKind a_t_tape a_t_text a_g_beyond v_g_size a_g_steps a_h_beyond v_h_size a_h_steps a_r_scratch a_r_now v_r_takes v_r_negative v_r_namePlace v_r_faultKind v_r_faultPlace v_a_size v_a_limit v_a_digits v_a_kind v_a_from v_a_to v_o_size a_o_out v_b_size v_b_limit v_b_digits v_b_kind v_b_from v_b_to a_u_atom a_u_other a_u_hand v_u_marksMade v_u_came v_u_guesses v_u_right v_u_taken a_u_vars a_u_marks a_u_outcomes a_u_indexes v_s_things v_s_looked v_s_lookedTooOften v_s_arraysMade v_s_cellsMade a_s_classes a_s_starts a_s_lengths a_s_cells a_L a_K a_vc a_vd a_si a_sj a_iv a_inn a_ac) s.heap.size := ⟨_, rfl⟩
  rw [← hAe] at hD hE
  have hA : ∀ q : Nat, s.heap.size ≤ q → A q := fun q h => by rw [hAe]; exact Or.inr h
  have hS : va_S A s.heap s.heap [] := va_S.rf
  have hl := lv_entry ([.ref (q 12), .ref s9, .int i9]) (n := 6) (Nat.le_of_ble_eq_true rfl)
  rw [lg_entry_eq]
  generalize (lg_sl ([.ref (q 12), .ref s9, .int i9]) ++ List.replicate (6 - (lg_sl ([.ref (q 12), .ref s9, .int i9])).length) Slot.unset).toArray = ls at hl ⊢
  have hl : lv_has ls 6 [(0, .ref (q 12)), (1, .ref s9), (2, .int i9)] := hl
  refine wq (fun Q hQ => ?_)
  have hinX4 : ∀ w ∈ wsX40, w ∈ (wG yX4_refusalAtCell cX4_refusalAtCell 6 (some .int)) := fun w h => List.mem_cons_of_mem _ (inlX4 w h)
  have hinX6 : ∀ w ∈ wsX60, w ∈ (wG yX4_refusalAtCell cX4_refusalAtCell 6 (some .int)) := fun w h => List.mem_cons_of_mem _ (inlX6 w h)
  have hinX8 : ∀ w ∈ wsX80, w ∈ (wG yX4_refusalAtCell cX4_refusalAtCell 6 (some .int)) := fun w h => List.mem_cons_of_mem _ (inlX8 w h)
  have kc0 : (0 : Int32).toInt = 0 := by decide
  have kc1 : (1 : Int32).toInt = 1 := by decide
  have kc2 : (2 : Int32).toInt = 2 := by decide
  have kc3 : (4 : Int32).toInt = 4 := by decide
  have kc4 : (5 : Int32).toInt = 5 := by decide
  have kc5 : (6 : Int32).toInt = 6 := by decide
  have kc6 : (7 : Int32).toInt = 7 := by decide
  have k_4_14 := hts (.fieldLink RX4 44 "ArrayTrainer$Runner" "hand" "LArrayTrainer$Value;") (List.mem_cons_of_mem _ (wr4 _ (List.mem_of_getElem? (i := 14) rfl)))
  have k_36_5 := hts (.fieldLink RX4 152 "ArrayTrainer$Value" "cls" "I") (List.mem_cons_of_mem _ (wr36 _ (List.mem_of_getElem? (i := 5) rfl)))
  have k_36_4 := hts (.fieldLink RX4 149 "ArrayTrainer$Step" "act" "I") (List.mem_cons_of_mem _ (wr36 _ (List.mem_of_getElem? (i := 4) rfl)))
  have k_4_4 := hts (.fieldLink RX4 12 "ArrayTrainer$Runner" "store" "LArrayTrainer$Store;") (List.mem_cons_of_mem _ (wr4 _ (List.mem_of_getElem? (i := 4) rfl)))
  have k_4_12 := hts (.fieldLink RX4 37 "ArrayTrainer$Runner" "atom" "LArrayTrainer$Value;") (List.mem_cons_of_mem _ (wr4 _ (List.mem_of_getElem? (i := 12) rfl)))
  have k_37_19 := hts (.fieldLink RX4 202 "ArrayTrainer$Step" "cls" "I") (List.mem_cons_of_mem _ (wr37 _ (List.mem_of_getElem? (i := 19) rfl)))
  obtain ⟨H, hH⟩ : ∃ H : Heap, H = s.heap := ⟨_, rfl⟩
  obtain ⟨locs, hlc⟩ : ∃ L : List Loc, L = [] := ⟨_, rfl⟩
  have hP : va_P D vwCl (tw cs q v_t_tapeSize v_t_textSize v_t_faultKind a_t_tape a_t_text a_g_beyond v_g_size a_g_steps a_h_beyond v_h_size a_h_steps a_r_scratch a_r_now v_r_takes v_r_negative v_r_namePlace v_r_faultKind v_r_faultPlace v_a_size v_a_limit v_a_digits v_a_kind v_a_from v_a_to v_o_size a_o_out v_b_size v_b_limit v_b_digits v_b_kind v_b_from v_b_to a_u_atom a_u_other a_u_hand v_u_marksMade v_u_came v_u_guesses v_u_right v_u_taken a_u_vars a_u_marks a_u_outcomes a_u_indexes v_s_things v_s_looked v_s_lookedTooOften v_s_arraysMade v_s_cellsMade a_s_classes a_s_starts a_s_lengths a_s_cells a_L a_K a_vc a_vd a_si a_sj a_iv a_inn a_ac) H := by rw [hH]; exact hP
  have hS : va_S A s.heap H locs := by rw [hH, hlc]; exact hS
  refine wHL hH hlc ?_
  have b_i9 := iB i9
  refine lv_aload_n hx hb dX4_refusalAtCell_0 rfl (lv_at hl 0 rfl) ?_
  have hf1 : aV a_L a_K a_u_hand := by first | assumption | exact RF.z_uH (by assumption)
  refine va_get (D := D) (ci := 3) (v := .ref a_u_hand) (C := RX4) (T := TX4) (N := 13) hx hb hts hinX4 hown hK hP 12 rfl rfl 7 (by decide) k_4_14 (fun _ h9 => h9) rfl dX4_refusalAtCell_1 ?_
  obtain ⟨k4_, hk4_⟩ := pl_V (X := (twX cs q v_t_tapeSize v_t_textSize v_t_faultKind a_t_tape a_t_text a_g_beyond v_g_size a_g_steps a_h_beyond v_h_size a_h_steps a_r_scratch a_r_now v_r_takes v_r_negative v_r_namePlace v_r_faultKind v_r_faultPlace v_a_size v_a_limit v_a_digits v_a_kind v_a_from v_a_to v_o_size a_o_out v_b_size v_b_limit v_b_digits v_b_kind v_b_from v_b_to a_u_atom a_u_other a_u_hand v_u_marksMade v_u_came v_u_guesses v_u_right v_u_taken a_u_vars a_u_marks a_u_outcomes a_u_indexes v_s_things v_s_looked v_s_lookedTooOften v_s_arraysMade v_s_cellsMade a_s_classes a_s_starts a_s_lengths a_s_cells)) (cI := cs 0) (vc := a_vc) (vd := a_vd) (si := a_si) (sj := a_sj) (iv := a_iv) (inn := a_inn) (ac := a_ac) hf1
  refine va_get (D := D) (ci := 7) (v := .int (a_vc a_u_hand)) (C := RX8) (T := TX8) (N := 2) hx hb hts hinX8 hown hK hP k4_ hk4_ rfl 0 (by decide) k_36_5 (fun _ h9 => h9) rfl dX4_refusalAtCell_4 ?_
  refine lv_topi (fun x4 e_x4 => ?_)
  have b_x4 := iB x4
  refine call_iSP (As := [.int x4]) (rest := []) ⟨hx, hb, hml, hown, hts⟩ (tX0_elementsOf (l := l) x4) (va_cwS 1 hts (gS (wr39 _ (List.mem_of_getElem? (i := 13) rfl)) (wr39 _ (List.mem_of_getElem? (i := 14) rfl)) (wr19 _ (List.mem_of_getElem? (i := 5) rfl)) (wr39 _ (List.mem_of_getElem? (i := 15) rfl))) rfl rfl rfl (by decide +kernel) ⟨Nat.le_of_ble_eq_true rfl, Nat.le_of_ble_eq_true rfl⟩) (hK.sub [] rfl) hP hD hE hS hA rfl hl.1 rfl (Nat.le_of_ble_eq_true rfl) dX4_refusalAtCell_7 ⟨Nat.le_of_ble_eq_true rfl, Nat.le_of_ble_eq_true rfl⟩ (fun r7 w9 H locs hw7 hP hD hS => ?_)
  obtain ⟨rfl, hw7_0⟩ := hw7
  have b_r7 := iB r7
  refine lv_istore_n (lv' := [(3, .int r7), (0, .ref (q 12)), (1, .ref s9), (2, .int i9)]) hx hb dX4_refusalAtCell_10 rfl hl (by decide) rfl (fun ls hl => ?_)
  refine lv_iload_n hx hb dX4_refusalAtCell_11 rfl (lv_at hl 0 rfl) ?_
  refine call_iSP (As := [.int r7]) (rest := []) ⟨hx, hb, hml, hown, hts⟩ (tX0_isNumber (l := l) r7) (va_cwS 1 hts (gS (wr39 _ (List.mem_of_getElem? (i := 16) rfl)) (wr19 _ (List.mem_of_getElem? (i := 17) rfl)) (wr19 _ (List.mem_of_getElem? (i := 5) rfl)) (wr19 _ (List.mem_of_getElem? (i := 18) rfl))) rfl rfl rfl (by decide +kernel) ⟨Nat.le_of_ble_eq_true rfl, Nat.le_of_ble_eq_true rfl⟩) (hK.sub [] rfl) hP hD hE hS hA rfl hl.1 rfl (Nat.le_of_ble_eq_true rfl) dX4_refusalAtCell_12 ⟨Nat.le_of_ble_eq_true rfl, Nat.le_of_ble_eq_true rfl⟩ (fun r12 w9 H locs hw12 hP hD hS => ?_)
  obtain ⟨rfl, hw12_0⟩ := hw12
  have b_r12 := iB r12
  refine lv_istore (lv' := [(4, .int r12), (3, .int r7), (0, .ref (q 12)), (1, .ref s9), (2, .int i9)]) hx hb dX4_refusalAtCell_15 hl (by decide) rfl (fun ls hl => ?_)
  refine lv_aload_n hx hb dX4_refusalAtCell_17 rfl (lv_at hl 3 rfl) ?_
  obtain ⟨k18_, hk18_⟩ := pl_S (X := (twX cs q v_t_tapeSize v_t_textSize v_t_faultKind a_t_tape a_t_text a_g_beyond v_g_size a_g_steps a_h_beyond v_h_size a_h_steps a_r_scratch a_r_now v_r_takes v_r_negative v_r_namePlace v_r_faultKind v_r_faultPlace v_a_size v_a_limit v_a_digits v_a_kind v_a_from v_a_to v_o_size a_o_out v_b_size v_b_limit v_b_digits v_b_kind v_b_from v_b_to a_u_atom a_u_other a_u_hand v_u_marksMade v_u_came v_u_guesses v_u_right v_u_taken a_u_vars a_u_marks a_u_outcomes a_u_indexes v_s_things v_s_looked v_s_lookedTooOften v_s_arraysMade v_s_cellsMade a_s_classes a_s_starts a_s_lengths a_s_cells)) (cI := cs 0) (vc := a_vc) (vd := a_vd) (si := a_si) (sj := a_sj) (iv := a_iv) (inn := a_inn) (ac := a_ac) h_s9
  refine va_get (D := D) (ci := 5) (v := .int (a_si s9 0)) (C := RX6) (T := TX6) (N := 15) hx hb hts hinX6 hown hK hP k18_ hk18_ rfl 0 (by decide) k_36_4 (fun _ h9 => h9) rfl dX4_refusalAtCell_18 ?_
  refine lv_topi (fun x18 e_x18 => ?_)
  have b_x18 := iB x18
  refine lv_iconst (v := 4) hx hb dX4_refusalAtCell_21 (by decide) ?_
  have J38 : ∀ (s0_38 : Int32) (H : Heap) (locs : List Loc) (ls : Array Slot), (s0_38.toInt = 0 ∨ s0_38.toInt = 1) → va_P D vwCl (tw cs q v_t_tapeSize v_t_textSize v_t_faultKind a_t_tape a_t_text a_g_beyond v_g_size a_g_steps a_h_beyond v_h_size a_h_steps a_r_scratch a_r_now v_r_takes v_r_negative v_r_namePlace v_r_faultKind v_r_faultPlace v_a_size v_a_limit v_a_digits v_a_kind v_a_from v_a_to v_o_size a_o_out v_b_size v_b_limit v_b_digits v_b_kind v_b_from v_b_to a_u_atom a_u_other a_u_hand v_u_marksMade v_u_came v_u_guesses v_u_right v_u_taken a_u_vars a_u_marks a_u_outcomes a_u_indexes v_s_things v_s_looked v_s_lookedTooOften v_s_arraysMade v_s_cellsMade a_s_classes a_s_starts a_s_lengths a_s_cells a_L a_K a_vc a_vd a_si a_sj a_iv a_inn a_ac) H → va_D A (tw cs q v_t_tapeSize v_t_textSize v_t_faultKind a_t_tape a_t_text a_g_beyond v_g_size a_g_steps a_h_beyond v_h_size a_h_steps a_r_scratch a_r_now v_r_takes v_r_negative v_r_namePlace v_r_faultKind v_r_faultPlace v_a_size v_a_limit v_a_digits v_a_kind v_a_from v_a_to v_o_size a_o_out v_b_size v_b_limit v_b_digits v_b_kind v_b_from v_b_to a_u_atom a_u_other a_u_hand v_u_marksMade v_u_came v_u_guesses v_u_right v_u_taken a_u_vars a_u_marks a_u_outcomes a_u_indexes v_s_things v_s_looked v_s_lookedTooOften v_s_arraysMade v_s_cellsMade a_s_classes a_s_starts a_s_lengths a_s_cells a_L a_K a_vc a_vd a_si a_sj a_iv a_inn a_ac) → va_S A s.heap H locs → lv_has ls 6 [(0, .ref (q 12)), (1, .ref s9), (2, .int i9), (3, .int r7), (4, .int r12)] → W p l e (headSpec (wG yX4_refusalAtCell cX4_refusalAtCell 6 (some .int)) rmX4_refusalAtCell).room s m ([.ref (q 12), .ref s9, .int i9] : List Value).toArray below meth c H locs 0 0 Q (F0 m 38 ls [.int s0_38]) := by
    intro s0_38 H locs ls f38_0 hP hD hS hl
    refine lv_istore (lv' := [(5, .int s0_38), (0, .ref (q 12)), (1, .ref s9), (2, .int i9), (3, .int r7), (4, .int r12)]) hx hb dX4_refusalAtCell_38 hl (by decide) rfl (fun ls hl => ?_)
    refine lv_iload hx hb dX4_refusalAtCell_40 (lv_at hl 0 rfl) ?_
    have J50 : ∀ (H : Heap) (locs : List Loc) (ls : Array Slot), va_P D vwCl (tw cs q v_t_tapeSize v_t_textSize v_t_faultKind a_t_tape a_t_text a_g_beyond v_g_size a_g_steps a_h_beyond v_h_size a_h_steps a_r_scratch a_r_now v_r_takes v_r_negative v_r_namePlace v_r_faultKind v_r_faultPlace v_a_size v_a_limit v_a_digits v_a_kind v_a_from v_a_to v_o_size a_o_out v_b_size v_b_limit v_b_digits v_b_kind v_b_from v_b_to a_u_atom a_u_other a_u_hand v_u_marksMade v_u_came v_u_guesses v_u_right v_u_taken a_u_vars a_u_marks a_u_outcomes a_u_indexes v_s_things v_s_looked v_s_lookedTooOften v_s_arraysMade v_s_cellsMade a_s_classes a_s_starts a_s_lengths a_s_cells a_L a_K a_vc a_vd a_si a_sj a_iv a_inn a_ac) H → va_D A (tw cs q v_t_tapeSize v_t_textSize v_t_faultKind a_t_tape a_t_text a_g_beyond v_g_size a_g_steps a_h_beyond v_h_size a_h_steps a_r_scratch a_r_now v_r_takes v_r_negative v_r_namePlace v_r_faultKind v_r_faultPlace v_a_size v_a_limit v_a_digits v_a_kind v_a_from v_a_to v_o_size a_o_out v_b_size v_b_limit v_b_digits v_b_kind v_b_from v_b_to a_u_atom a_u_other a_u_hand v_u_marksMade v_u_came v_u_guesses v_u_right v_u_taken a_u_vars a_u_marks a_u_outcomes a_u_indexes v_s_things v_s_looked v_s_lookedTooOften v_s_arraysMade v_s_cellsMade a_s_classes a_s_starts a_s_lengths a_s_cells a_L a_K a_vc a_vd a_si a_sj a_iv a_inn a_ac) → va_S A s.heap H locs → lv_has ls 6 [(0, .ref (q 12)), (1, .ref s9), (2, .int i9), (3, .int r7), (4, .int r12)] → W p l e (headSpec (wG yX4_refusalAtCell cX4_refusalAtCell 6 (some .int)) rmX4_refusalAtCell).room s m ([.ref (q 12), .ref s9, .int i9] : List Value).toArray below meth c H locs 0 0 Q (F0 m 50 ls []) := by
      intro H locs ls hP hD hS hl
      refine lv_aload_n hx hb dX4_refusalAtCell_50 rfl (lv_at hl 1 rfl) ?_
      obtain ⟨k51_, hk51_⟩ := pl_S (X := (twX cs q v_t_tapeSize v_t_textSize v_t_faultKind a_t_tape a_t_text a_g_beyond v_g_size a_g_steps a_h_beyond v_h_size a_h_steps a_r_scratch a_r_now v_r_takes v_r_negative v_r_namePlace v_r_faultKind v_r_faultPlace v_a_size v_a_limit v_a_digits v_a_kind v_a_from v_a_to v_o_size a_o_out v_b_size v_b_limit v_b_digits v_b_kind v_b_from v_b_to a_u_atom a_u_other a_u_hand v_u_marksMade v_u_came v_u_guesses v_u_right v_u_taken a_u_vars a_u_marks a_u_outcomes a_u_indexes v_s_things v_s_looked v_s_lookedTooOften v_s_arraysMade v_s_cellsMade a_s_classes a_s_starts a_s_lengths a_s_cells)) (cI := cs 0) (vc := a_vc) (vd := a_vd) (si := a_si) (sj := a_sj) (iv := a_iv) (inn := a_inn) (ac := a_ac) h_s9
      refine va_get (D := D) (ci := 5) (v := .int (a_si s9 0)) (C := RX6) (T := TX6) (N := 15) hx hb hts hinX6 hown hK hP k51_ hk51_ rfl 0 (by decide) k_36_4 (fun _ h9 => h9) rfl dX4_refusalAtCell_51 ?_
      refine lv_topi (fun x51 e_x51 => ?_)
      have b_x51 := iB x51
      refine lv_bipush (v := 7) hx hb dX4_refusalAtCell_54 (by decide) ?_
      have J77 : ∀ (H : Heap) (locs : List Loc) (ls : Array Slot), va_P D vwCl (tw cs q v_t_tapeSize v_t_textSize v_t_faultKind a_t_tape a_t_text a_g_beyond v_g_size a_g_steps a_h_beyond v_h_size a_h_steps a_r_scratch a_r_now v_r_takes v_r_negative v_r_namePlace v_r_faultKind v_r_faultPlace v_a_size v_a_limit v_a_digits v_a_kind v_a_from v_a_to v_o_size a_o_out v_b_size v_b_limit v_b_digits v_b_kind v_b_from v_b_to a_u_atom a_u_other a_u_hand v_u_marksMade v_u_came v_u_guesses v_u_right v_u_taken a_u_vars a_u_marks a_u_outcomes a_u_indexes v_s_things v_s_looked v_s_lookedTooOften v_s_arraysMade v_s_cellsMade a_s_classes a_s_starts a_s_lengths a_s_cells a_L a_K a_vc a_vd a_si a_sj a_iv a_inn a_ac) H → va_D A (tw cs q v_t_tapeSize v_t_textSize v_t_faultKind a_t_tape a_t_text a_g_beyond v_g_size a_g_steps a_h_beyond v_h_size a_h_steps a_r_scratch a_r_now v_r_takes v_r_negative v_r_namePlace v_r_faultKind v_r_faultPlace v_a_size v_a_limit v_a_digits v_a_kind v_a_from v_a_to v_o_size a_o_out v_b_size v_b_limit v_b_digits v_b_kind v_b_from v_b_to a_u_atom a_u_other a_u_hand v_u_marksMade v_u_came v_u_guesses v_u_right v_u_taken a_u_vars a_u_marks a_u_outcomes a_u_indexes v_s_things v_s_looked v_s_lookedTooOften v_s_arraysMade v_s_cellsMade a_s_classes a_s_starts a_s_lengths a_s_cells a_L a_K a_vc a_vd a_si a_sj a_iv a_inn a_ac) → va_S A s.heap H locs → lv_has ls 6 [(0, .ref (q 12)), (1, .ref s9), (2, .int i9), (3, .int r7)] → W p l e (headSpec (wG yX4_refusalAtCell cX4_refusalAtCell 6 (some .int)) rmX4_refusalAtCell).room s m ([.ref (q 12), .ref s9, .int i9] : List Value).toArray below meth c H locs 0 0 Q (F0 m 77 ls []) := by
        intro H locs ls hP hD hS hl
        refine lv_aload_n hx hb dX4_refusalAtCell_77 rfl (lv_at hl 0 rfl) ?_
        refine va_get (D := D) (ci := 3) (v := .ref (q 17)) (C := RX4) (T := TX4) (N := 13) hx hb hts hinX4 hown hK hP 12 rfl rfl 0 (by decide) k_4_4 (fun _ h9 => h9) rfl dX4_refusalAtCell_78 ?_
        refine lv_aload_n hx hb dX4_refusalAtCell_81 rfl (lv_at hl 0 rfl) ?_
        have hf82 : aV a_L a_K a_u_hand := by first | assumption | exact RF.z_uH (by assumption)
        refine va_get (D := D) (ci := 3) (v := .ref a_u_hand) (C := RX4) (T := TX4) (N := 13) hx hb hts hinX4 hown hK hP 12 rfl rfl 7 (by decide) k_4_14 (fun _ h9 => h9) rfl dX4_refusalAtCell_82 ?_
        obtain ⟨k85_, hk85_⟩ := pl_V (X := (twX cs q v_t_tapeSize v_t_textSize v_t_faultKind a_t_tape a_t_text a_g_beyond v_g_size a_g_steps a_h_beyond v_h_size a_h_steps a_r_scratch a_r_now v_r_takes v_r_negative v_r_namePlace v_r_faultKind v_r_faultPlace v_a_size v_a_limit v_a_digits v_a_kind v_a_from v_a_to v_o_size a_o_out v_b_size v_b_limit v_b_digits v_b_kind v_b_from v_b_to a_u_atom a_u_other a_u_hand v_u_marksMade v_u_came v_u_guesses v_u_right v_u_taken a_u_vars a_u_marks a_u_outcomes a_u_indexes v_s_things v_s_looked v_s_lookedTooOften v_s_arraysMade v_s_cellsMade a_s_classes a_s_starts a_s_lengths a_s_cells)) (cI := cs 0) (vc := a_vc) (vd := a_vd) (si := a_si) (sj := a_sj) (iv := a_iv) (inn := a_inn) (ac := a_ac) hf82
        refine call_i (As := []) (rest := [.ref (q 17)]) ⟨hx, hb, hml, hown, hts⟩ (tX8_array (l := l) a_u_hand hf82 ) (cwV 0 hts (gV (wr39 _ (List.mem_of_getElem? (i := 22) rfl)) (wr38 _ (List.mem_of_getElem? (i := 13) rfl)) (wr38 _ (List.mem_of_getElem? (i := 14) rfl)) (wr4 _ (List.mem_of_getElem? (i := 11) rfl)) (wr38 _ (List.mem_of_getElem? (i := 15) rfl))) rfl rfl rfl (by decide +kernel) ⟨Nat.le_of_ble_eq_true rfl, Nat.le_of_ble_eq_true rfl⟩) (va_recv hK hP (ci := 7) (q0 := k85_) rfl hk85_) hK hP hD hE hS hA rfl hl.1 rfl (Nat.le_of_ble_eq_true rfl) dX4_refusalAtCell_85 ⟨Nat.le_of_ble_eq_true rfl, Nat.le_of_ble_eq_true rfl⟩ (fun r85 w9 H locs hw85 hP hD hS => ?_)
        obtain ⟨rfl⟩ := hw85
        have b_r85 := iB r85
        refine lv_iload_n hx hb dX4_refusalAtCell_88 rfl (lv_at hl 2 rfl) ?_
        refine call_i (As := [.int r85, .int i9]) (rest := []) ⟨hx, hb, hml, hown, hts⟩ (tX7_hasCell (l := l) r85 i9 (by first | assumption | omega | (intros; omega) | decide)) (cwV 2 hts (gV (wr39 _ (List.mem_of_getElem? (i := 23) rfl)) (wr38 _ (List.mem_of_getElem? (i := 17) rfl)) (wr38 _ (List.mem_of_getElem? (i := 18) rfl)) (wr4 _ (List.mem_of_getElem? (i := 3) rfl)) (wr38 _ (List.mem_of_getElem? (i := 19) rfl))) rfl rfl rfl (by decide +kernel) ⟨Nat.le_of_ble_eq_true rfl, Nat.le_of_ble_eq_true rfl⟩) (va_recv hK hP (ci := 6) (q0 := 17) rfl rfl) hK hP hD hE hS hA rfl hl.1 rfl (Nat.le_of_ble_eq_true rfl) dX4_refusalAtCell_89 ⟨Nat.le_of_ble_eq_true rfl, Nat.le_of_ble_eq_true rfl⟩ (fun r89 w9 H locs hw89 hP hD hS => ?_)
        obtain ⟨rfl, hw89_0⟩ := hw89
        have b_r89 := iB r89
        refine m_if_ne (X := r89.toInt) (tgt := 97) hx hb dX4_refusalAtCell_92 (by decide) rfl (fun c92 => ?_) (fun c92 => ?_)
        · skip
          refine lv_aload_n hx hb dX4_refusalAtCell_97 rfl (lv_at hl 1 rfl) ?_
          obtain ⟨k98_, hk98_⟩ := pl_S (X := (twX cs q v_t_tapeSize v_t_textSize v_t_faultKind a_t_tape a_t_text a_g_beyond v_g_size a_g_steps a_h_beyond v_h_size a_h_steps a_r_scratch a_r_now v_r_takes v_r_negative v_r_namePlace v_r_faultKind v_r_faultPlace v_a_size v_a_limit v_a_digits v_a_kind v_a_from v_a_to v_o_size a_o_out v_b_size v_b_limit v_b_digits v_b_kind v_b_from v_b_to a_u_atom a_u_other a_u_hand v_u_marksMade v_u_came v_u_guesses v_u_right v_u_taken a_u_vars a_u_marks a_u_outcomes a_u_indexes v_s_things v_s_looked v_s_lookedTooOften v_s_arraysMade v_s_cellsMade a_s_classes a_s_starts a_s_lengths a_s_cells)) (cI := cs 0) (vc := a_vc) (vd := a_vd) (si := a_si) (sj := a_sj) (iv := a_iv) (inn := a_inn) (ac := a_ac) h_s9
          refine va_get (D := D) (ci := 5) (v := .int (a_si s9 0)) (C := RX6) (T := TX6) (N := 15) hx hb hts hinX6 hown hK hP k98_ hk98_ rfl 0 (by decide) k_36_4 (fun _ h9 => h9) rfl dX4_refusalAtCell_98 ?_
          refine lv_topi (fun x98 e_x98 => ?_)
          have b_x98 := iB x98
          rcases (show (x98.toInt < 3 ∨ 7 < x98.toInt) ∨ x98.toInt = 3 ∨ x98.toInt = 4 ∨ x98.toInt = 5 ∨ x98.toInt = 6 ∨ x98.toInt = 7 by omega) with c101 | c101 | c101 | c101 | c101 | c101
          · skip
            refine lv_tableOut (tgt := 205) hx hb dX4_refusalAtCell_101 c101 (by decide) ?_
            refine lv_iconst (v := 0) hx hb dX4_refusalAtCell_205 (by decide) ?_
            subst hAe
            rw [hQ]
            exact W.iret (v := 0) hx hb hr (fun t ht hW => ⟨⟨0, _, rfl, rfl, by rw [ht]; exact hP, va_K.moved hW.alike hK, hD⟩, hS.F ht⟩) hS.2.2 dX4_refusalAtCell_206
          · skip
            refine lv_tableIn (tgt := 136) (off := 35) hx hb dX4_refusalAtCell_101 (by omega) (by omega) (by rw [c101]; rfl) (by decide) ?_
            refine lv_iload_n hx hb dX4_refusalAtCell_136 rfl (lv_at hl 3 rfl) ?_
            refine lv_aload_n hx hb dX4_refusalAtCell_137 rfl (lv_at hl 0 rfl) ?_
            have hf138 : aV a_L a_K a_u_atom := by first | assumption | exact RF.z_uA (by assumption)
            refine va_get (D := D) (ci := 3) (v := .ref a_u_atom) (C := RX4) (T := TX4) (N := 13) hx hb hts hinX4 hown hK hP 12 rfl rfl 5 (by decide) k_4_12 (fun _ h9 => h9) rfl dX4_refusalAtCell_138 ?_
            obtain ⟨k141_, hk141_⟩ := pl_V (X := (twX cs q v_t_tapeSize v_t_textSize v_t_faultKind a_t_tape a_t_text a_g_beyond v_g_size a_g_steps a_h_beyond v_h_size a_h_steps a_r_scratch a_r_now v_r_takes v_r_negative v_r_namePlace v_r_faultKind v_r_faultPlace v_a_size v_a_limit v_a_digits v_a_kind v_a_from v_a_to v_o_size a_o_out v_b_size v_b_limit v_b_digits v_b_kind v_b_from v_b_to a_u_atom a_u_other a_u_hand v_u_marksMade v_u_came v_u_guesses v_u_right v_u_taken a_u_vars a_u_marks a_u_outcomes a_u_indexes v_s_things v_s_looked v_s_lookedTooOften v_s_arraysMade v_s_cellsMade a_s_classes a_s_starts a_s_lengths a_s_cells)) (cI := cs 0) (vc := a_vc) (vd := a_vd) (si := a_si) (sj := a_sj) (iv := a_iv) (inn := a_inn) (ac := a_ac) hf138
            refine va_get (D := D) (ci := 7) (v := .int (a_vc a_u_atom)) (C := RX8) (T := TX8) (N := 2) hx hb hts hinX8 hown hK hP k141_ hk141_ rfl 0 (by decide) k_36_5 (fun _ h9 => h9) rfl dX4_refusalAtCell_141 ?_
            refine lv_topi (fun x141 e_x141 => ?_)
            have b_x141 := iB x141
            refine call_iSP (As := [.int r7, .int x141]) (rest := []) ⟨hx, hb, hml, hown, hts⟩ (tX0_writeRefusal (l := l) r7 x141) (va_cwS 2 hts (gS (wr40 _ (List.mem_of_getElem? (i := 0) rfl)) (wr40 _ (List.mem_of_getElem? (i := 1) rfl)) (wr19 _ (List.mem_of_getElem? (i := 5) rfl)) (wr40 _ (List.mem_of_getElem? (i := 2) rfl))) rfl rfl rfl (by decide +kernel) ⟨Nat.le_of_ble_eq_true rfl, Nat.le_of_ble_eq_true rfl⟩) (hK.sub [] rfl) hP hD hE hS hA rfl hl.1 rfl (Nat.le_of_ble_eq_true rfl) dX4_refusalAtCell_144 ⟨Nat.le_of_ble_eq_true rfl, Nat.le_of_ble_eq_true rfl⟩ (fun r144 w9 H locs hw144 hP hD hS => ?_)
            obtain ⟨rfl, hw144_0⟩ := hw144
            have b_r144 := iB r144
            subst hAe
            rw [hQ]
            exact W.iret (v := r144) hx hb hr (fun t ht hW => ⟨⟨r144, _, rfl, rfl, by rw [ht]; exact hP, va_K.moved hW.alike hK, hD⟩, hS.F ht⟩) hS.2.2 dX4_refusalAtCell_147
          · skip
            refine lv_tableIn (tgt := 148) (off := 47) hx hb dX4_refusalAtCell_101 (by omega) (by omega) (by rw [c101]; rfl) (by decide) ?_
            refine lv_iload_n hx hb dX4_refusalAtCell_148 rfl (lv_at hl 3 rfl) ?_
            refine lv_aload_n hx hb dX4_refusalAtCell_149 rfl (lv_at hl 1 rfl) ?_
            obtain ⟨k150_, hk150_⟩ := pl_S (X := (twX cs q v_t_tapeSize v_t_textSize v_t_faultKind a_t_tape a_t_text a_g_beyond v_g_size a_g_steps a_h_beyond v_h_size a_h_steps a_r_scratch a_r_now v_r_takes v_r_negative v_r_namePlace v_r_faultKind v_r_faultPlace v_a_size v_a_limit v_a_digits v_a_kind v_a_from v_a_to v_o_size a_o_out v_b_size v_b_limit v_b_digits v_b_kind v_b_from v_b_to a_u_atom a_u_other a_u_hand v_u_marksMade v_u_came v_u_guesses v_u_right v_u_taken a_u_vars a_u_marks a_u_outcomes a_u_indexes v_s_things v_s_looked v_s_lookedTooOften v_s_arraysMade v_s_cellsMade a_s_classes a_s_starts a_s_lengths a_s_cells)) (cI := cs 0) (vc := a_vc) (vd := a_vd) (si := a_si) (sj := a_sj) (iv := a_iv) (inn := a_inn) (ac := a_ac) h_s9
            refine va_get (D := D) (ci := 5) (v := .int (a_si s9 7)) (C := RX6) (T := TX6) (N := 15) hx hb hts hinX6 hown hK hP k150_ hk150_ rfl 7 (by decide) k_37_19 (fun _ h9 => h9) rfl dX4_refusalAtCell_150 ?_
            refine lv_topi (fun x150 e_x150 => ?_)
            have b_x150 := iB x150
            refine call_iSP (As := [.int r7, .int x150]) (rest := []) ⟨hx, hb, hml, hown, hts⟩ (tX0_widens (l := l) r7 x150) (va_cwS 2 hts (gS (wr40 _ (List.mem_of_getElem? (i := 12) rfl)) (wr40 _ (List.mem_of_getElem? (i := 5) rfl)) (wr19 _ (List.mem_of_getElem? (i := 5) rfl)) (wr40 _ (List.mem_of_getElem? (i := 6) rfl))) rfl rfl rfl (by decide +kernel) ⟨Nat.le_of_ble_eq_true rfl, Nat.le_of_ble_eq_true rfl⟩) (hK.sub [] rfl) hP hD hE hS hA rfl hl.1 rfl (Nat.le_of_ble_eq_true rfl) dX4_refusalAtCell_153 ⟨Nat.le_of_ble_eq_true rfl, Nat.le_of_ble_eq_true rfl⟩ (fun r153 w9 H locs hw153 hP hD hS => ?_)
            obtain ⟨rfl, hw153_0, hw153_1, hw153_2⟩ := hw153
            have b_r153 := iB r153
            refine m_if_eq (X := r153.toInt) (tgt := 163) hx hb dX4_refusalAtCell_156 (by decide) rfl (fun c156 => ?_) (fun c156 => ?_)
            · skip
              refine lv_bipush (v := 6) hx hb dX4_refusalAtCell_163 (by decide) ?_
              subst hAe
              rw [hQ]
              exact W.iret (v := 6) hx hb hr (fun t ht hW => ⟨⟨6, _, rfl, rfl, by rw [ht]; exact hP, va_K.moved hW.alike hK, hD⟩, hS.F ht⟩) hS.2.2 dX4_refusalAtCell_165
            · skip
              refine lv_iconst (v := 0) hx hb dX4_refusalAtCell_159 (by decide) ?_
              refine lv_goto (tgt := 165) hx hb dX4_refusalAtCell_160 (by decide) ?_
              subst hAe
              rw [hQ]
              exact W.iret (v := 0) hx hb hr (fun t ht hW => ⟨⟨0, _, rfl, rfl, by rw [ht]; exact hP, va_K.moved hW.alike hK, hD⟩, hS.F ht⟩) hS.2.2 dX4_refusalAtCell_165
          · skip
            refine lv_tableIn (tgt := 166) (off := 65) hx hb dX4_refusalAtCell_101 (by omega) (by omega) (by rw [c101]; rfl) (by decide) ?_
            refine lv_aload_n hx hb dX4_refusalAtCell_166 rfl (lv_at hl 1 rfl) ?_
            obtain ⟨k167_, hk167_⟩ := pl_S (X := (twX cs q v_t_tapeSize v_t_textSize v_t_faultKind a_t_tape a_t_text a_g_beyond v_g_size a_g_steps a_h_beyond v_h_size a_h_steps a_r_scratch a_r_now v_r_takes v_r_negative v_r_namePlace v_r_faultKind v_r_faultPlace v_a_size v_a_limit v_a_digits v_a_kind v_a_from v_a_to v_o_size a_o_out v_b_size v_b_limit v_b_digits v_b_kind v_b_from v_b_to a_u_atom a_u_other a_u_hand v_u_marksMade v_u_came v_u_guesses v_u_right v_u_taken a_u_vars a_u_marks a_u_outcomes a_u_indexes v_s_things v_s_looked v_s_lookedTooOften v_s_arraysMade v_s_cellsMade a_s_classes a_s_starts a_s_lengths a_s_cells)) (cI := cs 0) (vc := a_vc) (vd := a_vd) (si := a_si) (sj := a_sj) (iv := a_iv) (inn := a_inn) (ac := a_ac) h_s9
            refine va_get (D := D) (ci := 5) (v := .int (a_si s9 7)) (C := RX6) (T := TX6) (N := 15) hx hb hts hinX6 hown hK hP k167_ hk167_ rfl 7 (by decide) k_37_19 (fun _ h9 => h9) rfl dX4_refusalAtCell_167 ?_
            refine lv_topi (fun x167 e_x167 => ?_)
            have b_x167 := iB x167
            refine lv_iload_n hx hb dX4_refusalAtCell_170 rfl (lv_at hl 3 rfl) ?_
            refine call_iSP (As := [.int x167, .int r7]) (rest := []) ⟨hx, hb, hml, hown, hts⟩ (tX0_widens (l := l) x167 r7) (va_cwS 2 hts (gS (wr40 _ (List.mem_of_getElem? (i := 12) rfl)) (wr40 _ (List.mem_of_getElem? (i := 5) rfl)) (wr19 _ (List.mem_of_getElem? (i := 5) rfl)) (wr40 _ (List.mem_of_getElem? (i := 6) rfl))) rfl rfl rfl (by decide +kernel) ⟨Nat.le_of_ble_eq_true rfl, Nat.le_of_ble_eq_true rfl⟩) (hK.sub [] rfl) hP hD hE hS hA rfl hl.1 rfl (Nat.le_of_ble_eq_true rfl) dX4_refusalAtCell_171 ⟨Nat.le_of_ble_eq_true rfl, Nat.le_of_ble_eq_true rfl⟩ (fun r171 w9 H locs hw171 hP hD hS => ?_)
            obtain ⟨rfl, hw171_0, hw171_1, hw171_2⟩ := hw171
            have b_r171 := iB r171
            refine m_if_eq (X := r171.toInt) (tgt := 181) hx hb dX4_refusalAtCell_174 (by decide) rfl (fun c174 => ?_) (fun c174 => ?_)
            · skip
              refine lv_bipush (v := 6) hx hb dX4_refusalAtCell_181 (by decide) ?_
              subst hAe
              rw [hQ]
              exact W.iret (v := 6) hx hb hr (fun t ht hW => ⟨⟨6, _, rfl, rfl, by rw [ht]; exact hP, va_K.moved hW.alike hK, hD⟩, hS.F ht⟩) hS.2.2 dX4_refusalAtCell_183
            · skip
              refine lv_iconst (v := 0) hx hb dX4_refusalAtCell_177 (by decide) ?_
              refine lv_goto (tgt := 183) hx hb dX4_refusalAtCell_178 (by decide) ?_
              subst hAe
              rw [hQ]
              exact W.iret (v := 0) hx hb hr (fun t ht hW => ⟨⟨0, _, rfl, rfl, by rw [ht]; exact hP, va_K.moved hW.alike hK, hD⟩, hS.F ht⟩) hS.2.2 dX4_refusalAtCell_183
          · skip
            refine lv_tableIn (tgt := 205) (off := 104) hx hb dX4_refusalAtCell_101 (by omega) (by omega) (by rw [c101]; rfl) (by decide) ?_
            refine lv_iconst (v := 0) hx hb dX4_refusalAtCell_205 (by decide) ?_
            subst hAe
            rw [hQ]
            exact W.iret (v := 0) hx hb hr (fun t ht hW => ⟨⟨0, _, rfl, rfl, by rw [ht]; exact hP, va_K.moved hW.alike hK, hD⟩, hS.F ht⟩) hS.2.2 dX4_refusalAtCell_206
          · skip
            refine lv_tableIn (tgt := 184) (off := 83) hx hb dX4_refusalAtCell_101 (by omega) (by omega) (by rw [c101]; rfl) (by decide) ?_
            refine lv_iload_n hx hb dX4_refusalAtCell_184 rfl (lv_at hl 3 rfl) ?_
            refine lv_aload_n hx hb dX4_refusalAtCell_185 rfl (lv_at hl 0 rfl) ?_
            have hf186 : aV a_L a_K a_u_atom := by first | assumption | exact RF.z_uA (by assumption)
            refine va_get (D := D) (ci := 3) (v := .ref a_u_atom) (C := RX4) (T := TX4) (N := 13) hx hb hts hinX4 hown hK hP 12 rfl rfl 5 (by decide) k_4_12 (fun _ h9 => h9) rfl dX4_refusalAtCell_186 ?_
            obtain ⟨k189_, hk189_⟩ := pl_V (X := (twX cs q v_t_tapeSize v_t_textSize v_t_faultKind a_t_tape a_t_text a_g_beyond v_g_size a_g_steps a_h_beyond v_h_size a_h_steps a_r_scratch a_r_now v_r_takes v_r_negative v_r_namePlace v_r_faultKind v_r_faultPlace v_a_size v_a_limit v_a_digits v_a_kind v_a_from v_a_to v_o_size a_o_out v_b_size v_b_limit v_b_digits v_b_kind v_b_from v_b_to a_u_atom a_u_other a_u_hand v_u_marksMade v_u_came v_u_guesses v_u_right v_u_taken a_u_vars a_u_marks a_u_outcomes a_u_indexes v_s_things v_s_looked v_s_lookedTooOften v_s_arraysMade v_s_cellsMade a_s_classes a_s_starts a_s_lengths a_s_cells)) (cI := cs 0) (vc := a_vc) (vd := a_vd) (si := a_si) (sj := a_sj) (iv := a_iv) (inn := a_inn) (ac := a_ac) hf186
            refine va_get (D := D) (ci := 7) (v := .int (a_vc a_u_atom)) (C := RX8) (T := TX8) (N := 2) hx hb hts hinX8 hown hK hP k189_ hk189_ rfl 0 (by decide) k_36_5 (fun _ h9 => h9) rfl dX4_refusalAtCell_189 ?_
            refine lv_topi (fun x189 e_x189 => ?_)
            have b_x189 := iB x189
            refine call_iSP (As := [.int r7, .int x189]) (rest := []) ⟨hx, hb, hml, hown, hts⟩ (tX0_writeRefusal (l := l) r7 x189) (va_cwS 2 hts (gS (wr40 _ (List.mem_of_getElem? (i := 0) rfl)) (wr40 _ (List.mem_of_getElem? (i := 1) rfl)) (wr19 _ (List.mem_of_getElem? (i := 5) rfl)) (wr40 _ (List.mem_of_getElem? (i := 2) rfl))) rfl rfl rfl (by decide +kernel) ⟨Nat.le_of_ble_eq_true rfl, Nat.le_of_ble_eq_true rfl⟩) (hK.sub [] rfl) hP hD hE hS hA rfl hl.1 rfl (Nat.le_of_ble_eq_true rfl) dX4_refusalAtCell_192 ⟨Nat.le_of_ble_eq_true rfl, Nat.le_of_ble_eq_true rfl⟩ (fun r192 w9 H locs hw192 hP hD hS => ?_)
            obtain ⟨rfl, hw192_0⟩ := hw192
            have b_r192 := iB r192
            refine m_if_ne (X := r192.toInt) (tgt := 202) hx hb dX4_refusalAtCell_195 (by decide) rfl (fun c195 => ?_) (fun c195 => ?_)
            · skip
              refine lv_bipush (v := 6) hx hb dX4_refusalAtCell_202 (by decide) ?_
              subst hAe
              rw [hQ]
              exact W.iret (v := 6) hx hb hr (fun t ht hW => ⟨⟨6, _, rfl, rfl, by rw [ht]; exact hP, va_K.moved hW.alike hK, hD⟩, hS.F ht⟩) hS.2.2 dX4_refusalAtCell_204
            · skip
              refine lv_iconst (v := 0) hx hb dX4_refusalAtCell_198 (by decide) ?_
              refine lv_goto (tgt := 204) hx hb dX4_refusalAtCell_199 (by decide) ?_
              subst hAe
              rw [hQ]
              exact W.iret (v := 0) hx hb hr (fun t ht hW => ⟨⟨0, _, rfl, rfl, by rw [ht]; exact hP, va_K.moved hW.alike hK, hD⟩, hS.F ht⟩) hS.2.2 dX4_refusalAtCell_204
        · skip
          refine lv_iconst (v := 2) hx hb dX4_refusalAtCell_95 (by decide) ?_
          subst hAe
          rw [hQ]
          exact W.iret (v := 2) hx hb hr (fun t ht hW => ⟨⟨2, _, rfl, rfl, by rw [ht]; exact hP, va_K.moved hW.alike hK, hD⟩, hS.F ht⟩) hS.2.2 dX4_refusalAtCell_96
      refine m_icmp_ne (X := x51.toInt) (Y := 7) (tgt := 77) hx hb dX4_refusalAtCell_56 (by decide) rfl (by decide) (fun c56 => ?_) (fun c56 => ?_)
      · skip
        exact J77 H locs ls hP hD hS (lv_sub hl [0, 1, 2, 3] rfl)
      · skip
        refine lv_iload hx hb dX4_refusalAtCell_59 (lv_at hl 4 rfl) ?_
        refine m_if_eq (X := r12.toInt) (tgt := 77) hx hb dX4_refusalAtCell_61 (by decide) rfl (fun c61 => ?_) (fun c61 => ?_)
        · skip
          exact J77 H locs ls hP hD hS (lv_sub hl [0, 1, 2, 3] rfl)
        · skip
          refine lv_aload_n hx hb dX4_refusalAtCell_64 rfl (lv_at hl 0 rfl) ?_
          have hf65 : aV a_L a_K a_u_atom := by first | assumption | exact RF.z_uA (by assumption)
          refine va_get (D := D) (ci := 3) (v := .ref a_u_atom) (C := RX4) (T := TX4) (N := 13) hx hb hts hinX4 hown hK hP 12 rfl rfl 5 (by decide) k_4_12 (fun _ h9 => h9) rfl dX4_refusalAtCell_65 ?_
          obtain ⟨k68_, hk68_⟩ := pl_V (X := (twX cs q v_t_tapeSize v_t_textSize v_t_faultKind a_t_tape a_t_text a_g_beyond v_g_size a_g_steps a_h_beyond v_h_size a_h_steps a_r_scratch a_r_now v_r_takes v_r_negative v_r_namePlace v_r_faultKind v_r_faultPlace v_a_size v_a_limit v_a_digits v_a_kind v_a_from v_a_to v_o_size a_o_out v_b_size v_b_limit v_b_digits v_b_kind v_b_from v_b_to a_u_atom a_u_other a_u_hand v_u_marksMade v_u_came v_u_guesses v_u_right v_u_taken a_u_vars a_u_marks a_u_outcomes a_u_indexes v_s_things v_s_looked v_s_lookedTooOften v_s_arraysMade v_s_cellsMade a_s_classes a_s_starts a_s_lengths a_s_cells)) (cI := cs 0) (vc := a_vc) (vd := a_vd) (si := a_si) (sj := a_sj) (iv := a_iv) (inn := a_inn) (ac := a_ac) hf65
          refine call_i (As := []) (rest := []) ⟨hx, hb, hml, hown, hts⟩ (tX8_isNumber (l := l) a_u_atom hf65 ) (cwV 0 hts (gV (wr39 _ (List.mem_of_getElem? (i := 17) rfl)) (wr39 _ (List.mem_of_getElem? (i := 18) rfl)) (wr39 _ (List.mem_of_getElem? (i := 19) rfl)) (wr4 _ (List.mem_of_getElem? (i := 11) rfl)) (wr39 _ (List.mem_of_getElem? (i := 20) rfl))) rfl rfl rfl (by decide +kernel) ⟨Nat.le_of_ble_eq_true rfl, Nat.le_of_ble_eq_true rfl⟩) (va_recv hK hP (ci := 7) (q0 := k68_) rfl hk68_) hK hP hD hE hS hA rfl hl.1 rfl (Nat.le_of_ble_eq_true rfl) dX4_refusalAtCell_68 ⟨Nat.le_of_ble_eq_true rfl, Nat.le_of_ble_eq_true rfl⟩ (fun r68 w9 H locs hw68 hP hD hS => ?_)
          obtain ⟨rfl, hw68_0⟩ := hw68
          have b_r68 := iB r68
          refine m_if_ne (X := r68.toInt) (tgt := 77) hx hb dX4_refusalAtCell_71 (by decide) rfl (fun c71 => ?_) (fun c71 => ?_)
          · skip
            exact J77 H locs ls hP hD hS (lv_sub hl [0, 1, 2, 3] rfl)
          · skip
            refine lv_bipush (v := 6) hx hb dX4_refusalAtCell_74 (by decide) ?_
            subst hAe
            rw [hQ]
            exact W.iret (v := 6) hx hb hr (fun t ht hW => ⟨⟨6, _, rfl, rfl, by rw [ht]; exact hP, va_K.moved hW.alike hK, hD⟩, hS.F ht⟩) hS.2.2 dX4_refusalAtCell_76
    refine m_if_eq (X := s0_38.toInt) (tgt := 50) hx hb dX4_refusalAtCell_42 (by decide) rfl (fun c42 => ?_) (fun c42 => ?_)
    · skip
      exact J50 H locs ls hP hD hS (lv_sub hl [1, 2, 3, 4, 5] rfl)
    · skip
      refine lv_iload hx hb dX4_refusalAtCell_45 (lv_at hl 5 rfl) ?_
      refine m_if_eq (X := r12.toInt) (tgt := 74) hx hb dX4_refusalAtCell_47 (by decide) rfl (fun c47 => ?_) (fun c47 => ?_)
      · skip
        refine lv_bipush (v := 6) hx hb dX4_refusalAtCell_74 (by decide) ?_
        subst hAe
        rw [hQ]
        exact W.iret (v := 6) hx hb hr (fun t ht hW => ⟨⟨6, _, rfl, rfl, by rw [ht]; exact hP, va_K.moved hW.alike hK, hD⟩, hS.F ht⟩) hS.2.2 dX4_refusalAtCell_76
      · skip
        exact J50 H locs ls hP hD hS (lv_sub hl [1, 2, 3, 4, 5] rfl)
  have J33 : ∀ (H : Heap) (locs : List Loc) (ls : Array Slot), va_P D vwCl (tw cs q v_t_tapeSize v_t_textSize v_t_faultKind a_t_tape a_t_text a_g_beyond v_g_size a_g_steps a_h_beyond v_h_size a_h_steps a_r_scratch a_r_now v_r_takes v_r_negative v_r_namePlace v_r_faultKind v_r_faultPlace v_a_size v_a_limit v_a_digits v_a_kind v_a_from v_a_to v_o_size a_o_out v_b_size v_b_limit v_b_digits v_b_kind v_b_from v_b_to a_u_atom a_u_other a_u_hand v_u_marksMade v_u_came v_u_guesses v_u_right v_u_taken a_u_vars a_u_marks a_u_outcomes a_u_indexes v_s_things v_s_looked v_s_lookedTooOften v_s_arraysMade v_s_cellsMade a_s_classes a_s_starts a_s_lengths a_s_cells a_L a_K a_vc a_vd a_si a_sj a_iv a_inn a_ac) H → va_D A (tw cs q v_t_tapeSize v_t_textSize v_t_faultKind a_t_tape a_t_text a_g_beyond v_g_size a_g_steps a_h_beyond v_h_size a_h_steps a_r_scratch a_r_now v_r_takes v_r_negative v_r_namePlace v_r_faultKind v_r_faultPlace v_a_size v_a_limit v_a_digits v_a_kind v_a_from v_a_to v_o_size a_o_out v_b_size v_b_limit v_b_digits v_b_kind v_b_from v_b_to a_u_atom a_u_other a_u_hand v_u_marksMade v_u_came v_u_guesses v_u_right v_u_taken a_u_vars a_u_marks a_u_outcomes a_u_indexes v_s_things v_s_looked v_s_lookedTooOften v_s_arraysMade v_s_cellsMade a_s_classes a_s_starts a_s_lengths a_s_cells a_L a_K a_vc a_vd a_si a_sj a_iv a_inn a_ac) → va_S A s.heap H locs → lv_has ls 6 [(0, .ref (q 12)), (1, .ref s9), (2, .int i9), (3, .int r7), (4, .int r12)] → W p l e (headSpec (wG yX4_refusalAtCell cX4_refusalAtCell 6 (some .int)) rmX4_refusalAtCell).room s m ([.ref (q 12), .ref s9, .int i9] : List Value).toArray below meth c H locs 0 0 Q (F0 m 33 ls []) := by
    intro H locs ls hP hD hS hl
    refine lv_iconst (v := 1) hx hb dX4_refusalAtCell_33 (by decide) ?_
    refine lv_goto (tgt := 38) hx hb dX4_refusalAtCell_34 (by decide) ?_
    exact J38 (1 : Int32) H locs ls (by first | decide | omega) hP hD hS (lv_sub hl [0, 1, 2, 3, 4] rfl)
  refine m_icmp_eq (X := x18.toInt) (Y := 4) (tgt := 33) hx hb dX4_refusalAtCell_22 (by decide) rfl (by decide) (fun c22 => ?_) (fun c22 => ?_)
  · skip
    exact J33 H locs ls hP hD hS (lv_sub hl [2, 3, 4, 1, 0] rfl)
  · skip
    refine lv_aload_n hx hb dX4_refusalAtCell_25 rfl (lv_at hl 3 rfl) ?_
    obtain ⟨k26_, hk26_⟩ := pl_S (X := (twX cs q v_t_tapeSize v_t_textSize v_t_faultKind a_t_tape a_t_text a_g_beyond v_g_size a_g_steps a_h_beyond v_h_size a_h_steps a_r_scratch a_r_now v_r_takes v_r_negative v_r_namePlace v_r_faultKind v_r_faultPlace v_a_size v_a_limit v_a_digits v_a_kind v_a_from v_a_to v_o_size a_o_out v_b_size v_b_limit v_b_digits v_b_kind v_b_from v_b_to a_u_atom a_u_other a_u_hand v_u_marksMade v_u_came v_u_guesses v_u_right v_u_taken a_u_vars a_u_marks a_u_outcomes a_u_indexes v_s_things v_s_looked v_s_lookedTooOften v_s_arraysMade v_s_cellsMade a_s_classes a_s_starts a_s_lengths a_s_cells)) (cI := cs 0) (vc := a_vc) (vd := a_vd) (si := a_si) (sj := a_sj) (iv := a_iv) (inn := a_inn) (ac := a_ac) h_s9
    refine va_get (D := D) (ci := 5) (v := .int (a_si s9 0)) (C := RX6) (T := TX6) (N := 15) hx hb hts hinX6 hown hK hP k26_ hk26_ rfl 0 (by decide) k_36_4 (fun _ h9 => h9) rfl dX4_refusalAtCell_26 ?_
    refine lv_topi (fun x26 e_x26 => ?_)
    have b_x26 := iB x26
    refine lv_iconst (v := 5) hx hb dX4_refusalAtCell_29 (by decide) ?_
    refine m_icmp_ne (X := x26.toInt) (Y := 5) (tgt := 37) hx hb dX4_refusalAtCell_30 (by decide) rfl (by decide) (fun c30 => ?_) (fun c30 => ?_)
    · skip
      refine lv_iconst (v := 0) hx hb dX4_refusalAtCell_37 (by decide) ?_
      exact J38 (0 : Int32) H locs ls (by first | decide | omega) hP hD hS (lv_sub hl [2, 3, 4, 1, 0] rfl)
    · skip
      exact J33 H locs ls hP hD hS (lv_sub hl [2, 3, 4, 1, 0] rfl)

def rmX4_usePlace : Room := { frames := 80, cells := 0, slots := 0, locals := 1600 }
set_option maxHeartbeats 4000000 in
set_option maxRecDepth 100000 in
theorem tX4_usePlace {l : Launch} {D : va_G} {K : Nat → Nat → Nat} {cs : Nat → ClassId} {q : Nat → Nat} {v_t_tapeSize v_t_textSize v_t_faultKind v_g_size v_h_size v_r_takes v_r_negative v_r_namePlace v_r_faultKind v_r_faultPlace v_a_size v_a_limit v_a_digits v_a_kind v_a_from v_a_to v_o_size v_b_size v_b_limit v_b_digits v_b_kind v_b_from v_b_to v_u_marksMade v_u_came v_u_guesses v_u_right v_u_taken v_s_things v_s_looked v_s_lookedTooOften v_s_arraysMade v_s_cellsMade : Int32} {a_t_tape a_t_text a_o_out a_u_outcomes a_u_indexes a_s_classes a_s_starts a_s_lengths a_vc : Nat → Int32} {a_g_beyond a_h_beyond a_r_scratch a_r_now a_u_atom a_u_other a_u_hand : Nat} {a_g_steps a_h_steps a_u_vars a_u_marks : Nat → Option Nat} {a_s_cells a_vd a_sj : Nat → Int64} {a_L : List Nat} {a_K a_iv a_inn : Nat → Nat} {a_si a_ac : Nat → Nat → Int32} (s9 : Nat) (h_s9 : aS a_L a_K s9) (p_0 : RF a_L a_K a_g_beyond a_h_beyond a_r_scratch a_g_steps a_h_steps a_u_atom a_u_other a_u_hand a_u_vars a_u_marks) (p_1 : STO v_s_things v_s_cellsMade a_s_starts a_s_lengths) (p_2 : PI a_L a_K a_si a_iv a_inn) : CtI l yX4_usePlace (wG yX4_usePlace cX4_usePlace 3 (some .int)) rmX4_usePlace D (twT cs) K [.ref (q 12), .ref s9] (tw cs q v_t_tapeSize v_t_textSize v_t_faultKind a_t_tape a_t_text a_g_beyond v_g_size a_g_steps a_h_beyond v_h_size a_h_steps a_r_scratch a_r_now v_r_takes v_r_negative v_r_namePlace v_r_faultKind v_r_faultPlace v_a_size v_a_limit v_a_digits v_a_kind v_a_from v_a_to v_o_size a_o_out v_b_size v_b_limit v_b_digits v_b_kind v_b_from v_b_to a_u_atom a_u_other a_u_hand v_u_marksMade v_u_came v_u_guesses v_u_right v_u_taken a_u_vars a_u_marks a_u_outcomes a_u_indexes v_s_things v_s_looked v_s_lookedTooOften v_s_arraysMade v_s_cellsMade a_s_classes a_s_starts a_s_lengths a_s_cells a_L a_K a_vc a_vd a_si a_sj a_iv a_inn a_ac) (fun r w1 => ∃ (a_s_cells' : Nat → Int64) (a_vc' : Nat → Int32) (a_vd' : Nat → Int64), w1 = (tw cs q v_t_tapeSize v_t_textSize v_t_faultKind a_t_tape a_t_text a_g_beyond v_g_size a_g_steps a_h_beyond v_h_size a_h_steps a_r_scratch a_r_now v_r_takes v_r_negative v_r_namePlace v_r_faultKind v_r_faultPlace v_a_size v_a_limit v_a_digits v_a_kind v_a_from v_a_to v_o_size a_o_out v_b_size v_b_limit v_b_digits v_b_kind v_b_from v_b_to a_u_atom a_u_other a_u_hand v_u_marksMade v_u_came v_u_guesses v_u_right v_u_taken a_u_vars a_u_marks a_u_outcomes a_u_indexes v_s_things v_s_looked v_s_lookedTooOften v_s_arraysMade v_s_cellsMade a_s_classes a_s_starts a_s_lengths a_s_cells' a_L a_K a_vc' a_vd' a_si a_sj a_iv a_inn a_ac)) 0 0 := by
  intro sz
  refine Met.ofW (cc := cX4_usePlace) (maxL := 3) (ret := (some .int)) (by decide) rfl ?_
  intro p e s m args below meth c s₁ B hml hv
  obtain ⟨rfl, hsz, hP, hK, hD0, hE⟩ := hv
  have hx := B.exec
  have hb := B.bytes
  have hr := B.returns
  have hts := atoms_spec (ws := (wG yX4_usePlace cX4_usePlace 3 (some .int))) B.pre
  have hown : s.vm.findClass RX4 = some m.cls := findClass_of_methodNamed B.named
  have hlocks := B.notSynchronized
  subst hsz
  have hD := hD0.self (sz := s.heap.size)
  obtain ⟨A, hAe⟩ : ∃ A : Nat → Prop, A = va_A (tw cs q v_t_tapeSize v_t_textSize v_t_faultKind a_t_tape a_t_text a_g_beyond v_g_size a_g_steps a_h_beyond v_h_size a_h_steps a_r_scratch a_r_now v_r_takes v_r_negative v_r_namePlace v_r_faultKind v_r_faultPlace v_a_size v_a_limit v_a_digits v_a_kind v_a_from v_a_to v_o_size a_o_out v_b_size v_b_limit v_b_digits v_b_kind v_b_from v_b_to a_u_atom a_u_other a_u_hand v_u_marksMade v_u_came v_u_guesses v_u_right v_u_taken a_u_vars a_u_marks a_u_outcomes a_u_indexes v_s_things v_s_looked v_s_lookedTooOften v_s_arraysMade v_s_cellsMade a_s_classes a_s_starts a_s_lengths a_s_cells a_L a_K a_vc a_vd a_si a_sj a_iv a_inn a_ac) s.heap.size := ⟨_, rfl⟩
  rw [← hAe] at hD hE
  have hA : ∀ q : Nat, s.heap.size ≤ q → A q := fun q h => by rw [hAe]; exact Or.inr h
  have hS : va_S A s.heap s.heap [] := va_S.rf
  have hl := lv_entry ([.ref (q 12), .ref s9]) (n := 3) (Nat.le_of_ble_eq_true rfl)
  rw [lg_entry_eq]
  generalize (lg_sl ([.ref (q 12), .ref s9]) ++ List.replicate (3 - (lg_sl ([.ref (q 12), .ref s9])).length) Slot.unset).toArray = ls at hl ⊢
  have hl : lv_has ls 3 [(0, .ref (q 12)), (1, .ref s9)] := hl
  refine wq (fun Q hQ => ?_)
  have hinX4 : ∀ w ∈ wsX40, w ∈ (wG yX4_usePlace cX4_usePlace 3 (some .int)) := fun w h => List.mem_cons_of_mem _ (inlX4 w h)
  have hinX6 : ∀ w ∈ wsX60, w ∈ (wG yX4_usePlace cX4_usePlace 3 (some .int)) := fun w h => List.mem_cons_of_mem _ (inlX6 w h)
  have hinX8 : ∀ w ∈ wsX80, w ∈ (wG yX4_usePlace cX4_usePlace 3 (some .int)) := fun w h => List.mem_cons_of_mem _ (inlX8 w h)
  have kc0 : (0 : Int32).toInt = 0 := by decide
  have kc1 : (5 : Int32).toInt = 5 := by decide
  have kc2 : (6 : Int32).toInt = 6 := by decide
  have k_36_4 := hts (.fieldLink RX4 149 "ArrayTrainer$Step" "act" "I") (List.mem_cons_of_mem _ (wr36 _ (List.mem_of_getElem? (i := 4) rfl)))
  have k_4_14 := hts (.fieldLink RX4 44 "ArrayTrainer$Runner" "hand" "LArrayTrainer$Value;") (List.mem_cons_of_mem _ (wr4 _ (List.mem_of_getElem? (i := 14) rfl)))
  have k_4_4 := hts (.fieldLink RX4 12 "ArrayTrainer$Runner" "store" "LArrayTrainer$Store;") (List.mem_cons_of_mem _ (wr4 _ (List.mem_of_getElem? (i := 4) rfl)))
  have k_37_14 := hts (.fieldLink RX4 213 "ArrayTrainer$Step" "target" "I") (List.mem_cons_of_mem _ (wr37 _ (List.mem_of_getElem? (i := 14) rfl)))
  have k_37_19 := hts (.fieldLink RX4 202 "ArrayTrainer$Step" "cls" "I") (List.mem_cons_of_mem _ (wr37 _ (List.mem_of_getElem? (i := 19) rfl)))
  have k_36_6 := hts (.fieldLink RX4 155 "ArrayTrainer$Value" "datum" "J") (List.mem_cons_of_mem _ (wr36 _ (List.mem_of_getElem? (i := 6) rfl)))
  have k_4_12 := hts (.fieldLink RX4 37 "ArrayTrainer$Runner" "atom" "LArrayTrainer$Value;") (List.mem_cons_of_mem _ (wr4 _ (List.mem_of_getElem? (i := 12) rfl)))
  have k_36_5 := hts (.fieldLink RX4 152 "ArrayTrainer$Value" "cls" "I") (List.mem_cons_of_mem _ (wr36 _ (List.mem_of_getElem? (i := 5) rfl)))
  obtain ⟨H, hH⟩ : ∃ H : Heap, H = s.heap := ⟨_, rfl⟩
  obtain ⟨locs, hlc⟩ : ∃ L : List Loc, L = [] := ⟨_, rfl⟩
  have hP : va_P D vwCl (tw cs q v_t_tapeSize v_t_textSize v_t_faultKind a_t_tape a_t_text a_g_beyond v_g_size a_g_steps a_h_beyond v_h_size a_h_steps a_r_scratch a_r_now v_r_takes v_r_negative v_r_namePlace v_r_faultKind v_r_faultPlace v_a_size v_a_limit v_a_digits v_a_kind v_a_from v_a_to v_o_size a_o_out v_b_size v_b_limit v_b_digits v_b_kind v_b_from v_b_to a_u_atom a_u_other a_u_hand v_u_marksMade v_u_came v_u_guesses v_u_right v_u_taken a_u_vars a_u_marks a_u_outcomes a_u_indexes v_s_things v_s_looked v_s_lookedTooOften v_s_arraysMade v_s_cellsMade a_s_classes a_s_starts a_s_lengths a_s_cells a_L a_K a_vc a_vd a_si a_sj a_iv a_inn a_ac) H := by rw [hH]; exact hP
  have hS : va_S A s.heap H locs := by rw [hH, hlc]; exact hS
  refine wHL hH hlc ?_
  refine lv_aload_n hx hb dX4_usePlace_0 rfl (lv_at hl 1 rfl) ?_
  obtain ⟨k1_, hk1_⟩ := pl_S (X := (twX cs q v_t_tapeSize v_t_textSize v_t_faultKind a_t_tape a_t_text a_g_beyond v_g_size a_g_steps a_h_beyond v_h_size a_h_steps a_r_scratch a_r_now v_r_takes v_r_negative v_r_namePlace v_r_faultKind v_r_faultPlace v_a_size v_a_limit v_a_digits v_a_kind v_a_from v_a_to v_o_size a_o_out v_b_size v_b_limit v_b_digits v_b_kind v_b_from v_b_to a_u_atom a_u_other a_u_hand v_u_marksMade v_u_came v_u_guesses v_u_right v_u_taken a_u_vars a_u_marks a_u_outcomes a_u_indexes v_s_things v_s_looked v_s_lookedTooOften v_s_arraysMade v_s_cellsMade a_s_classes a_s_starts a_s_lengths a_s_cells)) (cI := cs 0) (vc := a_vc) (vd := a_vd) (si := a_si) (sj := a_sj) (iv := a_iv) (inn := a_inn) (ac := a_ac) h_s9
  refine va_get (D := D) (ci := 5) (v := .int (a_si s9 0)) (C := RX6) (T := TX6) (N := 15) hx hb hts hinX6 hown hK hP k1_ hk1_ rfl 0 (by decide) k_36_4 (fun _ h9 => h9) rfl dX4_usePlace_1 ?_
  refine lv_topi (fun x1 e_x1 => ?_)
  have b_x1 := iB x1
  refine lv_iconst (v := 5) hx hb dX4_usePlace_4 (by decide) ?_
  have J25 : ∀ (H : Heap) (locs : List Loc) (ls : Array Slot), va_P D vwCl (tw cs q v_t_tapeSize v_t_textSize v_t_faultKind a_t_tape a_t_text a_g_beyond v_g_size a_g_steps a_h_beyond v_h_size a_h_steps a_r_scratch a_r_now v_r_takes v_r_negative v_r_namePlace v_r_faultKind v_r_faultPlace v_a_size v_a_limit v_a_digits v_a_kind v_a_from v_a_to v_o_size a_o_out v_b_size v_b_limit v_b_digits v_b_kind v_b_from v_b_to a_u_atom a_u_other a_u_hand v_u_marksMade v_u_came v_u_guesses v_u_right v_u_taken a_u_vars a_u_marks a_u_outcomes a_u_indexes v_s_things v_s_looked v_s_lookedTooOften v_s_arraysMade v_s_cellsMade a_s_classes a_s_starts a_s_lengths a_s_cells a_L a_K a_vc a_vd a_si a_sj a_iv a_inn a_ac) H → va_D A (tw cs q v_t_tapeSize v_t_textSize v_t_faultKind a_t_tape a_t_text a_g_beyond v_g_size a_g_steps a_h_beyond v_h_size a_h_steps a_r_scratch a_r_now v_r_takes v_r_negative v_r_namePlace v_r_faultKind v_r_faultPlace v_a_size v_a_limit v_a_digits v_a_kind v_a_from v_a_to v_o_size a_o_out v_b_size v_b_limit v_b_digits v_b_kind v_b_from v_b_to a_u_atom a_u_other a_u_hand v_u_marksMade v_u_came v_u_guesses v_u_right v_u_taken a_u_vars a_u_marks a_u_outcomes a_u_indexes v_s_things v_s_looked v_s_lookedTooOften v_s_arraysMade v_s_cellsMade a_s_classes a_s_starts a_s_lengths a_s_cells a_L a_K a_vc a_vd a_si a_sj a_iv a_inn a_ac) → va_S A s.heap H locs → lv_has ls 3 [(0, .ref (q 12)), (1, .ref s9)] → W p l e (headSpec (wG yX4_usePlace cX4_usePlace 3 (some .int)) rmX4_usePlace).room s m ([.ref (q 12), .ref s9] : List Value).toArray below meth c H locs 0 0 Q (F0 m 25 ls []) := by
    intro H locs ls hP hD hS hl
    refine lv_aload_n hx hb dX4_usePlace_25 rfl (lv_at hl 0 rfl) ?_
    refine lv_aload_n hx hb dX4_usePlace_26 rfl (lv_at hl 1 rfl) ?_
    refine call_i (As := [.ref s9]) (rest := []) ⟨hx, hb, hml, hown, hts⟩ (tX4_reach (l := l) s9 h_s9 (by first | assumption | omega | (intros; omega) | decide) (by first | assumption | omega | (intros; omega) | decide) (by first | assumption | omega | (intros; omega) | decide)) (cwV 1 hts (gV (wr37 _ (List.mem_of_getElem? (i := 20) rfl)) (wr37 _ (List.mem_of_getElem? (i := 21) rfl)) (wr37 _ (List.mem_of_getElem? (i := 22) rfl)) (wr2 _ (List.mem_of_getElem? (i := 10) rfl)) (wr37 _ (List.mem_of_getElem? (i := 23) rfl))) rfl rfl rfl (by decide +kernel) ⟨Nat.le_of_ble_eq_true rfl, Nat.le_of_ble_eq_true rfl⟩) (va_recv hK hP (ci := 3) (q0 := 12) rfl rfl) hK hP hD hE hS hA rfl hl.1 rfl (Nat.le_of_ble_eq_true rfl) dX4_usePlace_27 ⟨Nat.le_of_ble_eq_true rfl, Nat.le_of_ble_eq_true rfl⟩ (fun r27 w9 H locs hw27 hP hD hS => ?_)
    obtain ⟨a_vc_27, a_vd_27, rfl⟩ := hw27
    have b_r27 := iB r27
    refine lv_istore_n (lv' := [(2, .int r27), (0, .ref (q 12)), (1, .ref s9)]) hx hb dX4_usePlace_30 rfl hl (by decide) rfl (fun ls hl => ?_)
    refine lv_iload_n hx hb dX4_usePlace_31 rfl (lv_at hl 0 rfl) ?_
    refine m_if_eq (X := r27.toInt) (tgt := 37) hx hb dX4_usePlace_32 (by decide) rfl (fun c32 => ?_) (fun c32 => ?_)
    · skip
      refine lv_aload_n hx hb dX4_usePlace_37 rfl (lv_at hl 1 rfl) ?_
      refine lv_aload_n hx hb dX4_usePlace_38 rfl (lv_at hl 2 rfl) ?_
      refine lv_aload_n hx hb dX4_usePlace_39 rfl (lv_at hl 1 rfl) ?_
      refine lv_aload_n hx hb dX4_usePlace_40 rfl (lv_at hl 2 rfl) ?_
      refine call_i (As := [.ref s9]) (rest := [.ref s9, .ref (q 12)]) ⟨hx, hb, hml, hown, hts⟩ (tX4_lastIndex (l := l) s9 h_s9 (by first | assumption | omega | (intros; omega) | decide) (by first | assumption | omega | (intros; omega) | decide) (by first | assumption | omega | (intros; omega) | decide)) (cwV 1 hts (gV (wr39 _ (List.mem_of_getElem? (i := 5) rfl)) (wr39 _ (List.mem_of_getElem? (i := 6) rfl)) (wr39 _ (List.mem_of_getElem? (i := 7) rfl)) (wr2 _ (List.mem_of_getElem? (i := 10) rfl)) (wr39 _ (List.mem_of_getElem? (i := 8) rfl))) rfl rfl rfl (by decide +kernel) ⟨Nat.le_of_ble_eq_true rfl, Nat.le_of_ble_eq_true rfl⟩) (va_recv hK hP (ci := 3) (q0 := 12) rfl rfl) hK hP hD hE hS hA rfl hl.1 rfl (Nat.le_of_ble_eq_true rfl) dX4_usePlace_41 ⟨Nat.le_of_ble_eq_true rfl, Nat.le_of_ble_eq_true rfl⟩ (fun r41 w9 H locs hw41 hP hD hS => ?_)
      obtain ⟨rfl⟩ := hw41
      have b_r41 := iB r41
      refine call_i (As := [.ref s9, .int r41]) (rest := []) ⟨hx, hb, hml, hown, hts⟩ (tX4_refusalAtCell (l := l) s9 h_s9 r41 (by first | assumption | omega | (intros; omega) | decide) (by first | assumption | omega | (intros; omega) | decide) (by first | assumption | omega | (intros; omega) | decide)) (cwV 2 hts (gV (wr39 _ (List.mem_of_getElem? (i := 9) rfl)) (wr39 _ (List.mem_of_getElem? (i := 10) rfl)) (wr39 _ (List.mem_of_getElem? (i := 11) rfl)) (wr2 _ (List.mem_of_getElem? (i := 10) rfl)) (wr39 _ (List.mem_of_getElem? (i := 12) rfl))) rfl rfl rfl (by decide +kernel) ⟨Nat.le_of_ble_eq_true rfl, Nat.le_of_ble_eq_true rfl⟩) (va_recv hK hP (ci := 3) (q0 := 12) rfl rfl) hK hP hD hE hS hA rfl hl.1 rfl (Nat.le_of_ble_eq_true rfl) dX4_usePlace_44 ⟨Nat.le_of_ble_eq_true rfl, Nat.le_of_ble_eq_true rfl⟩ (fun r44 w9 H locs hw44 hP hD hS => ?_)
      obtain ⟨rfl⟩ := hw44
      have b_r44 := iB r44
      refine lv_istore_n (lv' := [(2, .int r44), (0, .ref (q 12)), (1, .ref s9)]) hx hb dX4_usePlace_47 rfl hl (by decide) rfl (fun ls hl => ?_)
      refine lv_iload_n hx hb dX4_usePlace_48 rfl (lv_at hl 0 rfl) ?_
      refine m_if_eq (X := r44.toInt) (tgt := 54) hx hb dX4_usePlace_49 (by decide) rfl (fun c49 => ?_) (fun c49 => ?_)
      · skip
        refine lv_aload_n hx hb dX4_usePlace_54 rfl (lv_at hl 2 rfl) ?_
        obtain ⟨k55_, hk55_⟩ := pl_S (X := (twX cs q v_t_tapeSize v_t_textSize v_t_faultKind a_t_tape a_t_text a_g_beyond v_g_size a_g_steps a_h_beyond v_h_size a_h_steps a_r_scratch a_r_now v_r_takes v_r_negative v_r_namePlace v_r_faultKind v_r_faultPlace v_a_size v_a_limit v_a_digits v_a_kind v_a_from v_a_to v_o_size a_o_out v_b_size v_b_limit v_b_digits v_b_kind v_b_from v_b_to a_u_atom a_u_other a_u_hand v_u_marksMade v_u_came v_u_guesses v_u_right v_u_taken a_u_vars a_u_marks a_u_outcomes a_u_indexes v_s_things v_s_looked v_s_lookedTooOften v_s_arraysMade v_s_cellsMade a_s_classes a_s_starts a_s_lengths a_s_cells)) (cI := cs 0) (vc := a_vc_27) (vd := a_vd_27) (si := a_si) (sj := a_sj) (iv := a_iv) (inn := a_inn) (ac := a_ac) h_s9
        refine va_get (D := D) (ci := 5) (v := .int (a_si s9 0)) (C := RX6) (T := TX6) (N := 15) hx hb hts hinX6 hown hK hP k55_ hk55_ rfl 0 (by decide) k_36_4 (fun _ h9 => h9) rfl dX4_usePlace_55 ?_
        refine lv_topi (fun x55 e_x55 => ?_)
        have b_x55 := iB x55
        have J168 : ∀ (H : Heap) (locs : List Loc) (ls : Array Slot), va_P D vwCl (tw cs q v_t_tapeSize v_t_textSize v_t_faultKind a_t_tape a_t_text a_g_beyond v_g_size a_g_steps a_h_beyond v_h_size a_h_steps a_r_scratch a_r_now v_r_takes v_r_negative v_r_namePlace v_r_faultKind v_r_faultPlace v_a_size v_a_limit v_a_digits v_a_kind v_a_from v_a_to v_o_size a_o_out v_b_size v_b_limit v_b_digits v_b_kind v_b_from v_b_to a_u_atom a_u_other a_u_hand v_u_marksMade v_u_came v_u_guesses v_u_right v_u_taken a_u_vars a_u_marks a_u_outcomes a_u_indexes v_s_things v_s_looked v_s_lookedTooOften v_s_arraysMade v_s_cellsMade a_s_classes a_s_starts a_s_lengths a_s_cells a_L a_K a_vc_27 a_vd_27 a_si a_sj a_iv a_inn a_ac) H → va_D A (tw cs q v_t_tapeSize v_t_textSize v_t_faultKind a_t_tape a_t_text a_g_beyond v_g_size a_g_steps a_h_beyond v_h_size a_h_steps a_r_scratch a_r_now v_r_takes v_r_negative v_r_namePlace v_r_faultKind v_r_faultPlace v_a_size v_a_limit v_a_digits v_a_kind v_a_from v_a_to v_o_size a_o_out v_b_size v_b_limit v_b_digits v_b_kind v_b_from v_b_to a_u_atom a_u_other a_u_hand v_u_marksMade v_u_came v_u_guesses v_u_right v_u_taken a_u_vars a_u_marks a_u_outcomes a_u_indexes v_s_things v_s_looked v_s_lookedTooOften v_s_arraysMade v_s_cellsMade a_s_classes a_s_starts a_s_lengths a_s_cells a_L a_K a_vc_27 a_vd_27 a_si a_sj a_iv a_inn a_ac) → va_S A s.heap H locs → lv_has ls 3 [(0, .ref (q 12)), (1, .ref s9)] → W p l e (headSpec (wG yX4_usePlace cX4_usePlace 3 (some .int)) rmX4_usePlace).room s m ([.ref (q 12), .ref s9] : List Value).toArray below meth c H locs 0 0 Q (F0 m 168 ls []) := by
          intro H locs ls hP hD hS hl
          refine lv_aload_n hx hb dX4_usePlace_168 rfl (lv_at hl 0 rfl) ?_
          refine lv_aload_n hx hb dX4_usePlace_169 rfl (lv_at hl 0 rfl) ?_
          have hf170 : aV a_L a_K a_u_hand := by first | assumption | exact RF.z_uH (by assumption)
          refine va_get (D := D) (ci := 3) (v := .ref a_u_hand) (C := RX4) (T := TX4) (N := 13) hx hb hts hinX4 hown hK hP 12 rfl rfl 7 (by decide) k_4_14 (fun _ h9 => h9) rfl dX4_usePlace_170 ?_
          refine lv_aload_n hx hb dX4_usePlace_173 rfl (lv_at hl 0 rfl) ?_
          refine lv_aload_n hx hb dX4_usePlace_174 rfl (lv_at hl 1 rfl) ?_
          refine call_i (As := [.ref s9]) (rest := [.ref a_u_hand, .ref (q 12)]) ⟨hx, hb, hml, hown, hts⟩ (tX4_lastIndex (l := l) s9 h_s9 (by first | assumption | omega | (intros; omega) | decide) (by first | assumption | omega | (intros; omega) | decide) (by first | assumption | omega | (intros; omega) | decide)) (cwV 1 hts (gV (wr39 _ (List.mem_of_getElem? (i := 5) rfl)) (wr39 _ (List.mem_of_getElem? (i := 6) rfl)) (wr39 _ (List.mem_of_getElem? (i := 7) rfl)) (wr2 _ (List.mem_of_getElem? (i := 10) rfl)) (wr39 _ (List.mem_of_getElem? (i := 8) rfl))) rfl rfl rfl (by decide +kernel) ⟨Nat.le_of_ble_eq_true rfl, Nat.le_of_ble_eq_true rfl⟩) (va_recv hK hP (ci := 3) (q0 := 12) rfl rfl) hK hP hD hE hS hA rfl hl.1 rfl (Nat.le_of_ble_eq_true rfl) dX4_usePlace_175 ⟨Nat.le_of_ble_eq_true rfl, Nat.le_of_ble_eq_true rfl⟩ (fun r175 w9 H locs hw175 hP hD hS => ?_)
          obtain ⟨rfl⟩ := hw175
          have b_r175 := iB r175
          refine call_v (As := [.ref a_u_hand, .int r175]) (rest := []) ⟨hx, hb, hml, hown, hts⟩ (tX4_writeAtom (l := l) a_u_hand hf170 r175 (by first | assumption | omega | (intros; omega) | decide) (by first | assumption | omega | (intros; omega) | decide)) (cwV 2 hts (gV (wr40 _ (List.mem_of_getElem? (i := 18) rfl)) (wr40 _ (List.mem_of_getElem? (i := 19) rfl)) (wr40 _ (List.mem_of_getElem? (i := 20) rfl)) (wr2 _ (List.mem_of_getElem? (i := 10) rfl)) (wr40 _ (List.mem_of_getElem? (i := 21) rfl))) rfl rfl rfl (by decide +kernel) ⟨Nat.le_of_ble_eq_true rfl, Nat.le_of_ble_eq_true rfl⟩) (va_recv hK hP (ci := 3) (q0 := 12) rfl rfl) hK hP hD hE hS hA rfl hl.1 rfl (Nat.le_of_ble_eq_true rfl) dX4_usePlace_178 ⟨Nat.le_of_ble_eq_true rfl, Nat.le_of_ble_eq_true rfl⟩ (fun w9 H locs hw178 hP hD hS => ?_)
          obtain ⟨a_s_cells_178, rfl⟩ := hw178
          refine lv_iconst (v := 0) hx hb dX4_usePlace_181 (by decide) ?_
          subst hAe
          rw [hQ]
          exact W.iret (v := 0) hx hb hr (fun t ht hW => ⟨⟨0, _, rfl, ⟨a_s_cells_178, a_vc_27, a_vd_27, rfl⟩, by rw [ht]; exact hP, va_K.moved hW.alike hK, hD⟩, hS.F ht⟩) hS.2.2 dX4_usePlace_182
        have J92 : ∀ (H : Heap) (locs : List Loc) (ls : Array Slot), va_P D vwCl (tw cs q v_t_tapeSize v_t_textSize v_t_faultKind a_t_tape a_t_text a_g_beyond v_g_size a_g_steps a_h_beyond v_h_size a_h_steps a_r_scratch a_r_now v_r_takes v_r_negative v_r_namePlace v_r_faultKind v_r_faultPlace v_a_size v_a_limit v_a_digits v_a_kind v_a_from v_a_to v_o_size a_o_out v_b_size v_b_limit v_b_digits v_b_kind v_b_from v_b_to a_u_atom a_u_other a_u_hand v_u_marksMade v_u_came v_u_guesses v_u_right v_u_taken a_u_vars a_u_marks a_u_outcomes a_u_indexes v_s_things v_s_looked v_s_lookedTooOften v_s_arraysMade v_s_cellsMade a_s_classes a_s_starts a_s_lengths a_s_cells a_L a_K a_vc_27 a_vd_27 a_si a_sj a_iv a_inn a_ac) H → va_D A (tw cs q v_t_tapeSize v_t_textSize v_t_faultKind a_t_tape a_t_text a_g_beyond v_g_size a_g_steps a_h_beyond v_h_size a_h_steps a_r_scratch a_r_now v_r_takes v_r_negative v_r_namePlace v_r_faultKind v_r_faultPlace v_a_size v_a_limit v_a_digits v_a_kind v_a_from v_a_to v_o_size a_o_out v_b_size v_b_limit v_b_digits v_b_kind v_b_from v_b_to a_u_atom a_u_other a_u_hand v_u_marksMade v_u_came v_u_guesses v_u_right v_u_taken a_u_vars a_u_marks a_u_outcomes a_u_indexes v_s_things v_s_looked v_s_lookedTooOften v_s_arraysMade v_s_cellsMade a_s_classes a_s_starts a_s_lengths a_s_cells a_L a_K a_vc_27 a_vd_27 a_si a_sj a_iv a_inn a_ac) → va_S A s.heap H locs → lv_has ls 3 [(0, .ref (q 12)), (1, .ref s9)] → W p l e (headSpec (wG yX4_usePlace cX4_usePlace 3 (some .int)) rmX4_usePlace).room s m ([.ref (q 12), .ref s9] : List Value).toArray below meth c H locs 0 0 Q (F0 m 92 ls []) := by
          intro H locs ls hP hD hS hl
          refine lv_aload_n hx hb dX4_usePlace_92 rfl (lv_at hl 0 rfl) ?_
          refine va_get (D := D) (ci := 3) (v := .ref (q 17)) (C := RX4) (T := TX4) (N := 13) hx hb hts hinX4 hown hK hP 12 rfl rfl 0 (by decide) k_4_4 (fun _ h9 => h9) rfl dX4_usePlace_93 ?_
          refine lv_aload_n hx hb dX4_usePlace_96 rfl (lv_at hl 0 rfl) ?_
          have hf97 : aV a_L a_K a_u_hand := by first | assumption | exact RF.z_uH (by assumption)
          refine va_get (D := D) (ci := 3) (v := .ref a_u_hand) (C := RX4) (T := TX4) (N := 13) hx hb hts hinX4 hown hK hP 12 rfl rfl 7 (by decide) k_4_14 (fun _ h9 => h9) rfl dX4_usePlace_97 ?_
          obtain ⟨k100_, hk100_⟩ := pl_V (X := (twX cs q v_t_tapeSize v_t_textSize v_t_faultKind a_t_tape a_t_text a_g_beyond v_g_size a_g_steps a_h_beyond v_h_size a_h_steps a_r_scratch a_r_now v_r_takes v_r_negative v_r_namePlace v_r_faultKind v_r_faultPlace v_a_size v_a_limit v_a_digits v_a_kind v_a_from v_a_to v_o_size a_o_out v_b_size v_b_limit v_b_digits v_b_kind v_b_from v_b_to a_u_atom a_u_other a_u_hand v_u_marksMade v_u_came v_u_guesses v_u_right v_u_taken a_u_vars a_u_marks a_u_outcomes a_u_indexes v_s_things v_s_looked v_s_lookedTooOften v_s_arraysMade v_s_cellsMade a_s_classes a_s_starts a_s_lengths a_s_cells)) (cI := cs 0) (vc := a_vc_27) (vd := a_vd_27) (si := a_si) (sj := a_sj) (iv := a_iv) (inn := a_inn) (ac := a_ac) hf97
          refine call_i (As := []) (rest := [.ref (q 17)]) ⟨hx, hb, hml, hown, hts⟩ (tX8_array (l := l) a_u_hand hf97 ) (cwV 0 hts (gV (wr39 _ (List.mem_of_getElem? (i := 22) rfl)) (wr38 _ (List.mem_of_getElem? (i := 13) rfl)) (wr38 _ (List.mem_of_getElem? (i := 14) rfl)) (wr4 _ (List.mem_of_getElem? (i := 11) rfl)) (wr38 _ (List.mem_of_getElem? (i := 15) rfl))) rfl rfl rfl (by decide +kernel) ⟨Nat.le_of_ble_eq_true rfl, Nat.le_of_ble_eq_true rfl⟩) (va_recv hK hP (ci := 7) (q0 := k100_) rfl hk100_) hK hP hD hE hS hA rfl hl.1 rfl (Nat.le_of_ble_eq_true rfl) dX4_usePlace_100 ⟨Nat.le_of_ble_eq_true rfl, Nat.le_of_ble_eq_true rfl⟩ (fun r100 w9 H locs hw100 hP hD hS => ?_)
          obtain ⟨rfl⟩ := hw100
          have b_r100 := iB r100
          refine lv_aload_n hx hb dX4_usePlace_103 rfl (lv_at hl 0 rfl) ?_
          refine lv_aload_n hx hb dX4_usePlace_104 rfl (lv_at hl 1 rfl) ?_
          refine call_i (As := [.ref s9]) (rest := [.int r100, .ref (q 17)]) ⟨hx, hb, hml, hown, hts⟩ (tX4_lastIndex (l := l) s9 h_s9 (by first | assumption | omega | (intros; omega) | decide) (by first | assumption | omega | (intros; omega) | decide) (by first | assumption | omega | (intros; omega) | decide)) (cwV 1 hts (gV (wr39 _ (List.mem_of_getElem? (i := 5) rfl)) (wr39 _ (List.mem_of_getElem? (i := 6) rfl)) (wr39 _ (List.mem_of_getElem? (i := 7) rfl)) (wr2 _ (List.mem_of_getElem? (i := 10) rfl)) (wr39 _ (List.mem_of_getElem? (i := 8) rfl))) rfl rfl rfl (by decide +kernel) ⟨Nat.le_of_ble_eq_true rfl, Nat.le_of_ble_eq_true rfl⟩) (va_recv hK hP (ci := 3) (q0 := 12) rfl rfl) hK hP hD hE hS hA rfl hl.1 rfl (Nat.le_of_ble_eq_true rfl) dX4_usePlace_105 ⟨Nat.le_of_ble_eq_true rfl, Nat.le_of_ble_eq_true rfl⟩ (fun r105 w9 H locs hw105 hP hD hS => ?_)
          obtain ⟨rfl⟩ := hw105
          have b_r105 := iB r105
          refine lv_aload_n hx hb dX4_usePlace_108 rfl (lv_at hl 0 rfl) ?_
          refine lv_aload_n hx hb dX4_usePlace_109 rfl (lv_at hl 1 rfl) ?_
          obtain ⟨k110_, hk110_⟩ := pl_S (X := (twX cs q v_t_tapeSize v_t_textSize v_t_faultKind a_t_tape a_t_text a_g_beyond v_g_size a_g_steps a_h_beyond v_h_size a_h_steps a_r_scratch a_r_now v_r_takes v_r_negative v_r_namePlace v_r_faultKind v_r_faultPlace v_a_size v_a_limit v_a_digits v_a_kind v_a_from v_a_to v_o_size a_o_out v_b_size v_b_limit v_b_digits v_b_kind v_b_from v_b_to a_u_atom a_u_other a_u_hand v_u_marksMade v_u_came v_u_guesses v_u_right v_u_taken a_u_vars a_u_marks a_u_outcomes a_u_indexes v_s_things v_s_looked v_s_lookedTooOften v_s_arraysMade v_s_cellsMade a_s_classes a_s_starts a_s_lengths a_s_cells)) (cI := cs 0) (vc := a_vc_27) (vd := a_vd_27) (si := a_si) (sj := a_sj) (iv := a_iv) (inn := a_inn) (ac := a_ac) h_s9
          refine va_get (D := D) (ci := 5) (v := .int (a_si s9 4)) (C := RX6) (T := TX6) (N := 15) hx hb hts hinX6 hown hK hP k110_ hk110_ rfl 4 (by decide) k_37_14 (fun _ h9 => h9) rfl dX4_usePlace_110 ?_
          refine lv_topi (fun x110 e_x110 => ?_)
          have b_x110 := iB x110
          refine call_r (As := [.int x110]) (rest := [.int r105, .int r100, .ref (q 17)]) ⟨hx, hb, hml, hown, hts⟩ (tX4_variable (l := l) x110 (by first | assumption | omega | (intros; omega) | decide)) (cwV 1 hts (gV (wr21 _ (List.mem_of_getElem? (i := 22) rfl)) (wr21 _ (List.mem_of_getElem? (i := 23) rfl)) (wr22 _ (List.mem_of_getElem? (i := 0) rfl)) (wr2 _ (List.mem_of_getElem? (i := 10) rfl)) (wr22 _ (List.mem_of_getElem? (i := 1) rfl))) rfl rfl rfl (by decide +kernel) ⟨Nat.le_of_ble_eq_true rfl, Nat.le_of_ble_eq_true rfl⟩) (va_recv hK hP (ci := 3) (q0 := 12) rfl rfl) hK hP hD hE hS hA rfl hl.1 rfl (Nat.le_of_ble_eq_true rfl) dX4_usePlace_113 ⟨Nat.le_of_ble_eq_true rfl, Nat.le_of_ble_eq_true rfl⟩ (fun r113 w9 H locs hw113 hP hD hS => ?_)
          obtain ⟨rfl, hw113_0⟩ := hw113
          refine call_v (As := [.int r100, .int r105, .ref r113]) (rest := []) ⟨hx, hb, hml, hown, hts⟩ (tX7_read (l := l) r100 r105 r113 hw113_0 (by first | assumption | omega | (intros; omega) | decide)) (cwV 3 hts (gV (wr40 _ (List.mem_of_getElem? (i := 13) rfl)) (wr40 _ (List.mem_of_getElem? (i := 14) rfl)) (wr40 _ (List.mem_of_getElem? (i := 15) rfl)) (wr4 _ (List.mem_of_getElem? (i := 3) rfl)) (wr40 _ (List.mem_of_getElem? (i := 16) rfl))) rfl rfl rfl (by decide +kernel) ⟨Nat.le_of_ble_eq_true rfl, Nat.le_of_ble_eq_true rfl⟩) (va_recv hK hP (ci := 6) (q0 := 17) rfl rfl) hK hP hD hE hS hA rfl hl.1 rfl (Nat.le_of_ble_eq_true rfl) dX4_usePlace_116 ⟨Nat.le_of_ble_eq_true rfl, Nat.le_of_ble_eq_true rfl⟩ (fun w9 H locs hw116 hP hD hS => ?_)
          obtain ⟨a_vc_116, a_vd_116, rfl⟩ := hw116
          refine lv_iconst (v := 0) hx hb dX4_usePlace_119 (by decide) ?_
          subst hAe
          rw [hQ]
          exact W.iret (v := 0) hx hb hr (fun t ht hW => ⟨⟨0, _, rfl, ⟨a_s_cells, a_vc_116, a_vd_116, rfl⟩, by rw [ht]; exact hP, va_K.moved hW.alike hK, hD⟩, hS.F ht⟩) hS.2.2 dX4_usePlace_120
        rcases (show (x55.toInt < 2 ∨ 6 < x55.toInt) ∨ x55.toInt = 2 ∨ x55.toInt = 3 ∨ x55.toInt = 4 ∨ x55.toInt = 5 ∨ x55.toInt = 6 by omega) with c58 | c58 | c58 | c58 | c58 | c58
        · skip
          refine lv_tableOut (tgt := 168) hx hb dX4_usePlace_58 c58 (by decide) ?_
          exact J168 H locs ls hP hD hS (lv_sub hl [1, 2] rfl)
        · skip
          refine lv_tableIn (tgt := 92) (off := 34) hx hb dX4_usePlace_58 (by omega) (by omega) (by rw [c58]; rfl) (by decide) ?_
          exact J92 H locs ls hP hD hS (lv_sub hl [1, 2] rfl)
        · skip
          refine lv_tableIn (tgt := 168) (off := 110) hx hb dX4_usePlace_58 (by omega) (by omega) (by rw [c58]; rfl) (by decide) ?_
          exact J168 H locs ls hP hD hS (lv_sub hl [1, 2] rfl)
        · skip
          refine lv_tableIn (tgt := 121) (off := 63) hx hb dX4_usePlace_58 (by omega) (by omega) (by rw [c58]; rfl) (by decide) ?_
          refine lv_aload_n hx hb dX4_usePlace_121 rfl (lv_at hl 1 rfl) ?_
          refine va_get (D := D) (ci := 3) (v := .ref (q 17)) (C := RX4) (T := TX4) (N := 13) hx hb hts hinX4 hown hK hP 12 rfl rfl 0 (by decide) k_4_4 (fun _ h9 => h9) rfl dX4_usePlace_122 ?_
          refine lv_aload_n hx hb dX4_usePlace_125 rfl (lv_at hl 1 rfl) ?_
          have hf126 : aV a_L a_K a_u_hand := by first | assumption | exact RF.z_uH (by assumption)
          refine va_get (D := D) (ci := 3) (v := .ref a_u_hand) (C := RX4) (T := TX4) (N := 13) hx hb hts hinX4 hown hK hP 12 rfl rfl 7 (by decide) k_4_14 (fun _ h9 => h9) rfl dX4_usePlace_126 ?_
          obtain ⟨k129_, hk129_⟩ := pl_V (X := (twX cs q v_t_tapeSize v_t_textSize v_t_faultKind a_t_tape a_t_text a_g_beyond v_g_size a_g_steps a_h_beyond v_h_size a_h_steps a_r_scratch a_r_now v_r_takes v_r_negative v_r_namePlace v_r_faultKind v_r_faultPlace v_a_size v_a_limit v_a_digits v_a_kind v_a_from v_a_to v_o_size a_o_out v_b_size v_b_limit v_b_digits v_b_kind v_b_from v_b_to a_u_atom a_u_other a_u_hand v_u_marksMade v_u_came v_u_guesses v_u_right v_u_taken a_u_vars a_u_marks a_u_outcomes a_u_indexes v_s_things v_s_looked v_s_lookedTooOften v_s_arraysMade v_s_cellsMade a_s_classes a_s_starts a_s_lengths a_s_cells)) (cI := cs 0) (vc := a_vc_27) (vd := a_vd_27) (si := a_si) (sj := a_sj) (iv := a_iv) (inn := a_inn) (ac := a_ac) hf126
          refine call_i (As := []) (rest := [.ref (q 17)]) ⟨hx, hb, hml, hown, hts⟩ (tX8_array (l := l) a_u_hand hf126 ) (cwV 0 hts (gV (wr39 _ (List.mem_of_getElem? (i := 22) rfl)) (wr38 _ (List.mem_of_getElem? (i := 13) rfl)) (wr38 _ (List.mem_of_getElem? (i := 14) rfl)) (wr4 _ (List.mem_of_getElem? (i := 11) rfl)) (wr38 _ (List.mem_of_getElem? (i := 15) rfl))) rfl rfl rfl (by decide +kernel) ⟨Nat.le_of_ble_eq_true rfl, Nat.le_of_ble_eq_true rfl⟩) (va_recv hK hP (ci := 7) (q0 := k129_) rfl hk129_) hK hP hD hE hS hA rfl hl.1 rfl (Nat.le_of_ble_eq_true rfl) dX4_usePlace_129 ⟨Nat.le_of_ble_eq_true rfl, Nat.le_of_ble_eq_true rfl⟩ (fun r129 w9 H locs hw129 hP hD hS => ?_)
          obtain ⟨rfl⟩ := hw129
          have b_r129 := iB r129
          refine lv_aload_n hx hb dX4_usePlace_132 rfl (lv_at hl 1 rfl) ?_
          refine lv_aload_n hx hb dX4_usePlace_133 rfl (lv_at hl 2 rfl) ?_
          refine call_i (As := [.ref s9]) (rest := [.int r129, .ref (q 17)]) ⟨hx, hb, hml, hown, hts⟩ (tX4_lastIndex (l := l) s9 h_s9 (by first | assumption | omega | (intros; omega) | decide) (by first | assumption | omega | (intros; omega) | decide) (by first | assumption | omega | (intros; omega) | decide)) (cwV 1 hts (gV (wr39 _ (List.mem_of_getElem? (i := 5) rfl)) (wr39 _ (List.mem_of_getElem? (i := 6) rfl)) (wr39 _ (List.mem_of_getElem? (i := 7) rfl)) (wr2 _ (List.mem_of_getElem? (i := 10) rfl)) (wr39 _ (List.mem_of_getElem? (i := 8) rfl))) rfl rfl rfl (by decide +kernel) ⟨Nat.le_of_ble_eq_true rfl, Nat.le_of_ble_eq_true rfl⟩) (va_recv hK hP (ci := 3) (q0 := 12) rfl rfl) hK hP hD hE hS hA rfl hl.1 rfl (Nat.le_of_ble_eq_true rfl) dX4_usePlace_134 ⟨Nat.le_of_ble_eq_true rfl, Nat.le_of_ble_eq_true rfl⟩ (fun r134 w9 H locs hw134 hP hD hS => ?_)
          obtain ⟨rfl⟩ := hw134
          have b_r134 := iB r134
          refine lv_aload_n hx hb dX4_usePlace_137 rfl (lv_at hl 1 rfl) ?_
          have hf138 : aV a_L a_K a_u_hand := by first | assumption | exact RF.z_uH (by assumption)
          refine va_get (D := D) (ci := 3) (v := .ref a_u_hand) (C := RX4) (T := TX4) (N := 13) hx hb hts hinX4 hown hK hP 12 rfl rfl 7 (by decide) k_4_14 (fun _ h9 => h9) rfl dX4_usePlace_138 ?_
          refine call_v (As := [.int r129, .int r134, .ref a_u_hand]) (rest := []) ⟨hx, hb, hml, hown, hts⟩ (tX7_read (l := l) r129 r134 a_u_hand hf138 (by first | assumption | omega | (intros; omega) | decide)) (cwV 3 hts (gV (wr40 _ (List.mem_of_getElem? (i := 13) rfl)) (wr40 _ (List.mem_of_getElem? (i := 14) rfl)) (wr40 _ (List.mem_of_getElem? (i := 15) rfl)) (wr4 _ (List.mem_of_getElem? (i := 3) rfl)) (wr40 _ (List.mem_of_getElem? (i := 16) rfl))) rfl rfl rfl (by decide +kernel) ⟨Nat.le_of_ble_eq_true rfl, Nat.le_of_ble_eq_true rfl⟩) (va_recv hK hP (ci := 6) (q0 := 17) rfl rfl) hK hP hD hE hS hA rfl hl.1 rfl (Nat.le_of_ble_eq_true rfl) dX4_usePlace_141 ⟨Nat.le_of_ble_eq_true rfl, Nat.le_of_ble_eq_true rfl⟩ (fun w9 H locs hw141 hP hD hS => ?_)
          obtain ⟨a_vc_141, a_vd_141, rfl⟩ := hw141
          refine lv_aload_n hx hb dX4_usePlace_144 rfl (lv_at hl 1 rfl) ?_
          refine lv_aload_n hx hb dX4_usePlace_145 rfl (lv_at hl 2 rfl) ?_
          refine lv_aload_n hx hb dX4_usePlace_146 rfl (lv_at hl 2 rfl) ?_
          obtain ⟨k147_, hk147_⟩ := pl_S (X := (twX cs q v_t_tapeSize v_t_textSize v_t_faultKind a_t_tape a_t_text a_g_beyond v_g_size a_g_steps a_h_beyond v_h_size a_h_steps a_r_scratch a_r_now v_r_takes v_r_negative v_r_namePlace v_r_faultKind v_r_faultPlace v_a_size v_a_limit v_a_digits v_a_kind v_a_from v_a_to v_o_size a_o_out v_b_size v_b_limit v_b_digits v_b_kind v_b_from v_b_to a_u_atom a_u_other a_u_hand v_u_marksMade v_u_came v_u_guesses v_u_right v_u_taken a_u_vars a_u_marks a_u_outcomes a_u_indexes v_s_things v_s_looked v_s_lookedTooOften v_s_arraysMade v_s_cellsMade a_s_classes a_s_starts a_s_lengths a_s_cells)) (cI := cs 0) (vc := a_vc_141) (vd := a_vd_141) (si := a_si) (sj := a_sj) (iv := a_iv) (inn := a_inn) (ac := a_ac) h_s9
          refine va_get (D := D) (ci := 5) (v := .int (a_si s9 7)) (C := RX6) (T := TX6) (N := 15) hx hb hts hinX6 hown hK hP k147_ hk147_ rfl 7 (by decide) k_37_19 (fun _ h9 => h9) rfl dX4_usePlace_147 ?_
          refine lv_topi (fun x147 e_x147 => ?_)
          have b_x147 := iB x147
          refine lv_aload_n hx hb dX4_usePlace_150 rfl (lv_at hl 1 rfl) ?_
          have hf151 : aV a_L a_K a_u_hand := by first | assumption | exact RF.z_uH (by assumption)
          refine va_get (D := D) (ci := 3) (v := .ref a_u_hand) (C := RX4) (T := TX4) (N := 13) hx hb hts hinX4 hown hK hP 12 rfl rfl 7 (by decide) k_4_14 (fun _ h9 => h9) rfl dX4_usePlace_151 ?_
          obtain ⟨k154_, hk154_⟩ := pl_V (X := (twX cs q v_t_tapeSize v_t_textSize v_t_faultKind a_t_tape a_t_text a_g_beyond v_g_size a_g_steps a_h_beyond v_h_size a_h_steps a_r_scratch a_r_now v_r_takes v_r_negative v_r_namePlace v_r_faultKind v_r_faultPlace v_a_size v_a_limit v_a_digits v_a_kind v_a_from v_a_to v_o_size a_o_out v_b_size v_b_limit v_b_digits v_b_kind v_b_from v_b_to a_u_atom a_u_other a_u_hand v_u_marksMade v_u_came v_u_guesses v_u_right v_u_taken a_u_vars a_u_marks a_u_outcomes a_u_indexes v_s_things v_s_looked v_s_lookedTooOften v_s_arraysMade v_s_cellsMade a_s_classes a_s_starts a_s_lengths a_s_cells)) (cI := cs 0) (vc := a_vc_141) (vd := a_vd_141) (si := a_si) (sj := a_sj) (iv := a_iv) (inn := a_inn) (ac := a_ac) hf151
          refine va_get (D := D) (ci := 7) (v := .long (a_vd_141 a_u_hand)) (C := RX8) (T := TX8) (N := 2) hx hb hts hinX8 hown hK hP k154_ hk154_ rfl 1 (by decide) k_36_6 (fun _ h9 => h9) rfl dX4_usePlace_154 ?_
          refine lv_topl (fun x154 e_x154 => ?_)
          have b_x154 := jB x154
          refine lv_aload_n hx hb dX4_usePlace_157 rfl (lv_at hl 2 rfl) ?_
          obtain ⟨k158_, hk158_⟩ := pl_S (X := (twX cs q v_t_tapeSize v_t_textSize v_t_faultKind a_t_tape a_t_text a_g_beyond v_g_size a_g_steps a_h_beyond v_h_size a_h_steps a_r_scratch a_r_now v_r_takes v_r_negative v_r_namePlace v_r_faultKind v_r_faultPlace v_a_size v_a_limit v_a_digits v_a_kind v_a_from v_a_to v_o_size a_o_out v_b_size v_b_limit v_b_digits v_b_kind v_b_from v_b_to a_u_atom a_u_other a_u_hand v_u_marksMade v_u_came v_u_guesses v_u_right v_u_taken a_u_vars a_u_marks a_u_outcomes a_u_indexes v_s_things v_s_looked v_s_lookedTooOften v_s_arraysMade v_s_cellsMade a_s_classes a_s_starts a_s_lengths a_s_cells)) (cI := cs 0) (vc := a_vc_141) (vd := a_vd_141) (si := a_si) (sj := a_sj) (iv := a_iv) (inn := a_inn) (ac := a_ac) h_s9
          refine va_get (D := D) (ci := 5) (v := .int (a_si s9 7)) (C := RX6) (T := TX6) (N := 15) hx hb hts hinX6 hown hK hP k158_ hk158_ rfl 7 (by decide) k_37_19 (fun _ h9 => h9) rfl dX4_usePlace_158 ?_
          refine lv_topi (fun x158 e_x158 => ?_)
          have b_x158 := iB x158
          refine call_jSP (As := [.long x154, .int x158]) (rest := [.int x147, .ref s9, .ref (q 12)]) ⟨hx, hb, hml, hown, hts⟩ (tX0_widened (l := l) x154 x158) (va_cwS 2 hts (gS (wr40 _ (List.mem_of_getElem? (i := 17) rfl)) (wr21 _ (List.mem_of_getElem? (i := 1) rfl)) (wr19 _ (List.mem_of_getElem? (i := 5) rfl)) (wr21 _ (List.mem_of_getElem? (i := 2) rfl))) rfl rfl rfl (by decide +kernel) ⟨Nat.le_of_ble_eq_true rfl, Nat.le_of_ble_eq_true rfl⟩) (hK.sub [] rfl) hP hD hE hS hA rfl hl.1 rfl (Nat.le_of_ble_eq_true rfl) dX4_usePlace_161 ⟨Nat.le_of_ble_eq_true rfl, Nat.le_of_ble_eq_true rfl⟩ (fun r161 w9 H locs hw161 hP hD hS => ?_)
          obtain ⟨rfl⟩ := hw161
          have b_r161 := jB r161
          refine call_i (As := [.ref s9, .int x147, .long r161]) (rest := []) ⟨hx, hb, hml, hown, hts⟩ (tX4_tell (l := l) s9 h_s9 x147 r161 (by first | assumption | omega | (intros; omega) | decide)) (cwV 3 hts (gV (wr37 _ (List.mem_of_getElem? (i := 10) rfl)) (wr37 _ (List.mem_of_getElem? (i := 11) rfl)) (wr37 _ (List.mem_of_getElem? (i := 12) rfl)) (wr2 _ (List.mem_of_getElem? (i := 10) rfl)) (wr37 _ (List.mem_of_getElem? (i := 13) rfl))) rfl rfl rfl (by decide +kernel) ⟨Nat.le_of_ble_eq_true rfl, Nat.le_of_ble_eq_true rfl⟩) (va_recv hK hP (ci := 3) (q0 := 12) rfl rfl) hK hP hD hE hS hA rfl hl.1 rfl (Nat.le_of_ble_eq_true rfl) dX4_usePlace_164 ⟨Nat.le_of_ble_eq_true rfl, Nat.le_of_ble_eq_true rfl⟩ (fun r164 w9 H locs hw164 hP hD hS => ?_)
          obtain ⟨a_vc_164, a_vd_164, rfl, hw164_0⟩ := hw164
          have b_r164 := iB r164
          subst hAe
          rw [hQ]
          exact W.iret (v := r164) hx hb hr (fun t ht hW => ⟨⟨r164, _, rfl, ⟨a_s_cells, a_vc_164, a_vd_164, rfl⟩, by rw [ht]; exact hP, va_K.moved hW.alike hK, hD⟩, hS.F ht⟩) hS.2.2 dX4_usePlace_167
        · skip
          refine lv_tableIn (tgt := 168) (off := 110) hx hb dX4_usePlace_58 (by omega) (by omega) (by rw [c58]; rfl) (by decide) ?_
          exact J168 H locs ls hP hD hS (lv_sub hl [1, 2] rfl)
        · skip
          refine lv_tableIn (tgt := 92) (off := 34) hx hb dX4_usePlace_58 (by omega) (by omega) (by rw [c58]; rfl) (by decide) ?_
          exact J92 H locs ls hP hD hS (lv_sub hl [1, 2] rfl)
      · skip
        refine lv_iload_n hx hb dX4_usePlace_52 rfl (lv_at hl 0 rfl) ?_
        subst hAe
        rw [hQ]
        exact W.iret (v := r44) hx hb hr (fun t ht hW => ⟨⟨r44, _, rfl, ⟨a_s_cells, a_vc_27, a_vd_27, rfl⟩, by rw [ht]; exact hP, va_K.moved hW.alike hK, hD⟩, hS.F ht⟩) hS.2.2 dX4_usePlace_53
    · skip
      refine lv_iload_n hx hb dX4_usePlace_35 rfl (lv_at hl 0 rfl) ?_
      subst hAe
      rw [hQ]
      exact W.iret (v := r27) hx hb hr (fun t ht hW => ⟨⟨r27, _, rfl, ⟨a_s_cells, a_vc_27, a_vd_27, rfl⟩, by rw [ht]; exact hP, va_K.moved hW.alike hK, hD⟩, hS.F ht⟩) hS.2.2 dX4_usePlace_36
  refine m_icmp_ne (X := x1.toInt) (Y := 5) (tgt := 25) hx hb dX4_usePlace_5 (by decide) rfl (by decide) (fun c5 => ?_) (fun c5 => ?_)
  · skip
    exact J25 H locs ls hP hD hS (lv_sub hl [0, 1] rfl)
  · skip
    refine lv_aload_n hx hb dX4_usePlace_8 rfl (lv_at hl 0 rfl) ?_
    have hf9 : aV a_L a_K a_u_atom := by first | assumption | exact RF.z_uA (by assumption)
    refine va_get (D := D) (ci := 3) (v := .ref a_u_atom) (C := RX4) (T := TX4) (N := 13) hx hb hts hinX4 hown hK hP 12 rfl rfl 5 (by decide) k_4_12 (fun _ h9 => h9) rfl dX4_usePlace_9 ?_
    obtain ⟨k12_, hk12_⟩ := pl_V (X := (twX cs q v_t_tapeSize v_t_textSize v_t_faultKind a_t_tape a_t_text a_g_beyond v_g_size a_g_steps a_h_beyond v_h_size a_h_steps a_r_scratch a_r_now v_r_takes v_r_negative v_r_namePlace v_r_faultKind v_r_faultPlace v_a_size v_a_limit v_a_digits v_a_kind v_a_from v_a_to v_o_size a_o_out v_b_size v_b_limit v_b_digits v_b_kind v_b_from v_b_to a_u_atom a_u_other a_u_hand v_u_marksMade v_u_came v_u_guesses v_u_right v_u_taken a_u_vars a_u_marks a_u_outcomes a_u_indexes v_s_things v_s_looked v_s_lookedTooOften v_s_arraysMade v_s_cellsMade a_s_classes a_s_starts a_s_lengths a_s_cells)) (cI := cs 0) (vc := a_vc) (vd := a_vd) (si := a_si) (sj := a_sj) (iv := a_iv) (inn := a_inn) (ac := a_ac) hf9
    refine va_get (D := D) (ci := 7) (v := .int (a_vc a_u_atom)) (C := RX8) (T := TX8) (N := 2) hx hb hts hinX8 hown hK hP k12_ hk12_ rfl 0 (by decide) k_36_5 (fun _ h9 => h9) rfl dX4_usePlace_12 ?_
    refine lv_topi (fun x12 e_x12 => ?_)
    have b_x12 := iB x12
    refine lv_aload_n hx hb dX4_usePlace_15 rfl (lv_at hl 1 rfl) ?_
    obtain ⟨k16_, hk16_⟩ := pl_S (X := (twX cs q v_t_tapeSize v_t_textSize v_t_faultKind a_t_tape a_t_text a_g_beyond v_g_size a_g_steps a_h_beyond v_h_size a_h_steps a_r_scratch a_r_now v_r_takes v_r_negative v_r_namePlace v_r_faultKind v_r_faultPlace v_a_size v_a_limit v_a_digits v_a_kind v_a_from v_a_to v_o_size a_o_out v_b_size v_b_limit v_b_digits v_b_kind v_b_from v_b_to a_u_atom a_u_other a_u_hand v_u_marksMade v_u_came v_u_guesses v_u_right v_u_taken a_u_vars a_u_marks a_u_outcomes a_u_indexes v_s_things v_s_looked v_s_lookedTooOften v_s_arraysMade v_s_cellsMade a_s_classes a_s_starts a_s_lengths a_s_cells)) (cI := cs 0) (vc := a_vc) (vd := a_vd) (si := a_si) (sj := a_sj) (iv := a_iv) (inn := a_inn) (ac := a_ac) h_s9
    refine va_get (D := D) (ci := 5) (v := .int (a_si s9 7)) (C := RX6) (T := TX6) (N := 15) hx hb hts hinX6 hown hK hP k16_ hk16_ rfl 7 (by decide) k_37_19 (fun _ h9 => h9) rfl dX4_usePlace_16 ?_
    refine lv_topi (fun x16 e_x16 => ?_)
    have b_x16 := iB x16
    refine m_icmp_eq (X := x12.toInt) (Y := x16.toInt) (tgt := 25) hx hb dX4_usePlace_19 (by decide) rfl rfl (fun c19 => ?_) (fun c19 => ?_)
    · skip
      exact J25 H locs ls hP hD hS (lv_sub hl [0, 1] rfl)
    · skip
      refine lv_bipush (v := 6) hx hb dX4_usePlace_22 (by decide) ?_
      subst hAe
      rw [hQ]
      exact W.iret (v := 6) hx hb hr (fun t ht hW => ⟨⟨6, _, rfl, ⟨a_s_cells, a_vc, a_vd, rfl⟩, by rw [ht]; exact hP, va_K.moved hW.alike hK, hD⟩, hS.F ht⟩) hS.2.2 dX4_usePlace_24

def rmX4_makeLevel_q0 : Room := { frames := 60, cells := 0, slots := 0, locals := 1200 }
set_option maxHeartbeats 4000000 in
set_option maxRecDepth 100000 in
theorem tX4_makeLevel_q0 {l : Launch} {D : va_G} {K : Nat → Nat → Nat} {cs : Nat → ClassId} {q : Nat → Nat} {v_t_tapeSize v_t_textSize v_t_faultKind v_g_size v_h_size v_r_takes v_r_negative v_r_namePlace v_r_faultKind v_r_faultPlace v_a_size v_a_limit v_a_digits v_a_kind v_a_from v_a_to v_o_size v_b_size v_b_limit v_b_digits v_b_kind v_b_from v_b_to v_u_marksMade v_u_came v_u_guesses v_u_right v_u_taken v_s_things v_s_looked v_s_lookedTooOften v_s_arraysMade v_s_cellsMade : Int32} {a_t_tape a_t_text a_o_out a_u_outcomes a_u_indexes a_s_classes a_s_starts a_s_lengths a_vc : Nat → Int32} {a_g_beyond a_h_beyond a_r_scratch a_r_now a_u_atom a_u_other a_u_hand : Nat} {a_g_steps a_h_steps a_u_vars a_u_marks : Nat → Option Nat} {a_s_cells a_vd a_sj : Nat → Int64} {a_L : List Nat} {a_K a_iv a_inn : Nat → Nat} {a_si a_ac : Nat → Nat → Int32} (g9 : Int32) (e9 : Int32) (n9 : Int32) (p_0 : RF a_L a_K a_g_beyond a_h_beyond a_r_scratch a_g_steps a_h_steps a_u_atom a_u_other a_u_hand a_u_vars a_u_marks) (p_1 : STO v_s_things v_s_cellsMade a_s_starts a_s_lengths) (p_2 : 3 ≤ e9.toInt) (p_3 : e9.toInt ≤ 3) : CtI l yX4_makeLevel (wG yX4_makeLevel cX4_makeLevel 6 (some .int)) rmX4_makeLevel_q0 D (twT cs) K [.ref (q 12), .int g9, .int e9, .int n9] (tw cs q v_t_tapeSize v_t_textSize v_t_faultKind a_t_tape a_t_text a_g_beyond v_g_size a_g_steps a_h_beyond v_h_size a_h_steps a_r_scratch a_r_now v_r_takes v_r_negative v_r_namePlace v_r_faultKind v_r_faultPlace v_a_size v_a_limit v_a_digits v_a_kind v_a_from v_a_to v_o_size a_o_out v_b_size v_b_limit v_b_digits v_b_kind v_b_from v_b_to a_u_atom a_u_other a_u_hand v_u_marksMade v_u_came v_u_guesses v_u_right v_u_taken a_u_vars a_u_marks a_u_outcomes a_u_indexes v_s_things v_s_looked v_s_lookedTooOften v_s_arraysMade v_s_cellsMade a_s_classes a_s_starts a_s_lengths a_s_cells a_L a_K a_vc a_vd a_si a_sj a_iv a_inn a_ac) (fun r w1 => w1 = (tw cs q v_t_tapeSize v_t_textSize v_t_faultKind a_t_tape a_t_text a_g_beyond v_g_size a_g_steps a_h_beyond v_h_size a_h_steps a_r_scratch a_r_now v_r_takes v_r_negative v_r_namePlace v_r_faultKind v_r_faultPlace v_a_size v_a_limit v_a_digits v_a_kind v_a_from v_a_to v_o_size a_o_out v_b_size v_b_limit v_b_digits v_b_kind v_b_from v_b_to a_u_atom a_u_other a_u_hand v_u_marksMade v_u_came v_u_guesses v_u_right v_u_taken a_u_vars a_u_marks a_u_outcomes a_u_indexes v_s_things v_s_looked v_s_lookedTooOften v_s_arraysMade v_s_cellsMade a_s_classes a_s_starts a_s_lengths a_s_cells a_L a_K a_vc a_vd a_si a_sj a_iv a_inn a_ac) ∧ (STO v_s_things v_s_cellsMade a_s_starts a_s_lengths)) 0 0 := by
  intro sz
  refine Met.ofW (cc := cX4_makeLevel) (maxL := 6) (ret := (some .int)) (by decide) rfl ?_
  intro p e s m args below meth c s₁ B hml hv
  obtain ⟨rfl, hsz, hP, hK, hD0, hE⟩ := hv
  have hx := B.exec
  have hb := B.bytes
  have hr := B.returns
  have hts := atoms_spec (ws := (wG yX4_makeLevel cX4_makeLevel 6 (some .int))) B.pre
  have hown : s.vm.findClass RX4 = some m.cls := findClass_of_methodNamed B.named
  have hlocks := B.notSynchronized
  subst hsz
  have hD := hD0.self (sz := s.heap.size)
  obtain ⟨A, hAe⟩ : ∃ A : Nat → Prop, A = va_A (tw cs q v_t_tapeSize v_t_textSize v_t_faultKind a_t_tape a_t_text a_g_beyond v_g_size a_g_steps a_h_beyond v_h_size a_h_steps a_r_scratch a_r_now v_r_takes v_r_negative v_r_namePlace v_r_faultKind v_r_faultPlace v_a_size v_a_limit v_a_digits v_a_kind v_a_from v_a_to v_o_size a_o_out v_b_size v_b_limit v_b_digits v_b_kind v_b_from v_b_to a_u_atom a_u_other a_u_hand v_u_marksMade v_u_came v_u_guesses v_u_right v_u_taken a_u_vars a_u_marks a_u_outcomes a_u_indexes v_s_things v_s_looked v_s_lookedTooOften v_s_arraysMade v_s_cellsMade a_s_classes a_s_starts a_s_lengths a_s_cells a_L a_K a_vc a_vd a_si a_sj a_iv a_inn a_ac) s.heap.size := ⟨_, rfl⟩
  rw [← hAe] at hD hE
  have hA : ∀ q : Nat, s.heap.size ≤ q → A q := fun q h => by rw [hAe]; exact Or.inr h
  have hS : va_S A s.heap s.heap [] := va_S.rf
  have hl := lv_entry ([.ref (q 12), .int g9, .int e9, .int n9]) (n := 6) (Nat.le_of_ble_eq_true rfl)
  rw [lg_entry_eq]
  generalize (lg_sl ([.ref (q 12), .int g9, .int e9, .int n9]) ++ List.replicate (6 - (lg_sl ([.ref (q 12), .int g9, .int e9, .int n9])).length) Slot.unset).toArray = ls at hl ⊢
  have hl : lv_has ls 6 [(0, .ref (q 12)), (1, .int g9), (2, .int e9), (3, .int n9)] := hl
  refine wq (fun Q hQ => ?_)
  have hinX4 : ∀ w ∈ wsX40, w ∈ (wG yX4_makeLevel cX4_makeLevel 6 (some .int)) := fun w h => List.mem_cons_of_mem _ (inlX4 w h)
  have kc0 : (0 : Int32).toInt = 0 := by decide
  have k_4_9 := hts (.fieldLink RX4 33 "ArrayTrainer$Runner" "indexes" "[I") (List.mem_cons_of_mem _ (wr4 _ (List.mem_of_getElem? (i := 9) rfl)))
  obtain ⟨H, hH⟩ : ∃ H : Heap, H = s.heap := ⟨_, rfl⟩
  obtain ⟨locs, hlc⟩ : ∃ L : List Loc, L = [] := ⟨_, rfl⟩
  have hP : va_P D vwCl (tw cs q v_t_tapeSize v_t_textSize v_t_faultKind a_t_tape a_t_text a_g_beyond v_g_size a_g_steps a_h_beyond v_h_size a_h_steps a_r_scratch a_r_now v_r_takes v_r_negative v_r_namePlace v_r_faultKind v_r_faultPlace v_a_size v_a_limit v_a_digits v_a_kind v_a_from v_a_to v_o_size a_o_out v_b_size v_b_limit v_b_digits v_b_kind v_b_from v_b_to a_u_atom a_u_other a_u_hand v_u_marksMade v_u_came v_u_guesses v_u_right v_u_taken a_u_vars a_u_marks a_u_outcomes a_u_indexes v_s_things v_s_looked v_s_lookedTooOften v_s_arraysMade v_s_cellsMade a_s_classes a_s_starts a_s_lengths a_s_cells a_L a_K a_vc a_vd a_si a_sj a_iv a_inn a_ac) H := by rw [hH]; exact hP
  have hS : va_S A s.heap H locs := by rw [hH, hlc]; exact hS
  refine wHL hH hlc ?_
  have b_g9 := iB g9
  have b_e9 := iB e9
  have b_n9 := iB n9
  refine lv_iload_n hx hb dX4_makeLevel_0 rfl (lv_at hl 2 rfl) ?_
  refine lv_iload_n hx hb dX4_makeLevel_1 rfl (lv_at hl 3 rfl) ?_
  refine m_icmp_ge (X := e9.toInt) (Y := n9.toInt) (tgt := 14) hx hb dX4_makeLevel_2 (by decide) rfl rfl (fun c2 => ?_) (fun c2 => ?_)
  · skip
    refine lv_iconst (v := 0) hx hb dX4_makeLevel_14 (by decide) ?_
    subst hAe
    rw [hQ]
    exact W.iret (v := 0) hx hb hr (fun t ht hW => ⟨⟨0, _, rfl, ⟨rfl, by first | assumption | omega | (intros; omega) | decide⟩, by rw [ht]; exact hP, va_K.moved hW.alike hK, hD⟩, hS.F ht⟩) hS.2.2 dX4_makeLevel_15
  · skip
    refine lv_iload_n hx hb dX4_makeLevel_5 rfl (lv_at hl 2 rfl) ?_
    refine lv_aload_n hx hb dX4_makeLevel_6 rfl (lv_at hl 0 rfl) ?_
    refine va_get (D := D) (ci := 3) (v := .ref (q 16)) (C := RX4) (T := TX4) (N := 13) hx hb hts hinX4 hown hK hP 12 rfl rfl 4 (by decide) k_4_9 (fun _ h9 => h9) rfl dX4_makeLevel_7 ?_
    refine m_alen hx hb hK hP 16 0 rfl rfl (show 3 < 2147483648 by decide) dX4_makeLevel_10 (fun x10 g_x10 => ?_)
    have g_x10 : x10.toInt = 3 := g_x10
    refine m_icmp_lt (X := e9.toInt) (Y := x10.toInt) (tgt := 16) hx hb dX4_makeLevel_11 (by decide) rfl rfl (fun c11 => ?_) (fun c11 => ?_)
    · skip
      exfalso
      omega
    · skip
      refine lv_iconst (v := 0) hx hb dX4_makeLevel_14 (by decide) ?_
      subst hAe
      rw [hQ]
      exact W.iret (v := 0) hx hb hr (fun t ht hW => ⟨⟨0, _, rfl, ⟨rfl, by first | assumption | omega | (intros; omega) | decide⟩, by rw [ht]; exact hP, va_K.moved hW.alike hK, hD⟩, hS.F ht⟩) hS.2.2 dX4_makeLevel_15

def rmX4_makeLevel_q1 : Room := { frames := 80, cells := 0, slots := 0, locals := 1600 }
set_option maxHeartbeats 4000000 in
set_option maxRecDepth 100000 in
theorem tX4_makeLevel_q1 {l : Launch} {D : va_G} {K : Nat → Nat → Nat} {cs : Nat → ClassId} {q : Nat → Nat} {v_t_tapeSize v_t_textSize v_t_faultKind v_g_size v_h_size v_r_takes v_r_negative v_r_namePlace v_r_faultKind v_r_faultPlace v_a_size v_a_limit v_a_digits v_a_kind v_a_from v_a_to v_o_size v_b_size v_b_limit v_b_digits v_b_kind v_b_from v_b_to v_u_marksMade v_u_came v_u_guesses v_u_right v_u_taken v_s_things v_s_looked v_s_lookedTooOften v_s_arraysMade v_s_cellsMade : Int32} {a_t_tape a_t_text a_o_out a_u_outcomes a_u_indexes a_s_classes a_s_starts a_s_lengths a_vc : Nat → Int32} {a_g_beyond a_h_beyond a_r_scratch a_r_now a_u_atom a_u_other a_u_hand : Nat} {a_g_steps a_h_steps a_u_vars a_u_marks : Nat → Option Nat} {a_s_cells a_vd a_sj : Nat → Int64} {a_L : List Nat} {a_K a_iv a_inn : Nat → Nat} {a_si a_ac : Nat → Nat → Int32} (g9 : Int32) (e9 : Int32) (n9 : Int32) (p_0 : RF a_L a_K a_g_beyond a_h_beyond a_r_scratch a_g_steps a_h_steps a_u_atom a_u_other a_u_hand a_u_vars a_u_marks) (p_1 : STO v_s_things v_s_cellsMade a_s_starts a_s_lengths) (p_2 : 2 ≤ e9.toInt) (p_3 : e9.toInt ≤ 3) : CtI l yX4_makeLevel (wG yX4_makeLevel cX4_makeLevel 6 (some .int)) rmX4_makeLevel_q1 D (twT cs) K [.ref (q 12), .int g9, .int e9, .int n9] (tw cs q v_t_tapeSize v_t_textSize v_t_faultKind a_t_tape a_t_text a_g_beyond v_g_size a_g_steps a_h_beyond v_h_size a_h_steps a_r_scratch a_r_now v_r_takes v_r_negative v_r_namePlace v_r_faultKind v_r_faultPlace v_a_size v_a_limit v_a_digits v_a_kind v_a_from v_a_to v_o_size a_o_out v_b_size v_b_limit v_b_digits v_b_kind v_b_from v_b_to a_u_atom a_u_other a_u_hand v_u_marksMade v_u_came v_u_guesses v_u_right v_u_taken a_u_vars a_u_marks a_u_outcomes a_u_indexes v_s_things v_s_looked v_s_lookedTooOften v_s_arraysMade v_s_cellsMade a_s_classes a_s_starts a_s_lengths a_s_cells a_L a_K a_vc a_vd a_si a_sj a_iv a_inn a_ac) (fun r w1 => ∃ (v_s_things' : Int32) (v_s_arraysMade' : Int32) (v_s_cellsMade' : Int32) (a_s_classes' : Nat → Int32) (a_s_starts' : Nat → Int32) (a_s_lengths' : Nat → Int32) (a_s_cells' : Nat → Int64), w1 = (tw cs q v_t_tapeSize v_t_textSize v_t_faultKind a_t_tape a_t_text a_g_beyond v_g_size a_g_steps a_h_beyond v_h_size a_h_steps a_r_scratch a_r_now v_r_takes v_r_negative v_r_namePlace v_r_faultKind v_r_faultPlace v_a_size v_a_limit v_a_digits v_a_kind v_a_from v_a_to v_o_size a_o_out v_b_size v_b_limit v_b_digits v_b_kind v_b_from v_b_to a_u_atom a_u_other a_u_hand v_u_marksMade v_u_came v_u_guesses v_u_right v_u_taken a_u_vars a_u_marks a_u_outcomes a_u_indexes v_s_things' v_s_looked v_s_lookedTooOften v_s_arraysMade' v_s_cellsMade' a_s_classes' a_s_starts' a_s_lengths' a_s_cells' a_L a_K a_vc a_vd a_si a_sj a_iv a_inn a_ac) ∧ (STO v_s_things' v_s_cellsMade' a_s_starts' a_s_lengths')) 0 0 := by
  intro sz
  refine Met.ofW (cc := cX4_makeLevel) (maxL := 6) (ret := (some .int)) (by decide) rfl ?_
  intro p e s m args below meth c s₁ B hml hv
  obtain ⟨rfl, hsz, hP, hK, hD0, hE⟩ := hv
  have hx := B.exec
  have hb := B.bytes
  have hr := B.returns
  have hts := atoms_spec (ws := (wG yX4_makeLevel cX4_makeLevel 6 (some .int))) B.pre
  have hown : s.vm.findClass RX4 = some m.cls := findClass_of_methodNamed B.named
  have hlocks := B.notSynchronized
  subst hsz
  have hD := hD0.self (sz := s.heap.size)
  obtain ⟨A, hAe⟩ : ∃ A : Nat → Prop, A = va_A (tw cs q v_t_tapeSize v_t_textSize v_t_faultKind a_t_tape a_t_text a_g_beyond v_g_size a_g_steps a_h_beyond v_h_size a_h_steps a_r_scratch a_r_now v_r_takes v_r_negative v_r_namePlace v_r_faultKind v_r_faultPlace v_a_size v_a_limit v_a_digits v_a_kind v_a_from v_a_to v_o_size a_o_out v_b_size v_b_limit v_b_digits v_b_kind v_b_from v_b_to a_u_atom a_u_other a_u_hand v_u_marksMade v_u_came v_u_guesses v_u_right v_u_taken a_u_vars a_u_marks a_u_outcomes a_u_indexes v_s_things v_s_looked v_s_lookedTooOften v_s_arraysMade v_s_cellsMade a_s_classes a_s_starts a_s_lengths a_s_cells a_L a_K a_vc a_vd a_si a_sj a_iv a_inn a_ac) s.heap.size := ⟨_, rfl⟩
  rw [← hAe] at hD hE
  have hA : ∀ q : Nat, s.heap.size ≤ q → A q := fun q h => by rw [hAe]; exact Or.inr h
  have hS : va_S A s.heap s.heap [] := va_S.rf
  have hl := lv_entry ([.ref (q 12), .int g9, .int e9, .int n9]) (n := 6) (Nat.le_of_ble_eq_true rfl)
  rw [lg_entry_eq]
  generalize (lg_sl ([.ref (q 12), .int g9, .int e9, .int n9]) ++ List.replicate (6 - (lg_sl ([.ref (q 12), .int g9, .int e9, .int n9])).length) Slot.unset).toArray = ls at hl ⊢
  have hl : lv_has ls 6 [(0, .ref (q 12)), (1, .int g9), (2, .int e9), (3, .int n9)] := hl
  refine wq (fun Q hQ => ?_)
  have hinX4 : ∀ w ∈ wsX40, w ∈ (wG yX4_makeLevel cX4_makeLevel 6 (some .int)) := fun w h => List.mem_cons_of_mem _ (inlX4 w h)
  have kc0 : (0 : Int32).toInt = 0 := by decide
  have kc1 : (1 : Int32).toInt = 1 := by decide
  have k_4_9 := hts (.fieldLink RX4 33 "ArrayTrainer$Runner" "indexes" "[I") (List.mem_cons_of_mem _ (wr4 _ (List.mem_of_getElem? (i := 9) rfl)))
  have k_4_4 := hts (.fieldLink RX4 12 "ArrayTrainer$Runner" "store" "LArrayTrainer$Store;") (List.mem_cons_of_mem _ (wr4 _ (List.mem_of_getElem? (i := 4) rfl)))
  obtain ⟨H, hH⟩ : ∃ H : Heap, H = s.heap := ⟨_, rfl⟩
  obtain ⟨locs, hlc⟩ : ∃ L : List Loc, L = [] := ⟨_, rfl⟩
  have hP : va_P D vwCl (tw cs q v_t_tapeSize v_t_textSize v_t_faultKind a_t_tape a_t_text a_g_beyond v_g_size a_g_steps a_h_beyond v_h_size a_h_steps a_r_scratch a_r_now v_r_takes v_r_negative v_r_namePlace v_r_faultKind v_r_faultPlace v_a_size v_a_limit v_a_digits v_a_kind v_a_from v_a_to v_o_size a_o_out v_b_size v_b_limit v_b_digits v_b_kind v_b_from v_b_to a_u_atom a_u_other a_u_hand v_u_marksMade v_u_came v_u_guesses v_u_right v_u_taken a_u_vars a_u_marks a_u_outcomes a_u_indexes v_s_things v_s_looked v_s_lookedTooOften v_s_arraysMade v_s_cellsMade a_s_classes a_s_starts a_s_lengths a_s_cells a_L a_K a_vc a_vd a_si a_sj a_iv a_inn a_ac) H := by rw [hH]; exact hP
  have hS : va_S A s.heap H locs := by rw [hH, hlc]; exact hS
  refine wHL hH hlc ?_
  have b_g9 := iB g9
  have b_e9 := iB e9
  have b_n9 := iB n9
  refine lv_iload_n hx hb dX4_makeLevel_0 rfl (lv_at hl 2 rfl) ?_
  refine lv_iload_n hx hb dX4_makeLevel_1 rfl (lv_at hl 3 rfl) ?_
  refine m_icmp_ge (X := e9.toInt) (Y := n9.toInt) (tgt := 14) hx hb dX4_makeLevel_2 (by decide) rfl rfl (fun c2 => ?_) (fun c2 => ?_)
  · skip
    refine lv_iconst (v := 0) hx hb dX4_makeLevel_14 (by decide) ?_
    subst hAe
    rw [hQ]
    exact W.iret (v := 0) hx hb hr (fun t ht hW => ⟨⟨0, _, rfl, ⟨v_s_things, v_s_arraysMade, v_s_cellsMade, a_s_classes, a_s_starts, a_s_lengths, a_s_cells, rfl, by first | assumption | omega | (intros; omega) | decide⟩, by rw [ht]; exact hP, va_K.moved hW.alike hK, hD⟩, hS.F ht⟩) hS.2.2 dX4_makeLevel_15
  · skip
    refine lv_iload_n hx hb dX4_makeLevel_5 rfl (lv_at hl 2 rfl) ?_
    refine lv_aload_n hx hb dX4_makeLevel_6 rfl (lv_at hl 0 rfl) ?_
    refine va_get (D := D) (ci := 3) (v := .ref (q 16)) (C := RX4) (T := TX4) (N := 13) hx hb hts hinX4 hown hK hP 12 rfl rfl 4 (by decide) k_4_9 (fun _ h9 => h9) rfl dX4_makeLevel_7 ?_
    refine m_alen hx hb hK hP 16 0 rfl rfl (show 3 < 2147483648 by decide) dX4_makeLevel_10 (fun x10 g_x10 => ?_)
    have g_x10 : x10.toInt = 3 := g_x10
    refine m_icmp_lt (X := e9.toInt) (Y := x10.toInt) (tgt := 16) hx hb dX4_makeLevel_11 (by decide) rfl rfl (fun c11 => ?_) (fun c11 => ?_)
    · skip
      refine lv_aload_n hx hb dX4_makeLevel_16 rfl (lv_at hl 0 rfl) ?_
      refine va_get (D := D) (ci := 3) (v := .ref (q 17)) (C := RX4) (T := TX4) (N := 13) hx hb hts hinX4 hown hK hP 12 rfl rfl 0 (by decide) k_4_4 (fun _ h9 => h9) rfl dX4_makeLevel_17 ?_
      refine lv_iload_n hx hb dX4_makeLevel_20 rfl (lv_at hl 1 rfl) ?_
      refine lv_aload_n hx hb dX4_makeLevel_21 rfl (lv_at hl 0 rfl) ?_
      refine va_get (D := D) (ci := 3) (v := .ref (q 16)) (C := RX4) (T := TX4) (N := 13) hx hb hts hinX4 hown hK hP 12 rfl rfl 4 (by decide) k_4_9 (fun _ h9 => h9) rfl dX4_makeLevel_22 ?_
      refine lv_iload_n hx hb dX4_makeLevel_25 rfl (lv_at hl 2 rfl) ?_
      refine m_iald hx hb hK hP 16 0 rfl rfl (ix (by omega) (by omega)) dX4_makeLevel_26 (fun x26 e_x26 => ?_)
      have b_x26 := iB x26
      refine call_i (As := [.int g9, .int x26]) (rest := []) ⟨hx, hb, hml, hown, hts⟩ (tX7_makeArray (l := l) g9 x26 (by first | assumption | omega | (intros; omega) | decide)) (cwV 2 hts (gV (wr41 _ (List.mem_of_getElem? (i := 15) rfl)) (wr41 _ (List.mem_of_getElem? (i := 16) rfl)) (wr41 _ (List.mem_of_getElem? (i := 17) rfl)) (wr4 _ (List.mem_of_getElem? (i := 3) rfl)) (wr41 _ (List.mem_of_getElem? (i := 18) rfl))) rfl rfl rfl (by decide +kernel) ⟨Nat.le_of_ble_eq_true rfl, Nat.le_of_ble_eq_true rfl⟩) (va_recv hK hP (ci := 6) (q0 := 17) rfl rfl) hK hP hD hE hS hA rfl hl.1 rfl (Nat.le_of_ble_eq_true rfl) dX4_makeLevel_27 ⟨Nat.le_of_ble_eq_true rfl, Nat.le_of_ble_eq_true rfl⟩ (fun r27 w9 H locs hw27 hP hD hS => ?_)
      obtain ⟨v_s_things_27, v_s_arraysMade_27, v_s_cellsMade_27, a_s_classes_27, a_s_starts_27, a_s_lengths_27, a_s_cells_27, rfl, hw27_0, hw27_1, hw27_2, hw27_3⟩ := hw27
      have b_v_s_things_27 := iB v_s_things_27
      have b_v_s_arraysMade_27 := iB v_s_arraysMade_27
      have b_v_s_cellsMade_27 := iB v_s_cellsMade_27
      have b_r27 := iB r27
      refine lv_istore (lv' := [(4, .int r27), (0, .ref (q 12)), (1, .int g9), (2, .int e9), (3, .int n9)]) hx hb dX4_makeLevel_30 hl (by decide) rfl (fun ls hl => ?_)
      refine lv_iload_n hx hb dX4_makeLevel_32 rfl (lv_at hl 3 rfl) ?_
      refine lv_iconst (v := 1) hx hb dX4_makeLevel_33 (by decide) ?_
      refine m_iadd (X := e9.toInt) (Y := 1) hx hb dX4_makeLevel_34 rfl (by decide) (fun x34 e_x34 g9 => ?_)
      obtain ⟨k_x34, g_x34⟩ := g9
      have b_x34 := iB x34
      try (have q_x34 : x34.toInt = e9.toInt + 1 := (by omega); clear g_x34 k_x34)
      refine lv_iload_n hx hb dX4_makeLevel_35 rfl (lv_at hl 4 rfl) ?_
      refine m_icmp_ge (X := x34.toInt) (Y := n9.toInt) (tgt := 86) hx hb dX4_makeLevel_36 (by decide) rfl rfl (fun c36 => ?_) (fun c36 => ?_)
      · skip
        refine lv_iload hx hb dX4_makeLevel_86 (lv_at hl 0 rfl) ?_
        subst hAe
        rw [hQ]
        exact W.iret (v := r27) hx hb hr (fun t ht hW => ⟨⟨r27, _, rfl, ⟨v_s_things_27, v_s_arraysMade_27, v_s_cellsMade_27, a_s_classes_27, a_s_starts_27, a_s_lengths_27, a_s_cells_27, rfl, by first | assumption | omega | (intros; omega) | decide⟩, by rw [ht]; exact hP, va_K.moved hW.alike hK, hD⟩, hS.F ht⟩) hS.2.2 dX4_makeLevel_88
      · skip
        refine lv_iconst (v := 0) hx hb dX4_makeLevel_39 (by decide) ?_
        refine lv_istore (lv' := [(5, .int 0), (4, .int r27), (0, .ref (q 12)), (1, .int g9), (2, .int e9), (3, .int n9)]) hx hb dX4_makeLevel_40 hl (by decide) rfl (fun ls hl => ?_)
        have J42 : ∀ (n42 : Nat) (l5_42 : Int32) (a_s_cells_42 : Nat → Int64) (H : Heap) (locs : List Loc) (ls : Array Slot), (0 ≤ l5_42.toInt) → (l5_42.toInt ≤ 4000) → (STO v_s_things_27 v_s_cellsMade_27 a_s_starts_27 a_s_lengths_27) → (4000 - l5_42.toInt < (n42 : Int)) → va_P D vwCl (tw cs q v_t_tapeSize v_t_textSize v_t_faultKind a_t_tape a_t_text a_g_beyond v_g_size a_g_steps a_h_beyond v_h_size a_h_steps a_r_scratch a_r_now v_r_takes v_r_negative v_r_namePlace v_r_faultKind v_r_faultPlace v_a_size v_a_limit v_a_digits v_a_kind v_a_from v_a_to v_o_size a_o_out v_b_size v_b_limit v_b_digits v_b_kind v_b_from v_b_to a_u_atom a_u_other a_u_hand v_u_marksMade v_u_came v_u_guesses v_u_right v_u_taken a_u_vars a_u_marks a_u_outcomes a_u_indexes v_s_things_27 v_s_looked v_s_lookedTooOften v_s_arraysMade_27 v_s_cellsMade_27 a_s_classes_27 a_s_starts_27 a_s_lengths_27 a_s_cells_42 a_L a_K a_vc a_vd a_si a_sj a_iv a_inn a_ac) H → va_D A (tw cs q v_t_tapeSize v_t_textSize v_t_faultKind a_t_tape a_t_text a_g_beyond v_g_size a_g_steps a_h_beyond v_h_size a_h_steps a_r_scratch a_r_now v_r_takes v_r_negative v_r_namePlace v_r_faultKind v_r_faultPlace v_a_size v_a_limit v_a_digits v_a_kind v_a_from v_a_to v_o_size a_o_out v_b_size v_b_limit v_b_digits v_b_kind v_b_from v_b_to a_u_atom a_u_other a_u_hand v_u_marksMade v_u_came v_u_guesses v_u_right v_u_taken a_u_vars a_u_marks a_u_outcomes a_u_indexes v_s_things_27 v_s_looked v_s_lookedTooOften v_s_arraysMade_27 v_s_cellsMade_27 a_s_classes_27 a_s_starts_27 a_s_lengths_27 a_s_cells_42 a_L a_K a_vc a_vd a_si a_sj a_iv a_inn a_ac) → va_S A s.heap H locs → lv_has ls 6 [(0, .ref (q 12)), (1, .int g9), (2, .int e9), (3, .int n9), (4, .int r27), (5, .int l5_42)] → W p l e (headSpec (wG yX4_makeLevel cX4_makeLevel 6 (some .int)) rmX4_makeLevel_q1).room s m ([.ref (q 12), .int g9, .int e9, .int n9] : List Value).toArray below meth c H locs 0 0 Q (F0 m 42 ls []) := by
          intro n42
          induction n42 with
          | zero =>
            intro l5_42 a_s_cells_42 H locs ls f42_0 f42_1 f42_2 hm42
            exfalso
            omega
          | succ n42 ih42 =>
            intro l5_42 a_s_cells_42 H locs ls f42_0 f42_1 f42_2 hm42 hP hD hS hl
            refine lv_iload hx hb dX4_makeLevel_42 (lv_at hl 5 rfl) ?_
            refine lv_aload_n hx hb dX4_makeLevel_44 rfl (lv_at hl 0 rfl) ?_
            refine va_get (D := D) (ci := 3) (v := .ref (q 17)) (C := RX4) (T := TX4) (N := 13) hx hb hts hinX4 hown hK hP 12 rfl rfl 0 (by decide) k_4_4 (fun _ h9 => h9) rfl dX4_makeLevel_45 ?_
            refine lv_iload hx hb dX4_makeLevel_48 (lv_at hl 4 rfl) ?_
            refine call_i (As := [.int r27]) (rest := [.int l5_42]) ⟨hx, hb, hml, hown, hts⟩ (tX7_lengthOf (l := l) r27 (by first | assumption | omega | (intros; omega) | decide)) (cwV 1 hts (gV (wr41 _ (List.mem_of_getElem? (i := 19) rfl)) (wr41 _ (List.mem_of_getElem? (i := 20) rfl)) (wr41 _ (List.mem_of_getElem? (i := 21) rfl)) (wr4 _ (List.mem_of_getElem? (i := 3) rfl)) (wr41 _ (List.mem_of_getElem? (i := 22) rfl))) rfl rfl rfl (by decide +kernel) ⟨Nat.le_of_ble_eq_true rfl, Nat.le_of_ble_eq_true rfl⟩) (va_recv hK hP (ci := 6) (q0 := 17) rfl rfl) hK hP hD hE hS hA rfl hl.1 rfl (Nat.le_of_ble_eq_true rfl) dX4_makeLevel_50 ⟨Nat.le_of_ble_eq_true rfl, Nat.le_of_ble_eq_true rfl⟩ (fun r50 w9 H locs hw50 hP hD hS => ?_)
            obtain ⟨rfl, hw50_0, hw50_1, hw50_2⟩ := hw50
            have b_r50 := iB r50
            refine m_icmp_ge (X := l5_42.toInt) (Y := r50.toInt) (tgt := 86) hx hb dX4_makeLevel_53 (by decide) rfl rfl (fun c53 => ?_) (fun c53 => ?_)
            · skip
              refine lv_iload hx hb dX4_makeLevel_86 (lv_at hl 4 rfl) ?_
              subst hAe
              rw [hQ]
              exact W.iret (v := r27) hx hb hr (fun t ht hW => ⟨⟨r27, _, rfl, ⟨v_s_things_27, v_s_arraysMade_27, v_s_cellsMade_27, a_s_classes_27, a_s_starts_27, a_s_lengths_27, a_s_cells_42, rfl, by first | assumption | omega | (intros; omega) | decide⟩, by rw [ht]; exact hP, va_K.moved hW.alike hK, hD⟩, hS.F ht⟩) hS.2.2 dX4_makeLevel_88
            · skip
              refine lv_aload_n hx hb dX4_makeLevel_56 rfl (lv_at hl 0 rfl) ?_
              refine va_get (D := D) (ci := 3) (v := .ref (q 17)) (C := RX4) (T := TX4) (N := 13) hx hb hts hinX4 hown hK hP 12 rfl rfl 0 (by decide) k_4_4 (fun _ h9 => h9) rfl dX4_makeLevel_57 ?_
              refine lv_iload hx hb dX4_makeLevel_60 (lv_at hl 4 rfl) ?_
              refine lv_iload hx hb dX4_makeLevel_62 (lv_at hl 5 rfl) ?_
              refine lv_aload_n hx hb dX4_makeLevel_64 rfl (lv_at hl 0 rfl) ?_
              refine lv_iload_n hx hb dX4_makeLevel_65 rfl (lv_at hl 1 rfl) ?_
              refine call_iSP (As := [.int g9]) (rest := [.ref (q 12), .int l5_42, .int r27, .ref (q 17)]) ⟨hx, hb, hml, hown, hts⟩ (tX0_elementsOf (l := l) g9) (va_cwS 1 hts (gS (wr39 _ (List.mem_of_getElem? (i := 13) rfl)) (wr39 _ (List.mem_of_getElem? (i := 14) rfl)) (wr19 _ (List.mem_of_getElem? (i := 5) rfl)) (wr39 _ (List.mem_of_getElem? (i := 15) rfl))) rfl rfl rfl (by decide +kernel) ⟨Nat.le_of_ble_eq_true rfl, Nat.le_of_ble_eq_true rfl⟩) (hK.sub [] rfl) hP hD hE hS hA rfl hl.1 rfl (Nat.le_of_ble_eq_true rfl) dX4_makeLevel_66 ⟨Nat.le_of_ble_eq_true rfl, Nat.le_of_ble_eq_true rfl⟩ (fun r66 w9 H locs hw66 hP hD hS => ?_)
              obtain ⟨rfl, hw66_0⟩ := hw66
              have b_r66 := iB r66
              refine lv_iload_n hx hb dX4_makeLevel_69 rfl (lv_at hl 2 rfl) ?_
              refine lv_iconst (v := 1) hx hb dX4_makeLevel_70 (by decide) ?_
              refine m_iadd (X := e9.toInt) (Y := 1) hx hb dX4_makeLevel_71 rfl (by decide) (fun x71 e_x71 g9 => ?_)
              obtain ⟨k_x71, g_x71⟩ := g9
              have b_x71 := iB x71
              try (have q_x71 : x71.toInt = e9.toInt + 1 := (by omega); clear g_x71 k_x71)
              refine lv_iload_n hx hb dX4_makeLevel_72 rfl (lv_at hl 3 rfl) ?_
              refine call_i (As := [.int r66, .int x71, .int n9]) (rest := [.int l5_42, .int r27, .ref (q 17)]) ⟨hx, hb, hml, hown, hts⟩ (tX4_makeLevel_q0 (l := l) r66 x71 n9 (by first | assumption | omega | (intros; omega) | decide) (by first | assumption | omega | (intros; omega) | decide) (by first | assumption | omega | (intros; omega) | decide) (by first | assumption | omega | (intros; omega) | decide)) (cwV 3 hts (gV (wr41 _ (List.mem_of_getElem? (i := 11) rfl)) (wr41 _ (List.mem_of_getElem? (i := 12) rfl)) (wr41 _ (List.mem_of_getElem? (i := 13) rfl)) (wr2 _ (List.mem_of_getElem? (i := 10) rfl)) (wr41 _ (List.mem_of_getElem? (i := 14) rfl))) rfl rfl rfl (by decide +kernel) ⟨Nat.le_of_ble_eq_true rfl, Nat.le_of_ble_eq_true rfl⟩) (va_recv hK hP (ci := 3) (q0 := 12) rfl rfl) hK hP hD hE hS hA rfl hl.1 rfl (Nat.le_of_ble_eq_true rfl) dX4_makeLevel_73 ⟨Nat.le_of_ble_eq_true rfl, Nat.le_of_ble_eq_true rfl⟩ (fun r73 w9 H locs hw73 hP hD hS => ?_)
              obtain ⟨rfl, hw73_0⟩ := hw73
              have b_r73 := iB r73
              refine m_i2l (X := r73.toInt) hx hb dX4_makeLevel_76 rfl (fun x76 e_x76 g_x76 => ?_)
              refine call_v (As := [.int r27, .int l5_42, .long x76]) (rest := []) ⟨hx, hb, hml, hown, hts⟩ (tX7_write (l := l) r27 l5_42 x76 (by first | assumption | omega | (intros; omega) | decide)) (cwV 3 hts (gV (wr40 _ (List.mem_of_getElem? (i := 22) rfl)) (wr40 _ (List.mem_of_getElem? (i := 23) rfl)) (wr41 _ (List.mem_of_getElem? (i := 0) rfl)) (wr4 _ (List.mem_of_getElem? (i := 3) rfl)) (wr41 _ (List.mem_of_getElem? (i := 1) rfl))) rfl rfl rfl (by decide +kernel) ⟨Nat.le_of_ble_eq_true rfl, Nat.le_of_ble_eq_true rfl⟩) (va_recv hK hP (ci := 6) (q0 := 17) rfl rfl) hK hP hD hE hS hA rfl hl.1 rfl (Nat.le_of_ble_eq_true rfl) dX4_makeLevel_77 ⟨Nat.le_of_ble_eq_true rfl, Nat.le_of_ble_eq_true rfl⟩ (fun w9 H locs hw77 hP hD hS => ?_)
              obtain ⟨a_s_cells_77, rfl⟩ := hw77
              obtain ⟨x80, e_x80⟩ : ∃ z : Int32, z = l5_42 + (1 : Int32) := ⟨_, rfl⟩
              obtain ⟨k_x80, g_x80⟩ : ∃ k : Int, x80.toInt = l5_42.toInt + (1) + k * 4294967296 := by rw [e_x80]; exact iAdd l5_42 (1)
              have b_x80 := iB x80
              try (have q_x80 : x80.toInt = l5_42.toInt + (1) := (by omega); clear g_x80 k_x80)
              refine lv_iinc (v := x80) (lv' := [(5, .int x80), (0, .ref (q 12)), (1, .int g9), (2, .int e9), (3, .int n9), (4, .int r27)]) hx hb dX4_makeLevel_80 hl (k := 5) rfl (by rw [e_x80]; rfl) (by decide) rfl (fun ls hl => ?_)
              refine lv_goto (tgt := 42) hx hb dX4_makeLevel_83 (by decide) ?_
              exact ih42 x80 a_s_cells_77 H locs ls (by first | assumption | omega | (intros; omega) | decide) (by first | assumption | omega | (intros; omega) | decide) (by first | assumption | omega | (intros; omega) | decide) (by omega) hP hD hS (lv_sub hl [1, 2, 3, 4, 5, 0] rfl)
        exact J42 ((4000 - (0 : Int32).toInt).toNat + 1) (0 : Int32) a_s_cells_27 H locs ls (by first | assumption | omega | (intros; omega) | decide) (by first | assumption | omega | (intros; omega) | decide) (by first | assumption | omega | (intros; omega) | decide) (by omega) hP hD hS (lv_sub hl [2, 3, 4, 5, 1, 0] rfl)
    · skip
      refine lv_iconst (v := 0) hx hb dX4_makeLevel_14 (by decide) ?_
      subst hAe
      rw [hQ]
      exact W.iret (v := 0) hx hb hr (fun t ht hW => ⟨⟨0, _, rfl, ⟨v_s_things, v_s_arraysMade, v_s_cellsMade, a_s_classes, a_s_starts, a_s_lengths, a_s_cells, rfl, by first | assumption | omega | (intros; omega) | decide⟩, by rw [ht]; exact hP, va_K.moved hW.alike hK, hD⟩, hS.F ht⟩) hS.2.2 dX4_makeLevel_15

def rmX4_makeLevel_q2 : Room := { frames := 100, cells := 0, slots := 0, locals := 2000 }
set_option maxHeartbeats 4000000 in
set_option maxRecDepth 100000 in
theorem tX4_makeLevel_q2 {l : Launch} {D : va_G} {K : Nat → Nat → Nat} {cs : Nat → ClassId} {q : Nat → Nat} {v_t_tapeSize v_t_textSize v_t_faultKind v_g_size v_h_size v_r_takes v_r_negative v_r_namePlace v_r_faultKind v_r_faultPlace v_a_size v_a_limit v_a_digits v_a_kind v_a_from v_a_to v_o_size v_b_size v_b_limit v_b_digits v_b_kind v_b_from v_b_to v_u_marksMade v_u_came v_u_guesses v_u_right v_u_taken v_s_things v_s_looked v_s_lookedTooOften v_s_arraysMade v_s_cellsMade : Int32} {a_t_tape a_t_text a_o_out a_u_outcomes a_u_indexes a_s_classes a_s_starts a_s_lengths a_vc : Nat → Int32} {a_g_beyond a_h_beyond a_r_scratch a_r_now a_u_atom a_u_other a_u_hand : Nat} {a_g_steps a_h_steps a_u_vars a_u_marks : Nat → Option Nat} {a_s_cells a_vd a_sj : Nat → Int64} {a_L : List Nat} {a_K a_iv a_inn : Nat → Nat} {a_si a_ac : Nat → Nat → Int32} (g9 : Int32) (e9 : Int32) (n9 : Int32) (p_0 : RF a_L a_K a_g_beyond a_h_beyond a_r_scratch a_g_steps a_h_steps a_u_atom a_u_other a_u_hand a_u_vars a_u_marks) (p_1 : STO v_s_things v_s_cellsMade a_s_starts a_s_lengths) (p_2 : 1 ≤ e9.toInt) (p_3 : e9.toInt ≤ 3) : CtI l yX4_makeLevel (wG yX4_makeLevel cX4_makeLevel 6 (some .int)) rmX4_makeLevel_q2 D (twT cs) K [.ref (q 12), .int g9, .int e9, .int n9] (tw cs q v_t_tapeSize v_t_textSize v_t_faultKind a_t_tape a_t_text a_g_beyond v_g_size a_g_steps a_h_beyond v_h_size a_h_steps a_r_scratch a_r_now v_r_takes v_r_negative v_r_namePlace v_r_faultKind v_r_faultPlace v_a_size v_a_limit v_a_digits v_a_kind v_a_from v_a_to v_o_size a_o_out v_b_size v_b_limit v_b_digits v_b_kind v_b_from v_b_to a_u_atom a_u_other a_u_hand v_u_marksMade v_u_came v_u_guesses v_u_right v_u_taken a_u_vars a_u_marks a_u_outcomes a_u_indexes v_s_things v_s_looked v_s_lookedTooOften v_s_arraysMade v_s_cellsMade a_s_classes a_s_starts a_s_lengths a_s_cells a_L a_K a_vc a_vd a_si a_sj a_iv a_inn a_ac) (fun r w1 => ∃ (v_s_things' : Int32) (v_s_arraysMade' : Int32) (v_s_cellsMade' : Int32) (a_s_classes' : Nat → Int32) (a_s_starts' : Nat → Int32) (a_s_lengths' : Nat → Int32) (a_s_cells' : Nat → Int64), w1 = (tw cs q v_t_tapeSize v_t_textSize v_t_faultKind a_t_tape a_t_text a_g_beyond v_g_size a_g_steps a_h_beyond v_h_size a_h_steps a_r_scratch a_r_now v_r_takes v_r_negative v_r_namePlace v_r_faultKind v_r_faultPlace v_a_size v_a_limit v_a_digits v_a_kind v_a_from v_a_to v_o_size a_o_out v_b_size v_b_limit v_b_digits v_b_kind v_b_from v_b_to a_u_atom a_u_other a_u_hand v_u_marksMade v_u_came v_u_guesses v_u_right v_u_taken a_u_vars a_u_marks a_u_outcomes a_u_indexes v_s_things' v_s_looked v_s_lookedTooOften v_s_arraysMade' v_s_cellsMade' a_s_classes' a_s_starts' a_s_lengths' a_s_cells' a_L a_K a_vc a_vd a_si a_sj a_iv a_inn a_ac) ∧ (STO v_s_things' v_s_cellsMade' a_s_starts' a_s_lengths')) 0 0 := by
  intro sz
  refine Met.ofW (cc := cX4_makeLevel) (maxL := 6) (ret := (some .int)) (by decide) rfl ?_
  intro p e s m args below meth c s₁ B hml hv
  obtain ⟨rfl, hsz, hP, hK, hD0, hE⟩ := hv
  have hx := B.exec
  have hb := B.bytes
  have hr := B.returns
  have hts := atoms_spec (ws := (wG yX4_makeLevel cX4_makeLevel 6 (some .int))) B.pre
  have hown : s.vm.findClass RX4 = some m.cls := findClass_of_methodNamed B.named
  have hlocks := B.notSynchronized
  subst hsz
  have hD := hD0.self (sz := s.heap.size)
  obtain ⟨A, hAe⟩ : ∃ A : Nat → Prop, A = va_A (tw cs q v_t_tapeSize v_t_textSize v_t_faultKind a_t_tape a_t_text a_g_beyond v_g_size a_g_steps a_h_beyond v_h_size a_h_steps a_r_scratch a_r_now v_r_takes v_r_negative v_r_namePlace v_r_faultKind v_r_faultPlace v_a_size v_a_limit v_a_digits v_a_kind v_a_from v_a_to v_o_size a_o_out v_b_size v_b_limit v_b_digits v_b_kind v_b_from v_b_to a_u_atom a_u_other a_u_hand v_u_marksMade v_u_came v_u_guesses v_u_right v_u_taken a_u_vars a_u_marks a_u_outcomes a_u_indexes v_s_things v_s_looked v_s_lookedTooOften v_s_arraysMade v_s_cellsMade a_s_classes a_s_starts a_s_lengths a_s_cells a_L a_K a_vc a_vd a_si a_sj a_iv a_inn a_ac) s.heap.size := ⟨_, rfl⟩
  rw [← hAe] at hD hE
  have hA : ∀ q : Nat, s.heap.size ≤ q → A q := fun q h => by rw [hAe]; exact Or.inr h
  have hS : va_S A s.heap s.heap [] := va_S.rf
  have hl := lv_entry ([.ref (q 12), .int g9, .int e9, .int n9]) (n := 6) (Nat.le_of_ble_eq_true rfl)
  rw [lg_entry_eq]
  generalize (lg_sl ([.ref (q 12), .int g9, .int e9, .int n9]) ++ List.replicate (6 - (lg_sl ([.ref (q 12), .int g9, .int e9, .int n9])).length) Slot.unset).toArray = ls at hl ⊢
  have hl : lv_has ls 6 [(0, .ref (q 12)), (1, .int g9), (2, .int e9), (3, .int n9)] := hl
  refine wq (fun Q hQ => ?_)
  have hinX4 : ∀ w ∈ wsX40, w ∈ (wG yX4_makeLevel cX4_makeLevel 6 (some .int)) := fun w h => List.mem_cons_of_mem _ (inlX4 w h)
  have kc0 : (0 : Int32).toInt = 0 := by decide
  have kc1 : (1 : Int32).toInt = 1 := by decide
  have k_4_9 := hts (.fieldLink RX4 33 "ArrayTrainer$Runner" "indexes" "[I") (List.mem_cons_of_mem _ (wr4 _ (List.mem_of_getElem? (i := 9) rfl)))
  have k_4_4 := hts (.fieldLink RX4 12 "ArrayTrainer$Runner" "store" "LArrayTrainer$Store;") (List.mem_cons_of_mem _ (wr4 _ (List.mem_of_getElem? (i := 4) rfl)))
  obtain ⟨H, hH⟩ : ∃ H : Heap, H = s.heap := ⟨_, rfl⟩
  obtain ⟨locs, hlc⟩ : ∃ L : List Loc, L = [] := ⟨_, rfl⟩
  have hP : va_P D vwCl (tw cs q v_t_tapeSize v_t_textSize v_t_faultKind a_t_tape a_t_text a_g_beyond v_g_size a_g_steps a_h_beyond v_h_size a_h_steps a_r_scratch a_r_now v_r_takes v_r_negative v_r_namePlace v_r_faultKind v_r_faultPlace v_a_size v_a_limit v_a_digits v_a_kind v_a_from v_a_to v_o_size a_o_out v_b_size v_b_limit v_b_digits v_b_kind v_b_from v_b_to a_u_atom a_u_other a_u_hand v_u_marksMade v_u_came v_u_guesses v_u_right v_u_taken a_u_vars a_u_marks a_u_outcomes a_u_indexes v_s_things v_s_looked v_s_lookedTooOften v_s_arraysMade v_s_cellsMade a_s_classes a_s_starts a_s_lengths a_s_cells a_L a_K a_vc a_vd a_si a_sj a_iv a_inn a_ac) H := by rw [hH]; exact hP
  have hS : va_S A s.heap H locs := by rw [hH, hlc]; exact hS
  refine wHL hH hlc ?_
  have b_g9 := iB g9
  have b_e9 := iB e9
  have b_n9 := iB n9
  refine lv_iload_n hx hb dX4_makeLevel_0 rfl (lv_at hl 2 rfl) ?_
  refine lv_iload_n hx hb dX4_makeLevel_1 rfl (lv_at hl 3 rfl) ?_
  refine m_icmp_ge (X := e9.toInt) (Y := n9.toInt) (tgt := 14) hx hb dX4_makeLevel_2 (by decide) rfl rfl (fun c2 => ?_) (fun c2 => ?_)
  · skip
    refine lv_iconst (v := 0) hx hb dX4_makeLevel_14 (by decide) ?_
    subst hAe
    rw [hQ]
    exact W.iret (v := 0) hx hb hr (fun t ht hW => ⟨⟨0, _, rfl, ⟨v_s_things, v_s_arraysMade, v_s_cellsMade, a_s_classes, a_s_starts, a_s_lengths, a_s_cells, rfl, by first | assumption | omega | (intros; omega) | decide⟩, by rw [ht]; exact hP, va_K.moved hW.alike hK, hD⟩, hS.F ht⟩) hS.2.2 dX4_makeLevel_15
  · skip
    refine lv_iload_n hx hb dX4_makeLevel_5 rfl (lv_at hl 2 rfl) ?_
    refine lv_aload_n hx hb dX4_makeLevel_6 rfl (lv_at hl 0 rfl) ?_
    refine va_get (D := D) (ci := 3) (v := .ref (q 16)) (C := RX4) (T := TX4) (N := 13) hx hb hts hinX4 hown hK hP 12 rfl rfl 4 (by decide) k_4_9 (fun _ h9 => h9) rfl dX4_makeLevel_7 ?_
    refine m_alen hx hb hK hP 16 0 rfl rfl (show 3 < 2147483648 by decide) dX4_makeLevel_10 (fun x10 g_x10 => ?_)
    have g_x10 : x10.toInt = 3 := g_x10
    refine m_icmp_lt (X := e9.toInt) (Y := x10.toInt) (tgt := 16) hx hb dX4_makeLevel_11 (by decide) rfl rfl (fun c11 => ?_) (fun c11 => ?_)
    · skip
      refine lv_aload_n hx hb dX4_makeLevel_16 rfl (lv_at hl 0 rfl) ?_
      refine va_get (D := D) (ci := 3) (v := .ref (q 17)) (C := RX4) (T := TX4) (N := 13) hx hb hts hinX4 hown hK hP 12 rfl rfl 0 (by decide) k_4_4 (fun _ h9 => h9) rfl dX4_makeLevel_17 ?_
      refine lv_iload_n hx hb dX4_makeLevel_20 rfl (lv_at hl 1 rfl) ?_
      refine lv_aload_n hx hb dX4_makeLevel_21 rfl (lv_at hl 0 rfl) ?_
      refine va_get (D := D) (ci := 3) (v := .ref (q 16)) (C := RX4) (T := TX4) (N := 13) hx hb hts hinX4 hown hK hP 12 rfl rfl 4 (by decide) k_4_9 (fun _ h9 => h9) rfl dX4_makeLevel_22 ?_
      refine lv_iload_n hx hb dX4_makeLevel_25 rfl (lv_at hl 2 rfl) ?_
      refine m_iald hx hb hK hP 16 0 rfl rfl (ix (by omega) (by omega)) dX4_makeLevel_26 (fun x26 e_x26 => ?_)
      have b_x26 := iB x26
      refine call_i (As := [.int g9, .int x26]) (rest := []) ⟨hx, hb, hml, hown, hts⟩ (tX7_makeArray (l := l) g9 x26 (by first | assumption | omega | (intros; omega) | decide)) (cwV 2 hts (gV (wr41 _ (List.mem_of_getElem? (i := 15) rfl)) (wr41 _ (List.mem_of_getElem? (i := 16) rfl)) (wr41 _ (List.mem_of_getElem? (i := 17) rfl)) (wr4 _ (List.mem_of_getElem? (i := 3) rfl)) (wr41 _ (List.mem_of_getElem? (i := 18) rfl))) rfl rfl rfl (by decide +kernel) ⟨Nat.le_of_ble_eq_true rfl, Nat.le_of_ble_eq_true rfl⟩) (va_recv hK hP (ci := 6) (q0 := 17) rfl rfl) hK hP hD hE hS hA rfl hl.1 rfl (Nat.le_of_ble_eq_true rfl) dX4_makeLevel_27 ⟨Nat.le_of_ble_eq_true rfl, Nat.le_of_ble_eq_true rfl⟩ (fun r27 w9 H locs hw27 hP hD hS => ?_)
      obtain ⟨v_s_things_27, v_s_arraysMade_27, v_s_cellsMade_27, a_s_classes_27, a_s_starts_27, a_s_lengths_27, a_s_cells_27, rfl, hw27_0, hw27_1, hw27_2, hw27_3⟩ := hw27
      have b_v_s_things_27 := iB v_s_things_27
      have b_v_s_arraysMade_27 := iB v_s_arraysMade_27
      have b_v_s_cellsMade_27 := iB v_s_cellsMade_27
      have b_r27 := iB r27
      refine lv_istore (lv' := [(4, .int r27), (0, .ref (q 12)), (1, .int g9), (2, .int e9), (3, .int n9)]) hx hb dX4_makeLevel_30 hl (by decide) rfl (fun ls hl => ?_)
      refine lv_iload_n hx hb dX4_makeLevel_32 rfl (lv_at hl 3 rfl) ?_
      refine lv_iconst (v := 1) hx hb dX4_makeLevel_33 (by decide) ?_
      refine m_iadd (X := e9.toInt) (Y := 1) hx hb dX4_makeLevel_34 rfl (by decide) (fun x34 e_x34 g9 => ?_)
      obtain ⟨k_x34, g_x34⟩ := g9
      have b_x34 := iB x34
      try (have q_x34 : x34.toInt = e9.toInt + 1 := (by omega); clear g_x34 k_x34)
      refine lv_iload_n hx hb dX4_makeLevel_35 rfl (lv_at hl 4 rfl) ?_
      refine m_icmp_ge (X := x34.toInt) (Y := n9.toInt) (tgt := 86) hx hb dX4_makeLevel_36 (by decide) rfl rfl (fun c36 => ?_) (fun c36 => ?_)
      · skip
        refine lv_iload hx hb dX4_makeLevel_86 (lv_at hl 0 rfl) ?_
        subst hAe
        rw [hQ]
        exact W.iret (v := r27) hx hb hr (fun t ht hW => ⟨⟨r27, _, rfl, ⟨v_s_things_27, v_s_arraysMade_27, v_s_cellsMade_27, a_s_classes_27, a_s_starts_27, a_s_lengths_27, a_s_cells_27, rfl, by first | assumption | omega | (intros; omega) | decide⟩, by rw [ht]; exact hP, va_K.moved hW.alike hK, hD⟩, hS.F ht⟩) hS.2.2 dX4_makeLevel_88
      · skip
        refine lv_iconst (v := 0) hx hb dX4_makeLevel_39 (by decide) ?_
        refine lv_istore (lv' := [(5, .int 0), (4, .int r27), (0, .ref (q 12)), (1, .int g9), (2, .int e9), (3, .int n9)]) hx hb dX4_makeLevel_40 hl (by decide) rfl (fun ls hl => ?_)
        have J42 : ∀ (n42 : Nat) (l5_42 : Int32) (v_s_arraysMade_42 : Int32) (a_s_cells_42 : Nat → Int64) (v_s_cellsMade_42 : Int32) (a_s_classes_42 : Nat → Int32) (a_s_lengths_42 : Nat → Int32) (a_s_starts_42 : Nat → Int32) (v_s_things_42 : Int32) (H : Heap) (locs : List Loc) (ls : Array Slot), (0 ≤ l5_42.toInt) → (l5_42.toInt ≤ 4000) → (STO v_s_things_42 v_s_cellsMade_42 a_s_starts_42 a_s_lengths_42) → (4000 - l5_42.toInt < (n42 : Int)) → va_P D vwCl (tw cs q v_t_tapeSize v_t_textSize v_t_faultKind a_t_tape a_t_text a_g_beyond v_g_size a_g_steps a_h_beyond v_h_size a_h_steps a_r_scratch a_r_now v_r_takes v_r_negative v_r_namePlace v_r_faultKind v_r_faultPlace v_a_size v_a_limit v_a_digits v_a_kind v_a_from v_a_to v_o_size a_o_out v_b_size v_b_limit v_b_digits v_b_kind v_b_from v_b_to a_u_atom a_u_other a_u_hand v_u_marksMade v_u_came v_u_guesses v_u_right v_u_taken a_u_vars a_u_marks a_u_outcomes a_u_indexes v_s_things_42 v_s_looked v_s_lookedTooOften v_s_arraysMade_42 v_s_cellsMade_42 a_s_classes_42 a_s_starts_42 a_s_lengths_42 a_s_cells_42 a_L a_K a_vc a_vd a_si a_sj a_iv a_inn a_ac) H → va_D A (tw cs q v_t_tapeSize v_t_textSize v_t_faultKind a_t_tape a_t_text a_g_beyond v_g_size a_g_steps a_h_beyond v_h_size a_h_steps a_r_scratch a_r_now v_r_takes v_r_negative v_r_namePlace v_r_faultKind v_r_faultPlace v_a_size v_a_limit v_a_digits v_a_kind v_a_from v_a_to v_o_size a_o_out v_b_size v_b_limit v_b_digits v_b_kind v_b_from v_b_to a_u_atom a_u_other a_u_hand v_u_marksMade v_u_came v_u_guesses v_u_right v_u_taken a_u_vars a_u_marks a_u_outcomes a_u_indexes v_s_things_42 v_s_looked v_s_lookedTooOften v_s_arraysMade_42 v_s_cellsMade_42 a_s_classes_42 a_s_starts_42 a_s_lengths_42 a_s_cells_42 a_L a_K a_vc a_vd a_si a_sj a_iv a_inn a_ac) → va_S A s.heap H locs → lv_has ls 6 [(0, .ref (q 12)), (1, .int g9), (2, .int e9), (3, .int n9), (4, .int r27), (5, .int l5_42)] → W p l e (headSpec (wG yX4_makeLevel cX4_makeLevel 6 (some .int)) rmX4_makeLevel_q2).room s m ([.ref (q 12), .int g9, .int e9, .int n9] : List Value).toArray below meth c H locs 0 0 Q (F0 m 42 ls []) := by
          intro n42
          induction n42 with
          | zero =>
            intro l5_42 v_s_arraysMade_42 a_s_cells_42 v_s_cellsMade_42 a_s_classes_42 a_s_lengths_42 a_s_starts_42 v_s_things_42 H locs ls f42_0 f42_1 f42_2 hm42
            exfalso
            omega
          | succ n42 ih42 =>
            intro l5_42 v_s_arraysMade_42 a_s_cells_42 v_s_cellsMade_42 a_s_classes_42 a_s_lengths_42 a_s_starts_42 v_s_things_42 H locs ls f42_0 f42_1 f42_2 hm42 hP hD hS hl
            refine lv_iload hx hb dX4_makeLevel_42 (lv_at hl 5 rfl) ?_
            refine lv_aload_n hx hb dX4_makeLevel_44 rfl (lv_at hl 0 rfl) ?_
            refine va_get (D := D) (ci := 3) (v := .ref (q 17)) (C := RX4) (T := TX4) (N := 13) hx hb hts hinX4 hown hK hP 12 rfl rfl 0 (by decide) k_4_4 (fun _ h9 => h9) rfl dX4_makeLevel_45 ?_
            refine lv_iload hx hb dX4_makeLevel_48 (lv_at hl 4 rfl) ?_
            refine call_i (As := [.int r27]) (rest := [.int l5_42]) ⟨hx, hb, hml, hown, hts⟩ (tX7_lengthOf (l := l) r27 (by first | assumption | omega | (intros; omega) | decide)) (cwV 1 hts (gV (wr41 _ (List.mem_of_getElem? (i := 19) rfl)) (wr41 _ (List.mem_of_getElem? (i := 20) rfl)) (wr41 _ (List.mem_of_getElem? (i := 21) rfl)) (wr4 _ (List.mem_of_getElem? (i := 3) rfl)) (wr41 _ (List.mem_of_getElem? (i := 22) rfl))) rfl rfl rfl (by decide +kernel) ⟨Nat.le_of_ble_eq_true rfl, Nat.le_of_ble_eq_true rfl⟩) (va_recv hK hP (ci := 6) (q0 := 17) rfl rfl) hK hP hD hE hS hA rfl hl.1 rfl (Nat.le_of_ble_eq_true rfl) dX4_makeLevel_50 ⟨Nat.le_of_ble_eq_true rfl, Nat.le_of_ble_eq_true rfl⟩ (fun r50 w9 H locs hw50 hP hD hS => ?_)
            obtain ⟨rfl, hw50_0, hw50_1, hw50_2⟩ := hw50
            have b_r50 := iB r50
            refine m_icmp_ge (X := l5_42.toInt) (Y := r50.toInt) (tgt := 86) hx hb dX4_makeLevel_53 (by decide) rfl rfl (fun c53 => ?_) (fun c53 => ?_)
            · skip
              refine lv_iload hx hb dX4_makeLevel_86 (lv_at hl 4 rfl) ?_
              subst hAe
              rw [hQ]
              exact W.iret (v := r27) hx hb hr (fun t ht hW => ⟨⟨r27, _, rfl, ⟨v_s_things_42, v_s_arraysMade_42, v_s_cellsMade_42, a_s_classes_42, a_s_starts_42, a_s_lengths_42, a_s_cells_42, rfl, by first | assumption | omega | (intros; omega) | decide⟩, by rw [ht]; exact hP, va_K.moved hW.alike hK, hD⟩, hS.F ht⟩) hS.2.2 dX4_makeLevel_88
            · skip
              refine lv_aload_n hx hb dX4_makeLevel_56 rfl (lv_at hl 0 rfl) ?_
              refine va_get (D := D) (ci := 3) (v := .ref (q 17)) (C := RX4) (T := TX4) (N := 13) hx hb hts hinX4 hown hK hP 12 rfl rfl 0 (by decide) k_4_4 (fun _ h9 => h9) rfl dX4_makeLevel_57 ?_
              refine lv_iload hx hb dX4_makeLevel_60 (lv_at hl 4 rfl) ?_
              refine lv_iload hx hb dX4_makeLevel_62 (lv_at hl 5 rfl) ?_
              refine lv_aload_n hx hb dX4_makeLevel_64 rfl (lv_at hl 0 rfl) ?_
              refine lv_iload_n hx hb dX4_makeLevel_65 rfl (lv_at hl 1 rfl) ?_
              refine call_iSP (As := [.int g9]) (rest := [.ref (q 12), .int l5_42, .int r27, .ref (q 17)]) ⟨hx, hb, hml, hown, hts⟩ (tX0_elementsOf (l := l) g9) (va_cwS 1 hts (gS (wr39 _ (List.mem_of_getElem? (i := 13) rfl)) (wr39 _ (List.mem_of_getElem? (i := 14) rfl)) (wr19 _ (List.mem_of_getElem? (i := 5) rfl)) (wr39 _ (List.mem_of_getElem? (i := 15) rfl))) rfl rfl rfl (by decide +kernel) ⟨Nat.le_of_ble_eq_true rfl, Nat.le_of_ble_eq_true rfl⟩) (hK.sub [] rfl) hP hD hE hS hA rfl hl.1 rfl (Nat.le_of_ble_eq_true rfl) dX4_makeLevel_66 ⟨Nat.le_of_ble_eq_true rfl, Nat.le_of_ble_eq_true rfl⟩ (fun r66 w9 H locs hw66 hP hD hS => ?_)
              obtain ⟨rfl, hw66_0⟩ := hw66
              have b_r66 := iB r66
              refine lv_iload_n hx hb dX4_makeLevel_69 rfl (lv_at hl 2 rfl) ?_
              refine lv_iconst (v := 1) hx hb dX4_makeLevel_70 (by decide) ?_
              refine m_iadd (X := e9.toInt) (Y := 1) hx hb dX4_makeLevel_71 rfl (by decide) (fun x71 e_x71 g9 => ?_)
              obtain ⟨k_x71, g_x71⟩ := g9
              have b_x71 := iB x71
              try (have q_x71 : x71.toInt = e9.toInt + 1 := (by omega); clear g_x71 k_x71)
              refine lv_iload_n hx hb dX4_makeLevel_72 rfl (lv_at hl 3 rfl) ?_
              refine call_i (As := [.int r66, .int x71, .int n9]) (rest := [.int l5_42, .int r27, .ref (q 17)]) ⟨hx, hb, hml, hown, hts⟩ (tX4_makeLevel_q1 (l := l) r66 x71 n9 (by first | assumption | omega | (intros; omega) | decide) (by first | assumption | omega | (intros; omega) | decide) (by first | assumption | omega | (intros; omega) | decide) (by first | assumption | omega | (intros; omega) | decide)) (cwV 3 hts (gV (wr41 _ (List.mem_of_getElem? (i := 11) rfl)) (wr41 _ (List.mem_of_getElem? (i := 12) rfl)) (wr41 _ (List.mem_of_getElem? (i := 13) rfl)) (wr2 _ (List.mem_of_getElem? (i := 10) rfl)) (wr41 _ (List.mem_of_getElem? (i := 14) rfl))) rfl rfl rfl (by decide +kernel) ⟨Nat.le_of_ble_eq_true rfl, Nat.le_of_ble_eq_true rfl⟩) (va_recv hK hP (ci := 3) (q0 := 12) rfl rfl) hK hP hD hE hS hA rfl hl.1 rfl (Nat.le_of_ble_eq_true rfl) dX4_makeLevel_73 ⟨Nat.le_of_ble_eq_true rfl, Nat.le_of_ble_eq_true rfl⟩ (fun r73 w9 H locs hw73 hP hD hS => ?_)
              obtain ⟨v_s_things_73, v_s_arraysMade_73, v_s_cellsMade_73, a_s_classes_73, a_s_starts_73, a_s_lengths_73, a_s_cells_73, rfl, hw73_0⟩ := hw73
              have b_v_s_things_73 := iB v_s_things_73
              have b_v_s_arraysMade_73 := iB v_s_arraysMade_73
              have b_v_s_cellsMade_73 := iB v_s_cellsMade_73
              have b_r73 := iB r73
              refine m_i2l (X := r73.toInt) hx hb dX4_makeLevel_76 rfl (fun x76 e_x76 g_x76 => ?_)
              refine call_v (As := [.int r27, .int l5_42, .long x76]) (rest := []) ⟨hx, hb, hml, hown, hts⟩ (tX7_write (l := l) r27 l5_42 x76 (by first | assumption | omega | (intros; omega) | decide)) (cwV 3 hts (gV (wr40 _ (List.mem_of_getElem? (i := 22) rfl)) (wr40 _ (List.mem_of_getElem? (i := 23) rfl)) (wr41 _ (List.mem_of_getElem? (i := 0) rfl)) (wr4 _ (List.mem_of_getElem? (i := 3) rfl)) (wr41 _ (List.mem_of_getElem? (i := 1) rfl))) rfl rfl rfl (by decide +kernel) ⟨Nat.le_of_ble_eq_true rfl, Nat.le_of_ble_eq_true rfl⟩) (va_recv hK hP (ci := 6) (q0 := 17) rfl rfl) hK hP hD hE hS hA rfl hl.1 rfl (Nat.le_of_ble_eq_true rfl) dX4_makeLevel_77 ⟨Nat.le_of_ble_eq_true rfl, Nat.le_of_ble_eq_true rfl⟩ (fun w9 H locs hw77 hP hD hS => ?_)
              obtain ⟨a_s_cells_77, rfl⟩ := hw77
              obtain ⟨x80, e_x80⟩ : ∃ z : Int32, z = l5_42 + (1 : Int32) := ⟨_, rfl⟩
              obtain ⟨k_x80, g_x80⟩ : ∃ k : Int, x80.toInt = l5_42.toInt + (1) + k * 4294967296 := by rw [e_x80]; exact iAdd l5_42 (1)
              have b_x80 := iB x80
              try (have q_x80 : x80.toInt = l5_42.toInt + (1) := (by omega); clear g_x80 k_x80)
              refine lv_iinc (v := x80) (lv' := [(5, .int x80), (0, .ref (q 12)), (1, .int g9), (2, .int e9), (3, .int n9), (4, .int r27)]) hx hb dX4_makeLevel_80 hl (k := 5) rfl (by rw [e_x80]; rfl) (by decide) rfl (fun ls hl => ?_)
              refine lv_goto (tgt := 42) hx hb dX4_makeLevel_83 (by decide) ?_
              exact ih42 x80 v_s_arraysMade_73 a_s_cells_77 v_s_cellsMade_73 a_s_classes_73 a_s_lengths_73 a_s_starts_73 v_s_things_73 H locs ls (by first | assumption | omega | (intros; omega) | decide) (by first | assumption | omega | (intros; omega) | decide) (by first | assumption | omega | (intros; omega) | decide) (by omega) hP hD hS (lv_sub hl [1, 2, 3, 4, 5, 0] rfl)
        exact J42 ((4000 - (0 : Int32).toInt).toNat + 1) (0 : Int32) v_s_arraysMade_27 a_s_cells_27 v_s_cellsMade_27 a_s_classes_27 a_s_lengths_27 a_s_starts_27 v_s_things_27 H locs ls (by first | assumption | omega | (intros; omega) | decide) (by first | assumption | omega | (intros; omega) | decide) (by first | assumption | omega | (intros; omega) | decide) (by omega) hP hD hS (lv_sub hl [2, 3, 4, 5, 1, 0] rfl)
    · skip
      refine lv_iconst (v := 0) hx hb dX4_makeLevel_14 (by decide) ?_
      subst hAe
      rw [hQ]
      exact W.iret (v := 0) hx hb hr (fun t ht hW => ⟨⟨0, _, rfl, ⟨v_s_things, v_s_arraysMade, v_s_cellsMade, a_s_classes, a_s_starts, a_s_lengths, a_s_cells, rfl, by first | assumption | omega | (intros; omega) | decide⟩, by rw [ht]; exact hP, va_K.moved hW.alike hK, hD⟩, hS.F ht⟩) hS.2.2 dX4_makeLevel_15

def rmX4_makeLevel_q3 : Room := { frames := 120, cells := 0, slots := 0, locals := 2400 }
set_option maxHeartbeats 4000000 in
set_option maxRecDepth 100000 in
theorem tX4_makeLevel_q3 {l : Launch} {D : va_G} {K : Nat → Nat → Nat} {cs : Nat → ClassId} {q : Nat → Nat} {v_t_tapeSize v_t_textSize v_t_faultKind v_g_size v_h_size v_r_takes v_r_negative v_r_namePlace v_r_faultKind v_r_faultPlace v_a_size v_a_limit v_a_digits v_a_kind v_a_from v_a_to v_o_size v_b_size v_b_limit v_b_digits v_b_kind v_b_from v_b_to v_u_marksMade v_u_came v_u_guesses v_u_right v_u_taken v_s_things v_s_looked v_s_lookedTooOften v_s_arraysMade v_s_cellsMade : Int32} {a_t_tape a_t_text a_o_out a_u_outcomes a_u_indexes a_s_classes a_s_starts a_s_lengths a_vc : Nat → Int32} {a_g_beyond a_h_beyond a_r_scratch a_r_now a_u_atom a_u_other a_u_hand : Nat} {a_g_steps a_h_steps a_u_vars a_u_marks : Nat → Option Nat} {a_s_cells a_vd a_sj : Nat → Int64} {a_L : List Nat} {a_K a_iv a_inn : Nat → Nat} {a_si a_ac : Nat → Nat → Int32} (g9 : Int32) (e9 : Int32) (n9 : Int32) (p_0 : RF a_L a_K a_g_beyond a_h_beyond a_r_scratch a_g_steps a_h_steps a_u_atom a_u_other a_u_hand a_u_vars a_u_marks) (p_1 : STO v_s_things v_s_cellsMade a_s_starts a_s_lengths) (p_2 : 0 ≤ e9.toInt) (p_3 : e9.toInt ≤ 3) : CtI l yX4_makeLevel (wG yX4_makeLevel cX4_makeLevel 6 (some .int)) rmX4_makeLevel_q3 D (twT cs) K [.ref (q 12), .int g9, .int e9, .int n9] (tw cs q v_t_tapeSize v_t_textSize v_t_faultKind a_t_tape a_t_text a_g_beyond v_g_size a_g_steps a_h_beyond v_h_size a_h_steps a_r_scratch a_r_now v_r_takes v_r_negative v_r_namePlace v_r_faultKind v_r_faultPlace v_a_size v_a_limit v_a_digits v_a_kind v_a_from v_a_to v_o_size a_o_out v_b_size v_b_limit v_b_digits v_b_kind v_b_from v_b_to a_u_atom a_u_other a_u_hand v_u_marksMade v_u_came v_u_guesses v_u_right v_u_taken a_u_vars a_u_marks a_u_outcomes a_u_indexes v_s_things v_s_looked v_s_lookedTooOften v_s_arraysMade v_s_cellsMade a_s_classes a_s_starts a_s_lengths a_s_cells a_L a_K a_vc a_vd a_si a_sj a_iv a_inn a_ac) (fun r w1 => ∃ (v_s_things' : Int32) (v_s_arraysMade' : Int32) (v_s_cellsMade' : Int32) (a_s_classes' : Nat → Int32) (a_s_starts' : Nat → Int32) (a_s_lengths' : Nat → Int32) (a_s_cells' : Nat → Int64), w1 = (tw cs q v_t_tapeSize v_t_textSize v_t_faultKind a_t_tape a_t_text a_g_beyond v_g_size a_g_steps a_h_beyond v_h_size a_h_steps a_r_scratch a_r_now v_r_takes v_r_negative v_r_namePlace v_r_faultKind v_r_faultPlace v_a_size v_a_limit v_a_digits v_a_kind v_a_from v_a_to v_o_size a_o_out v_b_size v_b_limit v_b_digits v_b_kind v_b_from v_b_to a_u_atom a_u_other a_u_hand v_u_marksMade v_u_came v_u_guesses v_u_right v_u_taken a_u_vars a_u_marks a_u_outcomes a_u_indexes v_s_things' v_s_looked v_s_lookedTooOften v_s_arraysMade' v_s_cellsMade' a_s_classes' a_s_starts' a_s_lengths' a_s_cells' a_L a_K a_vc a_vd a_si a_sj a_iv a_inn a_ac) ∧ (STO v_s_things' v_s_cellsMade' a_s_starts' a_s_lengths')) 0 0 := by
  intro sz
  refine Met.ofW (cc := cX4_makeLevel) (maxL := 6) (ret := (some .int)) (by decide) rfl ?_
  intro p e s m args below meth c s₁ B hml hv
  obtain ⟨rfl, hsz, hP, hK, hD0, hE⟩ := hv
  have hx := B.exec
  have hb := B.bytes
  have hr := B.returns
  have hts := atoms_spec (ws := (wG yX4_makeLevel cX4_makeLevel 6 (some .int))) B.pre
  have hown : s.vm.findClass RX4 = some m.cls := findClass_of_methodNamed B.named
  have hlocks := B.notSynchronized
  subst hsz
  have hD := hD0.self (sz := s.heap.size)
  obtain ⟨A, hAe⟩ : ∃ A : Nat → Prop, A = va_A (tw cs q v_t_tapeSize v_t_textSize v_t_faultKind a_t_tape a_t_text a_g_beyond v_g_size a_g_steps a_h_beyond v_h_size a_h_steps a_r_scratch a_r_now v_r_takes v_r_negative v_r_namePlace v_r_faultKind v_r_faultPlace v_a_size v_a_limit v_a_digits v_a_kind v_a_from v_a_to v_o_size a_o_out v_b_size v_b_limit v_b_digits v_b_kind v_b_from v_b_to a_u_atom a_u_other a_u_hand v_u_marksMade v_u_came v_u_guesses v_u_right v_u_taken a_u_vars a_u_marks a_u_outcomes a_u_indexes v_s_things v_s_looked v_s_lookedTooOften v_s_arraysMade v_s_cellsMade a_s_classes a_s_starts a_s_lengths a_s_cells a_L a_K a_vc a_vd a_si a_sj a_iv a_inn a_ac) s.heap.size := ⟨_, rfl⟩
  rw [← hAe] at hD hE
  have hA : ∀ q : Nat, s.heap.size ≤ q → A q := fun q h => by rw [hAe]; exact Or.inr h
  have hS : va_S A s.heap s.heap [] := va_S.rf
  have hl := lv_entry ([.ref (q 12), .int g9, .int e9, .int n9]) (n := 6) (Nat.le_of_ble_eq_true rfl)
  rw [lg_entry_eq]
  generalize (lg_sl ([.ref (q 12), .int g9, .int e9, .int n9]) ++ List.replicate (6 - (lg_sl ([.ref (q 12), .int g9, .int e9, .int n9])).length) Slot.unset).toArray = ls at hl ⊢
  have hl : lv_has ls 6 [(0, .ref (q 12)), (1, .int g9), (2, .int e9), (3, .int n9)] := hl
  refine wq (fun Q hQ => ?_)
  have hinX4 : ∀ w ∈ wsX40, w ∈ (wG yX4_makeLevel cX4_makeLevel 6 (some .int)) := fun w h => List.mem_cons_of_mem _ (inlX4 w h)
  have kc0 : (0 : Int32).toInt = 0 := by decide
  have kc1 : (1 : Int32).toInt = 1 := by decide
  have k_4_9 := hts (.fieldLink RX4 33 "ArrayTrainer$Runner" "indexes" "[I") (List.mem_cons_of_mem _ (wr4 _ (List.mem_of_getElem? (i := 9) rfl)))
  have k_4_4 := hts (.fieldLink RX4 12 "ArrayTrainer$Runner" "store" "LArrayTrainer$Store;") (List.mem_cons_of_mem _ (wr4 _ (List.mem_of_getElem? (i := 4) rfl)))
  obtain ⟨H, hH⟩ : ∃ H : Heap, H = s.heap := ⟨_, rfl⟩
  obtain ⟨locs, hlc⟩ : ∃ L : List Loc, L = [] := ⟨_, rfl⟩
  have hP : va_P D vwCl (tw cs q v_t_tapeSize v_t_textSize v_t_faultKind a_t_tape a_t_text a_g_beyond v_g_size a_g_steps a_h_beyond v_h_size a_h_steps a_r_scratch a_r_now v_r_takes v_r_negative v_r_namePlace v_r_faultKind v_r_faultPlace v_a_size v_a_limit v_a_digits v_a_kind v_a_from v_a_to v_o_size a_o_out v_b_size v_b_limit v_b_digits v_b_kind v_b_from v_b_to a_u_atom a_u_other a_u_hand v_u_marksMade v_u_came v_u_guesses v_u_right v_u_taken a_u_vars a_u_marks a_u_outcomes a_u_indexes v_s_things v_s_looked v_s_lookedTooOften v_s_arraysMade v_s_cellsMade a_s_classes a_s_starts a_s_lengths a_s_cells a_L a_K a_vc a_vd a_si a_sj a_iv a_inn a_ac) H := by rw [hH]; exact hP
  have hS : va_S A s.heap H locs := by rw [hH, hlc]; exact hS
  refine wHL hH hlc ?_
  have b_g9 := iB g9
  have b_e9 := iB e9
  have b_n9 := iB n9
  refine lv_iload_n hx hb dX4_makeLevel_0 rfl (lv_at hl 2 rfl) ?_
  refine lv_iload_n hx hb dX4_makeLevel_1 rfl (lv_at hl 3 rfl) ?_
  refine m_icmp_ge (X := e9.toInt) (Y := n9.toInt) (tgt := 14) hx hb dX4_makeLevel_2 (by decide) rfl rfl (fun c2 => ?_) (fun c2 => ?_)
  · skip
    refine lv_iconst (v := 0) hx hb dX4_makeLevel_14 (by decide) ?_
    subst hAe
    rw [hQ]
    exact W.iret (v := 0) hx hb hr (fun t ht hW => ⟨⟨0, _, rfl, ⟨v_s_things, v_s_arraysMade, v_s_cellsMade, a_s_classes, a_s_starts, a_s_lengths, a_s_cells, rfl, by first | assumption | omega | (intros; omega) | decide⟩, by rw [ht]; exact hP, va_K.moved hW.alike hK, hD⟩, hS.F ht⟩) hS.2.2 dX4_makeLevel_15
  · skip
    refine lv_iload_n hx hb dX4_makeLevel_5 rfl (lv_at hl 2 rfl) ?_
    refine lv_aload_n hx hb dX4_makeLevel_6 rfl (lv_at hl 0 rfl) ?_
    refine va_get (D := D) (ci := 3) (v := .ref (q 16)) (C := RX4) (T := TX4) (N := 13) hx hb hts hinX4 hown hK hP 12 rfl rfl 4 (by decide) k_4_9 (fun _ h9 => h9) rfl dX4_makeLevel_7 ?_
    refine m_alen hx hb hK hP 16 0 rfl rfl (show 3 < 2147483648 by decide) dX4_makeLevel_10 (fun x10 g_x10 => ?_)
    have g_x10 : x10.toInt = 3 := g_x10
    refine m_icmp_lt (X := e9.toInt) (Y := x10.toInt) (tgt := 16) hx hb dX4_makeLevel_11 (by decide) rfl rfl (fun c11 => ?_) (fun c11 => ?_)
    · skip
      refine lv_aload_n hx hb dX4_makeLevel_16 rfl (lv_at hl 0 rfl) ?_
      refine va_get (D := D) (ci := 3) (v := .ref (q 17)) (C := RX4) (T := TX4) (N := 13) hx hb hts hinX4 hown hK hP 12 rfl rfl 0 (by decide) k_4_4 (fun _ h9 => h9) rfl dX4_makeLevel_17 ?_
      refine lv_iload_n hx hb dX4_makeLevel_20 rfl (lv_at hl 1 rfl) ?_
      refine lv_aload_n hx hb dX4_makeLevel_21 rfl (lv_at hl 0 rfl) ?_
      refine va_get (D := D) (ci := 3) (v := .ref (q 16)) (C := RX4) (T := TX4) (N := 13) hx hb hts hinX4 hown hK hP 12 rfl rfl 4 (by decide) k_4_9 (fun _ h9 => h9) rfl dX4_makeLevel_22 ?_
      refine lv_iload_n hx hb dX4_makeLevel_25 rfl (lv_at hl 2 rfl) ?_
      refine m_iald hx hb hK hP 16 0 rfl rfl (ix (by omega) (by omega)) dX4_makeLevel_26 (fun x26 e_x26 => ?_)
      have b_x26 := iB x26
      refine call_i (As := [.int g9, .int x26]) (rest := []) ⟨hx, hb, hml, hown, hts⟩ (tX7_makeArray (l := l) g9 x26 (by first | assumption | omega | (intros; omega) | decide)) (cwV 2 hts (gV (wr41 _ (List.mem_of_getElem? (i := 15) rfl)) (wr41 _ (List.mem_of_getElem? (i := 16) rfl)) (wr41 _ (List.mem_of_getElem? (i := 17) rfl)) (wr4 _ (List.mem_of_getElem? (i := 3) rfl)) (wr41 _ (List.mem_of_getElem? (i := 18) rfl))) rfl rfl rfl (by decide +kernel) ⟨Nat.le_of_ble_eq_true rfl, Nat.le_of_ble_eq_true rfl⟩) (va_recv hK hP (ci := 6) (q0 := 17) rfl rfl) hK hP hD hE hS hA rfl hl.1 rfl (Nat.le_of_ble_eq_true rfl) dX4_makeLevel_27 ⟨Nat.le_of_ble_eq_true rfl, Nat.le_of_ble_eq_true rfl⟩ (fun r27 w9 H locs hw27 hP hD hS => ?_)
      obtain ⟨v_s_things_27, v_s_arraysMade_27, v_s_cellsMade_27, a_s_classes_27, a_s_starts_27, a_s_lengths_27, a_s_cells_27, rfl, hw27_0, hw27_1, hw27_2, hw27_3⟩ := hw27
      have b_v_s_things_27 := iB v_s_things_27
      have b_v_s_arraysMade_27 := iB v_s_arraysMade_27
      have b_v_s_cellsMade_27 := iB v_s_cellsMade_27
      have b_r27 := iB r27
      refine lv_istore (lv' := [(4, .int r27), (0, .ref (q 12)), (1, .int g9), (2, .int e9), (3, .int n9)]) hx hb dX4_makeLevel_30 hl (by decide) rfl (fun ls hl => ?_)
      refine lv_iload_n hx hb dX4_makeLevel_32 rfl (lv_at hl 3 rfl) ?_
      refine lv_iconst (v := 1) hx hb dX4_makeLevel_33 (by decide) ?_
      refine m_iadd (X := e9.toInt) (Y := 1) hx hb dX4_makeLevel_34 rfl (by decide) (fun x34 e_x34 g9 => ?_)
      obtain ⟨k_x34, g_x34⟩ := g9
      have b_x34 := iB x34
      try (have q_x34 : x34.toInt = e9.toInt + 1 := (by omega); clear g_x34 k_x34)
      refine lv_iload_n hx hb dX4_makeLevel_35 rfl (lv_at hl 4 rfl) ?_
      refine m_icmp_ge (X := x34.toInt) (Y := n9.toInt) (tgt := 86) hx hb dX4_makeLevel_36 (by decide) rfl rfl (fun c36 => ?_) (fun c36 => ?_)
      · skip
        refine lv_iload hx hb dX4_makeLevel_86 (lv_at hl 0 rfl) ?_
        subst hAe
        rw [hQ]
        exact W.iret (v := r27) hx hb hr (fun t ht hW => ⟨⟨r27, _, rfl, ⟨v_s_things_27, v_s_arraysMade_27, v_s_cellsMade_27, a_s_classes_27, a_s_starts_27, a_s_lengths_27, a_s_cells_27, rfl, by first | assumption | omega | (intros; omega) | decide⟩, by rw [ht]; exact hP, va_K.moved hW.alike hK, hD⟩, hS.F ht⟩) hS.2.2 dX4_makeLevel_88
      · skip
        refine lv_iconst (v := 0) hx hb dX4_makeLevel_39 (by decide) ?_
        refine lv_istore (lv' := [(5, .int 0), (4, .int r27), (0, .ref (q 12)), (1, .int g9), (2, .int e9), (3, .int n9)]) hx hb dX4_makeLevel_40 hl (by decide) rfl (fun ls hl => ?_)
        have J42 : ∀ (n42 : Nat) (l5_42 : Int32) (v_s_arraysMade_42 : Int32) (a_s_cells_42 : Nat → Int64) (v_s_cellsMade_42 : Int32) (a_s_classes_42 : Nat → Int32) (a_s_lengths_42 : Nat → Int32) (a_s_starts_42 : Nat → Int32) (v_s_things_42 : Int32) (H : Heap) (locs : List Loc) (ls : Array Slot), (0 ≤ l5_42.toInt) → (l5_42.toInt ≤ 4000) → (STO v_s_things_42 v_s_cellsMade_42 a_s_starts_42 a_s_lengths_42) → (4000 - l5_42.toInt < (n42 : Int)) → va_P D vwCl (tw cs q v_t_tapeSize v_t_textSize v_t_faultKind a_t_tape a_t_text a_g_beyond v_g_size a_g_steps a_h_beyond v_h_size a_h_steps a_r_scratch a_r_now v_r_takes v_r_negative v_r_namePlace v_r_faultKind v_r_faultPlace v_a_size v_a_limit v_a_digits v_a_kind v_a_from v_a_to v_o_size a_o_out v_b_size v_b_limit v_b_digits v_b_kind v_b_from v_b_to a_u_atom a_u_other a_u_hand v_u_marksMade v_u_came v_u_guesses v_u_right v_u_taken a_u_vars a_u_marks a_u_outcomes a_u_indexes v_s_things_42 v_s_looked v_s_lookedTooOften v_s_arraysMade_42 v_s_cellsMade_42 a_s_classes_42 a_s_starts_42 a_s_lengths_42 a_s_cells_42 a_L a_K a_vc a_vd a_si a_sj a_iv a_inn a_ac) H → va_D A (tw cs q v_t_tapeSize v_t_textSize v_t_faultKind a_t_tape a_t_text a_g_beyond v_g_size a_g_steps a_h_beyond v_h_size a_h_steps a_r_scratch a_r_now v_r_takes v_r_negative v_r_namePlace v_r_faultKind v_r_faultPlace v_a_size v_a_limit v_a_digits v_a_kind v_a_from v_a_to v_o_size a_o_out v_b_size v_b_limit v_b_digits v_b_kind v_b_from v_b_to a_u_atom a_u_other a_u_hand v_u_marksMade v_u_came v_u_guesses v_u_right v_u_taken a_u_vars a_u_marks a_u_outcomes a_u_indexes v_s_things_42 v_s_looked v_s_lookedTooOften v_s_arraysMade_42 v_s_cellsMade_42 a_s_classes_42 a_s_starts_42 a_s_lengths_42 a_s_cells_42 a_L a_K a_vc a_vd a_si a_sj a_iv a_inn a_ac) → va_S A s.heap H locs → lv_has ls 6 [(0, .ref (q 12)), (1, .int g9), (2, .int e9), (3, .int n9), (4, .int r27), (5, .int l5_42)] → W p l e (headSpec (wG yX4_makeLevel cX4_makeLevel 6 (some .int)) rmX4_makeLevel_q3).room s m ([.ref (q 12), .int g9, .int e9, .int n9] : List Value).toArray below meth c H locs 0 0 Q (F0 m 42 ls []) := by
          intro n42
          induction n42 with
          | zero =>
            intro l5_42 v_s_arraysMade_42 a_s_cells_42 v_s_cellsMade_42 a_s_classes_42 a_s_lengths_42 a_s_starts_42 v_s_things_42 H locs ls f42_0 f42_1 f42_2 hm42
            exfalso
            omega
          | succ n42 ih42 =>
            intro l5_42 v_s_arraysMade_42 a_s_cells_42 v_s_cellsMade_42 a_s_classes_42 a_s_lengths_42 a_s_starts_42 v_s_things_42 H locs ls f42_0 f42_1 f42_2 hm42 hP hD hS hl
            refine lv_iload hx hb dX4_makeLevel_42 (lv_at hl 5 rfl) ?_
            refine lv_aload_n hx hb dX4_makeLevel_44 rfl (lv_at hl 0 rfl) ?_
            refine va_get (D := D) (ci := 3) (v := .ref (q 17)) (C := RX4) (T := TX4) (N := 13) hx hb hts hinX4 hown hK hP 12 rfl rfl 0 (by decide) k_4_4 (fun _ h9 => h9) rfl dX4_makeLevel_45 ?_
            refine lv_iload hx hb dX4_makeLevel_48 (lv_at hl 4 rfl) ?_
            refine call_i (As := [.int r27]) (rest := [.int l5_42]) ⟨hx, hb, hml, hown, hts⟩ (tX7_lengthOf (l := l) r27 (by first | assumption | omega | (intros; omega) | decide)) (cwV 1 hts (gV (wr41 _ (List.mem_of_getElem? (i := 19) rfl)) (wr41 _ (List.mem_of_getElem? (i := 20) rfl)) (wr41 _ (List.mem_of_getElem? (i := 21) rfl)) (wr4 _ (List.mem_of_getElem? (i := 3) rfl)) (wr41 _ (List.mem_of_getElem? (i := 22) rfl))) rfl rfl rfl (by decide +kernel) ⟨Nat.le_of_ble_eq_true rfl, Nat.le_of_ble_eq_true rfl⟩) (va_recv hK hP (ci := 6) (q0 := 17) rfl rfl) hK hP hD hE hS hA rfl hl.1 rfl (Nat.le_of_ble_eq_true rfl) dX4_makeLevel_50 ⟨Nat.le_of_ble_eq_true rfl, Nat.le_of_ble_eq_true rfl⟩ (fun r50 w9 H locs hw50 hP hD hS => ?_)
            obtain ⟨rfl, hw50_0, hw50_1, hw50_2⟩ := hw50
            have b_r50 := iB r50
            refine m_icmp_ge (X := l5_42.toInt) (Y := r50.toInt) (tgt := 86) hx hb dX4_makeLevel_53 (by decide) rfl rfl (fun c53 => ?_) (fun c53 => ?_)
            · skip
              refine lv_iload hx hb dX4_makeLevel_86 (lv_at hl 4 rfl) ?_
              subst hAe
              rw [hQ]
              exact W.iret (v := r27) hx hb hr (fun t ht hW => ⟨⟨r27, _, rfl, ⟨v_s_things_42, v_s_arraysMade_42, v_s_cellsMade_42, a_s_classes_42, a_s_starts_42, a_s_lengths_42, a_s_cells_42, rfl, by first | assumption | omega | (intros; omega) | decide⟩, by rw [ht]; exact hP, va_K.moved hW.alike hK, hD⟩, hS.F ht⟩) hS.2.2 dX4_makeLevel_88
            · skip
              refine lv_aload_n hx hb dX4_makeLevel_56 rfl (lv_at hl 0 rfl) ?_
              refine va_get (D := D) (ci := 3) (v := .ref (q 17)) (C := RX4) (T := TX4) (N := 13) hx hb hts hinX4 hown hK hP 12 rfl rfl 0 (by decide) k_4_4 (fun _ h9 => h9) rfl dX4_makeLevel_57 ?_
              refine lv_iload hx hb dX4_makeLevel_60 (lv_at hl 4 rfl) ?_
              refine lv_iload hx hb dX4_makeLevel_62 (lv_at hl 5 rfl) ?_
              refine lv_aload_n hx hb dX4_makeLevel_64 rfl (lv_at hl 0 rfl) ?_
              refine lv_iload_n hx hb dX4_makeLevel_65 rfl (lv_at hl 1 rfl) ?_
              refine call_iSP (As := [.int g9]) (rest := [.ref (q 12), .int l5_42, .int r27, .ref (q 17)]) ⟨hx, hb, hml, hown, hts⟩ (tX0_elementsOf (l := l) g9) (va_cwS 1 hts (gS (wr39 _ (List.mem_of_getElem? (i := 13) rfl)) (wr39 _ (List.mem_of_getElem? (i := 14) rfl)) (wr19 _ (List.mem_of_getElem? (i := 5) rfl)) (wr39 _ (List.mem_of_getElem? (i := 15) rfl))) rfl rfl rfl (by decide +kernel) ⟨Nat.le_of_ble_eq_true rfl, Nat.le_of_ble_eq_true rfl⟩) (hK.sub [] rfl) hP hD hE hS hA rfl hl.1 rfl (Nat.le_of_ble_eq_true rfl) dX4_makeLevel_66 ⟨Nat.le_of_ble_eq_true rfl, Nat.le_of_ble_eq_true rfl⟩ (fun r66 w9 H locs hw66 hP hD hS => ?_)
              obtain ⟨rfl, hw66_0⟩ := hw66
              have b_r66 := iB r66
              refine lv_iload_n hx hb dX4_makeLevel_69 rfl (lv_at hl 2 rfl) ?_
              refine lv_iconst (v := 1) hx hb dX4_makeLevel_70 (by decide) ?_
              refine m_iadd (X := e9.toInt) (Y := 1) hx hb dX4_makeLevel_71 rfl (by decide) (fun x71 e_x71 g9 => ?_)
              obtain ⟨k_x71, g_x71⟩ := g9
              have b_x71 := iB x71
              try (have q_x71 : x71.toInt = e9.toInt + 1 := (by omega); clear g_x71 k_x71)
              refine lv_iload_n hx hb dX4_makeLevel_72 rfl (lv_at hl 3 rfl) ?_
              refine call_i (As := [.int r66, .int x71, .int n9]) (rest := [.int l5_42, .int r27, .ref (q 17)]) ⟨hx, hb, hml, hown, hts⟩ (tX4_makeLevel_q2 (l := l) r66 x71 n9 (by first | assumption | omega | (intros; omega) | decide) (by first | assumption | omega | (intros; omega) | decide) (by first | assumption | omega | (intros; omega) | decide) (by first | assumption | omega | (intros; omega) | decide)) (cwV 3 hts (gV (wr41 _ (List.mem_of_getElem? (i := 11) rfl)) (wr41 _ (List.mem_of_getElem? (i := 12) rfl)) (wr41 _ (List.mem_of_getElem? (i := 13) rfl)) (wr2 _ (List.mem_of_getElem? (i := 10) rfl)) (wr41 _ (List.mem_of_getElem? (i := 14) rfl))) rfl rfl rfl (by decide +kernel) ⟨Nat.le_of_ble_eq_true rfl, Nat.le_of_ble_eq_true rfl⟩) (va_recv hK hP (ci := 3) (q0 := 12) rfl rfl) hK hP hD hE hS hA rfl hl.1 rfl (Nat.le_of_ble_eq_true rfl) dX4_makeLevel_73 ⟨Nat.le_of_ble_eq_true rfl, Nat.le_of_ble_eq_true rfl⟩ (fun r73 w9 H locs hw73 hP hD hS => ?_)
              obtain ⟨v_s_things_73, v_s_arraysMade_73, v_s_cellsMade_73, a_s_classes_73, a_s_starts_73, a_s_lengths_73, a_s_cells_73, rfl, hw73_0⟩ := hw73
              have b_v_s_things_73 := iB v_s_things_73
              have b_v_s_arraysMade_73 := iB v_s_arraysMade_73
              have b_v_s_cellsMade_73 := iB v_s_cellsMade_73
              have b_r73 := iB r73
              refine m_i2l (X := r73.toInt) hx hb dX4_makeLevel_76 rfl (fun x76 e_x76 g_x76 => ?_)
              refine call_v (As := [.int r27, .int l5_42, .long x76]) (rest := []) ⟨hx, hb, hml, hown, hts⟩ (tX7_write (l := l) r27 l5_42 x76 (by first | assumption | omega | (intros; omega) | decide)) (cwV 3 hts (gV (wr40 _ (List.mem_of_getElem? (i := 22) rfl)) (wr40 _ (List.mem_of_getElem? (i := 23) rfl)) (wr41 _ (List.mem_of_getElem? (i := 0) rfl)) (wr4 _ (List.mem_of_getElem? (i := 3) rfl)) (wr41 _ (List.mem_of_getElem? (i := 1) rfl))) rfl rfl rfl (by decide +kernel) ⟨Nat.le_of_ble_eq_true rfl, Nat.le_of_ble_eq_true rfl⟩) (va_recv hK hP (ci := 6) (q0 := 17) rfl rfl) hK hP hD hE hS hA rfl hl.1 rfl (Nat.le_of_ble_eq_true rfl) dX4_makeLevel_77 ⟨Nat.le_of_ble_eq_true rfl, Nat.le_of_ble_eq_true rfl⟩ (fun w9 H locs hw77 hP hD hS => ?_)
              obtain ⟨a_s_cells_77, rfl⟩ := hw77
              obtain ⟨x80, e_x80⟩ : ∃ z : Int32, z = l5_42 + (1 : Int32) := ⟨_, rfl⟩
              obtain ⟨k_x80, g_x80⟩ : ∃ k : Int, x80.toInt = l5_42.toInt + (1) + k * 4294967296 := by rw [e_x80]; exact iAdd l5_42 (1)
              have b_x80 := iB x80
              try (have q_x80 : x80.toInt = l5_42.toInt + (1) := (by omega); clear g_x80 k_x80)
              refine lv_iinc (v := x80) (lv' := [(5, .int x80), (0, .ref (q 12)), (1, .int g9), (2, .int e9), (3, .int n9), (4, .int r27)]) hx hb dX4_makeLevel_80 hl (k := 5) rfl (by rw [e_x80]; rfl) (by decide) rfl (fun ls hl => ?_)
              refine lv_goto (tgt := 42) hx hb dX4_makeLevel_83 (by decide) ?_
              exact ih42 x80 v_s_arraysMade_73 a_s_cells_77 v_s_cellsMade_73 a_s_classes_73 a_s_lengths_73 a_s_starts_73 v_s_things_73 H locs ls (by first | assumption | omega | (intros; omega) | decide) (by first | assumption | omega | (intros; omega) | decide) (by first | assumption | omega | (intros; omega) | decide) (by omega) hP hD hS (lv_sub hl [1, 2, 3, 4, 5, 0] rfl)
        exact J42 ((4000 - (0 : Int32).toInt).toNat + 1) (0 : Int32) v_s_arraysMade_27 a_s_cells_27 v_s_cellsMade_27 a_s_classes_27 a_s_lengths_27 a_s_starts_27 v_s_things_27 H locs ls (by first | assumption | omega | (intros; omega) | decide) (by first | assumption | omega | (intros; omega) | decide) (by first | assumption | omega | (intros; omega) | decide) (by omega) hP hD hS (lv_sub hl [2, 3, 4, 5, 1, 0] rfl)
    · skip
      refine lv_iconst (v := 0) hx hb dX4_makeLevel_14 (by decide) ?_
      subst hAe
      rw [hQ]
      exact W.iret (v := 0) hx hb hr (fun t ht hW => ⟨⟨0, _, rfl, ⟨v_s_things, v_s_arraysMade, v_s_cellsMade, a_s_classes, a_s_starts, a_s_lengths, a_s_cells, rfl, by first | assumption | omega | (intros; omega) | decide⟩, by rw [ht]; exact hP, va_K.moved hW.alike hK, hD⟩, hS.F ht⟩) hS.2.2 dX4_makeLevel_15

def rmX4_makeArrays : Room := { frames := 140, cells := 0, slots := 0, locals := 2800 }
set_option maxHeartbeats 4000000 in
set_option maxRecDepth 100000 in
theorem tX4_makeArrays {l : Launch} {D : va_G} {K : Nat → Nat → Nat} {cs : Nat → ClassId} {q : Nat → Nat} {v_t_tapeSize v_t_textSize v_t_faultKind v_g_size v_h_size v_r_takes v_r_negative v_r_namePlace v_r_faultKind v_r_faultPlace v_a_size v_a_limit v_a_digits v_a_kind v_a_from v_a_to v_o_size v_b_size v_b_limit v_b_digits v_b_kind v_b_from v_b_to v_u_marksMade v_u_came v_u_guesses v_u_right v_u_taken v_s_things v_s_looked v_s_lookedTooOften v_s_arraysMade v_s_cellsMade : Int32} {a_t_tape a_t_text a_o_out a_u_outcomes a_u_indexes a_s_classes a_s_starts a_s_lengths a_vc : Nat → Int32} {a_g_beyond a_h_beyond a_r_scratch a_r_now a_u_atom a_u_other a_u_hand : Nat} {a_g_steps a_h_steps a_u_vars a_u_marks : Nat → Option Nat} {a_s_cells a_vd a_sj : Nat → Int64} {a_L : List Nat} {a_K a_iv a_inn : Nat → Nat} {a_si a_ac : Nat → Nat → Int32} (s9 : Nat) (h_s9 : aS a_L a_K s9) (p_0 : RF a_L a_K a_g_beyond a_h_beyond a_r_scratch a_g_steps a_h_steps a_u_atom a_u_other a_u_hand a_u_vars a_u_marks) (p_1 : STO v_s_things v_s_cellsMade a_s_starts a_s_lengths) (p_2 : PI a_L a_K a_si a_iv a_inn) : CtI l yX4_makeArrays (wG yX4_makeArrays cX4_makeArrays 9 (some .int)) rmX4_makeArrays D (twT cs) K [.ref (q 12), .ref s9] (tw cs q v_t_tapeSize v_t_textSize v_t_faultKind a_t_tape a_t_text a_g_beyond v_g_size a_g_steps a_h_beyond v_h_size a_h_steps a_r_scratch a_r_now v_r_takes v_r_negative v_r_namePlace v_r_faultKind v_r_faultPlace v_a_size v_a_limit v_a_digits v_a_kind v_a_from v_a_to v_o_size a_o_out v_b_size v_b_limit v_b_digits v_b_kind v_b_from v_b_to a_u_atom a_u_other a_u_hand v_u_marksMade v_u_came v_u_guesses v_u_right v_u_taken a_u_vars a_u_marks a_u_outcomes a_u_indexes v_s_things v_s_looked v_s_lookedTooOften v_s_arraysMade v_s_cellsMade a_s_classes a_s_starts a_s_lengths a_s_cells a_L a_K a_vc a_vd a_si a_sj a_iv a_inn a_ac) (fun r w1 => ∃ (v_s_things' : Int32) (v_s_arraysMade' : Int32) (v_s_cellsMade' : Int32) (a_s_classes' : Nat → Int32) (a_s_starts' : Nat → Int32) (a_s_lengths' : Nat → Int32) (a_s_cells' : Nat → Int64) (a_vc' : Nat → Int32) (a_vd' : Nat → Int64), w1 = (tw cs q v_t_tapeSize v_t_textSize v_t_faultKind a_t_tape a_t_text a_g_beyond v_g_size a_g_steps a_h_beyond v_h_size a_h_steps a_r_scratch a_r_now v_r_takes v_r_negative v_r_namePlace v_r_faultKind v_r_faultPlace v_a_size v_a_limit v_a_digits v_a_kind v_a_from v_a_to v_o_size a_o_out v_b_size v_b_limit v_b_digits v_b_kind v_b_from v_b_to a_u_atom a_u_other a_u_hand v_u_marksMade v_u_came v_u_guesses v_u_right v_u_taken a_u_vars a_u_marks a_u_outcomes a_u_indexes v_s_things' v_s_looked v_s_lookedTooOften v_s_arraysMade' v_s_cellsMade' a_s_classes' a_s_starts' a_s_lengths' a_s_cells' a_L a_K a_vc' a_vd' a_si a_sj a_iv a_inn a_ac) ∧ (STO v_s_things' v_s_cellsMade' a_s_starts' a_s_lengths')) 0 0 := by
  intro sz
  refine Met.ofW (cc := cX4_makeArrays) (maxL := 9) (ret := (some .int)) (by decide) rfl ?_
  intro p e s m args below meth c s₁ B hml hv
  obtain ⟨rfl, hsz, hP, hK, hD0, hE⟩ := hv
  have hx := B.exec
  have hb := B.bytes
  have hr := B.returns
  have hts := atoms_spec (ws := (wG yX4_makeArrays cX4_makeArrays 9 (some .int))) B.pre
  have hown : s.vm.findClass RX4 = some m.cls := findClass_of_methodNamed B.named
  have hlocks := B.notSynchronized
  subst hsz
  have hD := hD0.self (sz := s.heap.size)
  obtain ⟨A, hAe⟩ : ∃ A : Nat → Prop, A = va_A (tw cs q v_t_tapeSize v_t_textSize v_t_faultKind a_t_tape a_t_text a_g_beyond v_g_size a_g_steps a_h_beyond v_h_size a_h_steps a_r_scratch a_r_now v_r_takes v_r_negative v_r_namePlace v_r_faultKind v_r_faultPlace v_a_size v_a_limit v_a_digits v_a_kind v_a_from v_a_to v_o_size a_o_out v_b_size v_b_limit v_b_digits v_b_kind v_b_from v_b_to a_u_atom a_u_other a_u_hand v_u_marksMade v_u_came v_u_guesses v_u_right v_u_taken a_u_vars a_u_marks a_u_outcomes a_u_indexes v_s_things v_s_looked v_s_lookedTooOften v_s_arraysMade v_s_cellsMade a_s_classes a_s_starts a_s_lengths a_s_cells a_L a_K a_vc a_vd a_si a_sj a_iv a_inn a_ac) s.heap.size := ⟨_, rfl⟩
  rw [← hAe] at hD hE
  have hA : ∀ q : Nat, s.heap.size ≤ q → A q := fun q h => by rw [hAe]; exact Or.inr h
  have hS : va_S A s.heap s.heap [] := va_S.rf
  have hl := lv_entry ([.ref (q 12), .ref s9]) (n := 9) (Nat.le_of_ble_eq_true rfl)
  rw [lg_entry_eq]
  generalize (lg_sl ([.ref (q 12), .ref s9]) ++ List.replicate (9 - (lg_sl ([.ref (q 12), .ref s9])).length) Slot.unset).toArray = ls at hl ⊢
  have hl : lv_has ls 9 [(0, .ref (q 12)), (1, .ref s9)] := hl
  refine wq (fun Q hQ => ?_)
  have hinX4 : ∀ w ∈ wsX40, w ∈ (wG yX4_makeArrays cX4_makeArrays 9 (some .int)) := fun w h => List.mem_cons_of_mem _ (inlX4 w h)
  have hinX6 : ∀ w ∈ wsX60, w ∈ (wG yX4_makeArrays cX4_makeArrays 9 (some .int)) := fun w h => List.mem_cons_of_mem _ (inlX6 w h)
  have kc0 : (0 : Int32).toInt = 0 := by decide
  have kc1 : (3 : Int32).toInt = 3 := by decide
  have kc2 : (7 : Int32).toInt = 7 := by decide
  have kc3 : (0 : Int64).toInt = 0 := by decide
  have kc4 : (1 : Int64).toInt = 1 := by decide
  have k_36_11 := hts (.fieldLink RX4 246 "ArrayTrainer$Step" "indexes" "I") (List.mem_cons_of_mem _ (wr36 _ (List.mem_of_getElem? (i := 11) rfl)))
  have k_37_19 := hts (.fieldLink RX4 202 "ArrayTrainer$Step" "cls" "I") (List.mem_cons_of_mem _ (wr37 _ (List.mem_of_getElem? (i := 19) rfl)))
  have k_4_9 := hts (.fieldLink RX4 33 "ArrayTrainer$Runner" "indexes" "[I") (List.mem_cons_of_mem _ (wr4 _ (List.mem_of_getElem? (i := 9) rfl)))
  have k_4_4 := hts (.fieldLink RX4 12 "ArrayTrainer$Runner" "store" "LArrayTrainer$Store;") (List.mem_cons_of_mem _ (wr4 _ (List.mem_of_getElem? (i := 4) rfl)))
  obtain ⟨H, hH⟩ : ∃ H : Heap, H = s.heap := ⟨_, rfl⟩
  obtain ⟨locs, hlc⟩ : ∃ L : List Loc, L = [] := ⟨_, rfl⟩
  have hP : va_P D vwCl (tw cs q v_t_tapeSize v_t_textSize v_t_faultKind a_t_tape a_t_text a_g_beyond v_g_size a_g_steps a_h_beyond v_h_size a_h_steps a_r_scratch a_r_now v_r_takes v_r_negative v_r_namePlace v_r_faultKind v_r_faultPlace v_a_size v_a_limit v_a_digits v_a_kind v_a_from v_a_to v_o_size a_o_out v_b_size v_b_limit v_b_digits v_b_kind v_b_from v_b_to a_u_atom a_u_other a_u_hand v_u_marksMade v_u_came v_u_guesses v_u_right v_u_taken a_u_vars a_u_marks a_u_outcomes a_u_indexes v_s_things v_s_looked v_s_lookedTooOften v_s_arraysMade v_s_cellsMade a_s_classes a_s_starts a_s_lengths a_s_cells a_L a_K a_vc a_vd a_si a_sj a_iv a_inn a_ac) H := by rw [hH]; exact hP
  have hS : va_S A s.heap H locs := by rw [hH, hlc]; exact hS
  refine wHL hH hlc ?_
  refine lv_lconst (v := 0) hx hb dX4_makeArrays_0 (by decide) ?_
  refine lv_lstore_n (lv' := [(2, .long 0), (0, .ref (q 12)), (1, .ref s9)]) hx hb dX4_makeArrays_1 rfl hl (by decide) rfl (fun ls hl => ?_)
  refine lv_lconst (v := 0) hx hb dX4_makeArrays_2 (by decide) ?_
  refine lv_lstore (lv' := [(4, .long 0), (2, .long 0), (0, .ref (q 12)), (1, .ref s9)]) hx hb dX4_makeArrays_3 hl (by decide) rfl (fun ls hl => ?_)
  refine lv_lconst (v := 1) hx hb dX4_makeArrays_5 (by decide) ?_
  refine lv_lstore (lv' := [(6, .long 1), (4, .long 0), (2, .long 0), (0, .ref (q 12)), (1, .ref s9)]) hx hb dX4_makeArrays_6 hl (by decide) rfl (fun ls hl => ?_)
  refine lv_iconst (v := 0) hx hb dX4_makeArrays_8 (by decide) ?_
  refine lv_istore (lv' := [(8, .int 0), (6, .long 1), (4, .long 0), (2, .long 0), (0, .ref (q 12)), (1, .ref s9)]) hx hb dX4_makeArrays_9 hl (by decide) rfl (fun ls hl => ?_)
  have J11 : ∀ (n11 : Nat) (l8_11 : Int32) (H : Heap) (locs : List Loc) (ls : Array Slot), (0 ≤ l8_11.toInt) → (l8_11.toInt ≤ 3) → (3 - l8_11.toInt < (n11 : Int)) → va_P D vwCl (tw cs q v_t_tapeSize v_t_textSize v_t_faultKind a_t_tape a_t_text a_g_beyond v_g_size a_g_steps a_h_beyond v_h_size a_h_steps a_r_scratch a_r_now v_r_takes v_r_negative v_r_namePlace v_r_faultKind v_r_faultPlace v_a_size v_a_limit v_a_digits v_a_kind v_a_from v_a_to v_o_size a_o_out v_b_size v_b_limit v_b_digits v_b_kind v_b_from v_b_to a_u_atom a_u_other a_u_hand v_u_marksMade v_u_came v_u_guesses v_u_right v_u_taken a_u_vars a_u_marks a_u_outcomes a_u_indexes v_s_things v_s_looked v_s_lookedTooOften v_s_arraysMade v_s_cellsMade a_s_classes a_s_starts a_s_lengths a_s_cells a_L a_K a_vc a_vd a_si a_sj a_iv a_inn a_ac) H → va_D A (tw cs q v_t_tapeSize v_t_textSize v_t_faultKind a_t_tape a_t_text a_g_beyond v_g_size a_g_steps a_h_beyond v_h_size a_h_steps a_r_scratch a_r_now v_r_takes v_r_negative v_r_namePlace v_r_faultKind v_r_faultPlace v_a_size v_a_limit v_a_digits v_a_kind v_a_from v_a_to v_o_size a_o_out v_b_size v_b_limit v_b_digits v_b_kind v_b_from v_b_to a_u_atom a_u_other a_u_hand v_u_marksMade v_u_came v_u_guesses v_u_right v_u_taken a_u_vars a_u_marks a_u_outcomes a_u_indexes v_s_things v_s_looked v_s_lookedTooOften v_s_arraysMade v_s_cellsMade a_s_classes a_s_starts a_s_lengths a_s_cells a_L a_K a_vc a_vd a_si a_sj a_iv a_inn a_ac) → va_S A s.heap H locs → lv_has ls 9 [(0, .ref (q 12)), (1, .ref s9), (2, .long 0), (4, .long 0), (6, .long 1), (8, .int l8_11)] → W p l e (headSpec (wG yX4_makeArrays cX4_makeArrays 9 (some .int)) rmX4_makeArrays).room s m ([.ref (q 12), .ref s9] : List Value).toArray below meth c H locs 0 0 Q (F0 m 11 ls []) := by
    intro n11
    induction n11 with
    | zero =>
      intro l8_11 H locs ls f11_0 f11_1 hm11
      exfalso
      omega
    | succ n11 ih11 =>
      intro l8_11 H locs ls f11_0 f11_1 hm11 hP hD hS hl
      refine lv_iload hx hb dX4_makeArrays_11 (lv_at hl 5 rfl) ?_
      refine lv_aload_n hx hb dX4_makeArrays_13 rfl (lv_at hl 1 rfl) ?_
      obtain ⟨k14_, hk14_⟩ := pl_S (X := (twX cs q v_t_tapeSize v_t_textSize v_t_faultKind a_t_tape a_t_text a_g_beyond v_g_size a_g_steps a_h_beyond v_h_size a_h_steps a_r_scratch a_r_now v_r_takes v_r_negative v_r_namePlace v_r_faultKind v_r_faultPlace v_a_size v_a_limit v_a_digits v_a_kind v_a_from v_a_to v_o_size a_o_out v_b_size v_b_limit v_b_digits v_b_kind v_b_from v_b_to a_u_atom a_u_other a_u_hand v_u_marksMade v_u_came v_u_guesses v_u_right v_u_taken a_u_vars a_u_marks a_u_outcomes a_u_indexes v_s_things v_s_looked v_s_lookedTooOften v_s_arraysMade v_s_cellsMade a_s_classes a_s_starts a_s_lengths a_s_cells)) (cI := cs 0) (vc := a_vc) (vd := a_vd) (si := a_si) (sj := a_sj) (iv := a_iv) (inn := a_inn) (ac := a_ac) h_s9
      refine va_get (D := D) (ci := 5) (v := .int (a_si s9 9)) (C := RX6) (T := TX6) (N := 15) hx hb hts hinX6 hown hK hP k14_ hk14_ rfl 9 (by decide) k_36_11 (fun _ h9 => h9) rfl dX4_makeArrays_14 ?_
      refine lv_topi (fun x14 e_x14 => ?_)
      have b_x14 := iB x14
      have J48 : ∀ (H : Heap) (locs : List Loc) (ls : Array Slot), va_P D vwCl (tw cs q v_t_tapeSize v_t_textSize v_t_faultKind a_t_tape a_t_text a_g_beyond v_g_size a_g_steps a_h_beyond v_h_size a_h_steps a_r_scratch a_r_now v_r_takes v_r_negative v_r_namePlace v_r_faultKind v_r_faultPlace v_a_size v_a_limit v_a_digits v_a_kind v_a_from v_a_to v_o_size a_o_out v_b_size v_b_limit v_b_digits v_b_kind v_b_from v_b_to a_u_atom a_u_other a_u_hand v_u_marksMade v_u_came v_u_guesses v_u_right v_u_taken a_u_vars a_u_marks a_u_outcomes a_u_indexes v_s_things v_s_looked v_s_lookedTooOften v_s_arraysMade v_s_cellsMade a_s_classes a_s_starts a_s_lengths a_s_cells a_L a_K a_vc a_vd a_si a_sj a_iv a_inn a_ac) H → va_D A (tw cs q v_t_tapeSize v_t_textSize v_t_faultKind a_t_tape a_t_text a_g_beyond v_g_size a_g_steps a_h_beyond v_h_size a_h_steps a_r_scratch a_r_now v_r_takes v_r_negative v_r_namePlace v_r_faultKind v_r_faultPlace v_a_size v_a_limit v_a_digits v_a_kind v_a_from v_a_to v_o_size a_o_out v_b_size v_b_limit v_b_digits v_b_kind v_b_from v_b_to a_u_atom a_u_other a_u_hand v_u_marksMade v_u_came v_u_guesses v_u_right v_u_taken a_u_vars a_u_marks a_u_outcomes a_u_indexes v_s_things v_s_looked v_s_lookedTooOften v_s_arraysMade v_s_cellsMade a_s_classes a_s_starts a_s_lengths a_s_cells a_L a_K a_vc a_vd a_si a_sj a_iv a_inn a_ac) → va_S A s.heap H locs → lv_has ls 9 [(0, .ref (q 12)), (1, .ref s9), (2, .long 0), (4, .long 0), (6, .long 1)] → W p l e (headSpec (wG yX4_makeArrays cX4_makeArrays 9 (some .int)) rmX4_makeArrays).room s m ([.ref (q 12), .ref s9] : List Value).toArray below meth c H locs 0 0 Q (F0 m 48 ls []) := by
        intro H locs ls hP hD hS hl
        refine lv_iconst (v := 0) hx hb dX4_makeArrays_48 (by decide) ?_
        refine lv_istore (lv' := [(8, .int 0), (0, .ref (q 12)), (1, .ref s9), (2, .long 0), (4, .long 0), (6, .long 1)]) hx hb dX4_makeArrays_49 hl (by decide) rfl (fun ls hl => ?_)
        have J51 : ∀ (n51 : Nat) (l2_51 : Int64) (l4_51 : Int64) (l6_51 : Int64) (l8_51 : Int32) (H : Heap) (locs : List Loc) (ls : Array Slot), (0 ≤ l8_51.toInt) → (l8_51.toInt ≤ 3) → (3 - l8_51.toInt < (n51 : Int)) → va_P D vwCl (tw cs q v_t_tapeSize v_t_textSize v_t_faultKind a_t_tape a_t_text a_g_beyond v_g_size a_g_steps a_h_beyond v_h_size a_h_steps a_r_scratch a_r_now v_r_takes v_r_negative v_r_namePlace v_r_faultKind v_r_faultPlace v_a_size v_a_limit v_a_digits v_a_kind v_a_from v_a_to v_o_size a_o_out v_b_size v_b_limit v_b_digits v_b_kind v_b_from v_b_to a_u_atom a_u_other a_u_hand v_u_marksMade v_u_came v_u_guesses v_u_right v_u_taken a_u_vars a_u_marks a_u_outcomes a_u_indexes v_s_things v_s_looked v_s_lookedTooOften v_s_arraysMade v_s_cellsMade a_s_classes a_s_starts a_s_lengths a_s_cells a_L a_K a_vc a_vd a_si a_sj a_iv a_inn a_ac) H → va_D A (tw cs q v_t_tapeSize v_t_textSize v_t_faultKind a_t_tape a_t_text a_g_beyond v_g_size a_g_steps a_h_beyond v_h_size a_h_steps a_r_scratch a_r_now v_r_takes v_r_negative v_r_namePlace v_r_faultKind v_r_faultPlace v_a_size v_a_limit v_a_digits v_a_kind v_a_from v_a_to v_o_size a_o_out v_b_size v_b_limit v_b_digits v_b_kind v_b_from v_b_to a_u_atom a_u_other a_u_hand v_u_marksMade v_u_came v_u_guesses v_u_right v_u_taken a_u_vars a_u_marks a_u_outcomes a_u_indexes v_s_things v_s_looked v_s_lookedTooOften v_s_arraysMade v_s_cellsMade a_s_classes a_s_starts a_s_lengths a_s_cells a_L a_K a_vc a_vd a_si a_sj a_iv a_inn a_ac) → va_S A s.heap H locs → lv_has ls 9 [(0, .ref (q 12)), (1, .ref s9), (2, .long l2_51), (4, .long l4_51), (6, .long l6_51), (8, .int l8_51)] → W p l e (headSpec (wG yX4_makeArrays cX4_makeArrays 9 (some .int)) rmX4_makeArrays).room s m ([.ref (q 12), .ref s9] : List Value).toArray below meth c H locs 0 0 Q (F0 m 51 ls []) := by
          intro n51
          induction n51 with
          | zero =>
            intro l2_51 l4_51 l6_51 l8_51 H locs ls f51_0 f51_1 hm51
            exfalso
            omega
          | succ n51 ih51 =>
            intro l2_51 l4_51 l6_51 l8_51 H locs ls f51_0 f51_1 hm51 hP hD hS hl
            refine lv_iload hx hb dX4_makeArrays_51 (lv_at hl 5 rfl) ?_
            refine lv_aload_n hx hb dX4_makeArrays_53 rfl (lv_at hl 1 rfl) ?_
            obtain ⟨k54_, hk54_⟩ := pl_S (X := (twX cs q v_t_tapeSize v_t_textSize v_t_faultKind a_t_tape a_t_text a_g_beyond v_g_size a_g_steps a_h_beyond v_h_size a_h_steps a_r_scratch a_r_now v_r_takes v_r_negative v_r_namePlace v_r_faultKind v_r_faultPlace v_a_size v_a_limit v_a_digits v_a_kind v_a_from v_a_to v_o_size a_o_out v_b_size v_b_limit v_b_digits v_b_kind v_b_from v_b_to a_u_atom a_u_other a_u_hand v_u_marksMade v_u_came v_u_guesses v_u_right v_u_taken a_u_vars a_u_marks a_u_outcomes a_u_indexes v_s_things v_s_looked v_s_lookedTooOften v_s_arraysMade v_s_cellsMade a_s_classes a_s_starts a_s_lengths a_s_cells)) (cI := cs 0) (vc := a_vc) (vd := a_vd) (si := a_si) (sj := a_sj) (iv := a_iv) (inn := a_inn) (ac := a_ac) h_s9
            refine va_get (D := D) (ci := 5) (v := .int (a_si s9 9)) (C := RX6) (T := TX6) (N := 15) hx hb hts hinX6 hown hK hP k54_ hk54_ rfl 9 (by decide) k_36_11 (fun _ h9 => h9) rfl dX4_makeArrays_54 ?_
            refine lv_topi (fun x54 e_x54 => ?_)
            have b_x54 := iB x54
            have J117 : ∀ (H : Heap) (locs : List Loc) (ls : Array Slot), va_P D vwCl (tw cs q v_t_tapeSize v_t_textSize v_t_faultKind a_t_tape a_t_text a_g_beyond v_g_size a_g_steps a_h_beyond v_h_size a_h_steps a_r_scratch a_r_now v_r_takes v_r_negative v_r_namePlace v_r_faultKind v_r_faultPlace v_a_size v_a_limit v_a_digits v_a_kind v_a_from v_a_to v_o_size a_o_out v_b_size v_b_limit v_b_digits v_b_kind v_b_from v_b_to a_u_atom a_u_other a_u_hand v_u_marksMade v_u_came v_u_guesses v_u_right v_u_taken a_u_vars a_u_marks a_u_outcomes a_u_indexes v_s_things v_s_looked v_s_lookedTooOften v_s_arraysMade v_s_cellsMade a_s_classes a_s_starts a_s_lengths a_s_cells a_L a_K a_vc a_vd a_si a_sj a_iv a_inn a_ac) H → va_D A (tw cs q v_t_tapeSize v_t_textSize v_t_faultKind a_t_tape a_t_text a_g_beyond v_g_size a_g_steps a_h_beyond v_h_size a_h_steps a_r_scratch a_r_now v_r_takes v_r_negative v_r_namePlace v_r_faultKind v_r_faultPlace v_a_size v_a_limit v_a_digits v_a_kind v_a_from v_a_to v_o_size a_o_out v_b_size v_b_limit v_b_digits v_b_kind v_b_from v_b_to a_u_atom a_u_other a_u_hand v_u_marksMade v_u_came v_u_guesses v_u_right v_u_taken a_u_vars a_u_marks a_u_outcomes a_u_indexes v_s_things v_s_looked v_s_lookedTooOften v_s_arraysMade v_s_cellsMade a_s_classes a_s_starts a_s_lengths a_s_cells a_L a_K a_vc a_vd a_si a_sj a_iv a_inn a_ac) → va_S A s.heap H locs → lv_has ls 9 [(0, .ref (q 12)), (1, .ref s9)] → W p l e (headSpec (wG yX4_makeArrays cX4_makeArrays 9 (some .int)) rmX4_makeArrays).room s m ([.ref (q 12), .ref s9] : List Value).toArray below meth c H locs 0 0 Q (F0 m 117 ls []) := by
              intro H locs ls hP hD hS hl
              refine lv_aload_n hx hb dX4_makeArrays_117 rfl (lv_at hl 0 rfl) ?_
              refine lv_aload_n hx hb dX4_makeArrays_118 rfl (lv_at hl 1 rfl) ?_
              refine lv_aload_n hx hb dX4_makeArrays_119 rfl (lv_at hl 1 rfl) ?_
              obtain ⟨k120_, hk120_⟩ := pl_S (X := (twX cs q v_t_tapeSize v_t_textSize v_t_faultKind a_t_tape a_t_text a_g_beyond v_g_size a_g_steps a_h_beyond v_h_size a_h_steps a_r_scratch a_r_now v_r_takes v_r_negative v_r_namePlace v_r_faultKind v_r_faultPlace v_a_size v_a_limit v_a_digits v_a_kind v_a_from v_a_to v_o_size a_o_out v_b_size v_b_limit v_b_digits v_b_kind v_b_from v_b_to a_u_atom a_u_other a_u_hand v_u_marksMade v_u_came v_u_guesses v_u_right v_u_taken a_u_vars a_u_marks a_u_outcomes a_u_indexes v_s_things v_s_looked v_s_lookedTooOften v_s_arraysMade v_s_cellsMade a_s_classes a_s_starts a_s_lengths a_s_cells)) (cI := cs 0) (vc := a_vc) (vd := a_vd) (si := a_si) (sj := a_sj) (iv := a_iv) (inn := a_inn) (ac := a_ac) h_s9
              refine va_get (D := D) (ci := 5) (v := .int (a_si s9 7)) (C := RX6) (T := TX6) (N := 15) hx hb hts hinX6 hown hK hP k120_ hk120_ rfl 7 (by decide) k_37_19 (fun _ h9 => h9) rfl dX4_makeArrays_120 ?_
              refine lv_topi (fun x120 e_x120 => ?_)
              have b_x120 := iB x120
              refine lv_aload_n hx hb dX4_makeArrays_123 rfl (lv_at hl 0 rfl) ?_
              refine lv_aload_n hx hb dX4_makeArrays_124 rfl (lv_at hl 1 rfl) ?_
              obtain ⟨k125_, hk125_⟩ := pl_S (X := (twX cs q v_t_tapeSize v_t_textSize v_t_faultKind a_t_tape a_t_text a_g_beyond v_g_size a_g_steps a_h_beyond v_h_size a_h_steps a_r_scratch a_r_now v_r_takes v_r_negative v_r_namePlace v_r_faultKind v_r_faultPlace v_a_size v_a_limit v_a_digits v_a_kind v_a_from v_a_to v_o_size a_o_out v_b_size v_b_limit v_b_digits v_b_kind v_b_from v_b_to a_u_atom a_u_other a_u_hand v_u_marksMade v_u_came v_u_guesses v_u_right v_u_taken a_u_vars a_u_marks a_u_outcomes a_u_indexes v_s_things v_s_looked v_s_lookedTooOften v_s_arraysMade v_s_cellsMade a_s_classes a_s_starts a_s_lengths a_s_cells)) (cI := cs 0) (vc := a_vc) (vd := a_vd) (si := a_si) (sj := a_sj) (iv := a_iv) (inn := a_inn) (ac := a_ac) h_s9
              refine va_get (D := D) (ci := 5) (v := .int (a_si s9 7)) (C := RX6) (T := TX6) (N := 15) hx hb hts hinX6 hown hK hP k125_ hk125_ rfl 7 (by decide) k_37_19 (fun _ h9 => h9) rfl dX4_makeArrays_125 ?_
              refine lv_topi (fun x125 e_x125 => ?_)
              have b_x125 := iB x125
              refine lv_iconst (v := 0) hx hb dX4_makeArrays_128 (by decide) ?_
              refine lv_aload_n hx hb dX4_makeArrays_129 rfl (lv_at hl 1 rfl) ?_
              obtain ⟨k130_, hk130_⟩ := pl_S (X := (twX cs q v_t_tapeSize v_t_textSize v_t_faultKind a_t_tape a_t_text a_g_beyond v_g_size a_g_steps a_h_beyond v_h_size a_h_steps a_r_scratch a_r_now v_r_takes v_r_negative v_r_namePlace v_r_faultKind v_r_faultPlace v_a_size v_a_limit v_a_digits v_a_kind v_a_from v_a_to v_o_size a_o_out v_b_size v_b_limit v_b_digits v_b_kind v_b_from v_b_to a_u_atom a_u_other a_u_hand v_u_marksMade v_u_came v_u_guesses v_u_right v_u_taken a_u_vars a_u_marks a_u_outcomes a_u_indexes v_s_things v_s_looked v_s_lookedTooOften v_s_arraysMade v_s_cellsMade a_s_classes a_s_starts a_s_lengths a_s_cells)) (cI := cs 0) (vc := a_vc) (vd := a_vd) (si := a_si) (sj := a_sj) (iv := a_iv) (inn := a_inn) (ac := a_ac) h_s9
              refine va_get (D := D) (ci := 5) (v := .int (a_si s9 9)) (C := RX6) (T := TX6) (N := 15) hx hb hts hinX6 hown hK hP k130_ hk130_ rfl 9 (by decide) k_36_11 (fun _ h9 => h9) rfl dX4_makeArrays_130 ?_
              refine lv_topi (fun x130 e_x130 => ?_)
              have b_x130 := iB x130
              refine call_i (As := [.int x125, .int 0, .int x130]) (rest := [.int x120, .ref s9, .ref (q 12)]) ⟨hx, hb, hml, hown, hts⟩ (tX4_makeLevel_q3 (l := l) x125 (0 : Int32) x130 (by first | assumption | omega | (intros; omega) | decide) (by first | assumption | omega | (intros; omega) | decide) (by first | assumption | omega | (intros; omega) | decide) (by first | assumption | omega | (intros; omega) | decide)) (cwV 3 hts (gV (wr41 _ (List.mem_of_getElem? (i := 11) rfl)) (wr41 _ (List.mem_of_getElem? (i := 12) rfl)) (wr41 _ (List.mem_of_getElem? (i := 13) rfl)) (wr2 _ (List.mem_of_getElem? (i := 10) rfl)) (wr41 _ (List.mem_of_getElem? (i := 14) rfl))) rfl rfl rfl (by decide +kernel) ⟨Nat.le_of_ble_eq_true rfl, Nat.le_of_ble_eq_true rfl⟩) (va_recv hK hP (ci := 3) (q0 := 12) rfl rfl) hK hP hD hE hS hA rfl hl.1 rfl (Nat.le_of_ble_eq_true rfl) dX4_makeArrays_133 ⟨Nat.le_of_ble_eq_true rfl, Nat.le_of_ble_eq_true rfl⟩ (fun r133 w9 H locs hw133 hP hD hS => ?_)
              obtain ⟨v_s_things_133, v_s_arraysMade_133, v_s_cellsMade_133, a_s_classes_133, a_s_starts_133, a_s_lengths_133, a_s_cells_133, rfl, hw133_0⟩ := hw133
              have b_v_s_things_133 := iB v_s_things_133
              have b_v_s_arraysMade_133 := iB v_s_arraysMade_133
              have b_v_s_cellsMade_133 := iB v_s_cellsMade_133
              have b_r133 := iB r133
              refine m_i2l (X := r133.toInt) hx hb dX4_makeArrays_136 rfl (fun x136 e_x136 g_x136 => ?_)
              refine call_i (As := [.ref s9, .int x120, .long x136]) (rest := []) ⟨hx, hb, hml, hown, hts⟩ (tX4_tell (l := l) s9 h_s9 x120 x136 (by first | assumption | omega | (intros; omega) | decide)) (cwV 3 hts (gV (wr37 _ (List.mem_of_getElem? (i := 10) rfl)) (wr37 _ (List.mem_of_getElem? (i := 11) rfl)) (wr37 _ (List.mem_of_getElem? (i := 12) rfl)) (wr2 _ (List.mem_of_getElem? (i := 10) rfl)) (wr37 _ (List.mem_of_getElem? (i := 13) rfl))) rfl rfl rfl (by decide +kernel) ⟨Nat.le_of_ble_eq_true rfl, Nat.le_of_ble_eq_true rfl⟩) (va_recv hK hP (ci := 3) (q0 := 12) rfl rfl) hK hP hD hE hS hA rfl hl.1 rfl (Nat.le_of_ble_eq_true rfl) dX4_makeArrays_137 ⟨Nat.le_of_ble_eq_true rfl, Nat.le_of_ble_eq_true rfl⟩ (fun r137 w9 H locs hw137 hP hD hS => ?_)
              obtain ⟨a_vc_137, a_vd_137, rfl, hw137_0⟩ := hw137
              have b_r137 := iB r137
              subst hAe
              rw [hQ]
              exact W.iret (v := r137) hx hb hr (fun t ht hW => ⟨⟨r137, _, rfl, ⟨v_s_things_133, v_s_arraysMade_133, v_s_cellsMade_133, a_s_classes_133, a_s_starts_133, a_s_lengths_133, a_s_cells_133, a_vc_137, a_vd_137, rfl, by first | assumption | omega | (intros; omega) | decide⟩, by rw [ht]; exact hP, va_K.moved hW.alike hK, hD⟩, hS.F ht⟩) hS.2.2 dX4_makeArrays_140
            refine m_icmp_ge (X := l8_51.toInt) (Y := x54.toInt) (tgt := 117) hx hb dX4_makeArrays_57 (by decide) rfl rfl (fun c57 => ?_) (fun c57 => ?_)
            · skip
              exact J117 H locs ls hP hD hS (lv_sub hl [0, 1] rfl)
            · skip
              refine lv_iload hx hb dX4_makeArrays_60 (lv_at hl 5 rfl) ?_
              refine lv_aload_n hx hb dX4_makeArrays_62 rfl (lv_at hl 0 rfl) ?_
              refine va_get (D := D) (ci := 3) (v := .ref (q 16)) (C := RX4) (T := TX4) (N := 13) hx hb hts hinX4 hown hK hP 12 rfl rfl 4 (by decide) k_4_9 (fun _ h9 => h9) rfl dX4_makeArrays_63 ?_
              refine m_alen hx hb hK hP 16 0 rfl rfl (show 3 < 2147483648 by decide) dX4_makeArrays_66 (fun x66 g_x66 => ?_)
              have g_x66 : x66.toInt = 3 := g_x66
              refine m_icmp_ge (X := l8_51.toInt) (Y := x66.toInt) (tgt := 117) hx hb dX4_makeArrays_67 (by decide) rfl rfl (fun c67 => ?_) (fun c67 => ?_)
              · skip
                exact J117 H locs ls hP hD hS (lv_sub hl [0, 1] rfl)
              · skip
                refine lv_lload_n hx hb dX4_makeArrays_70 rfl (lv_at hl 2 rfl) ?_
                refine lv_lload hx hb dX4_makeArrays_71 (lv_at hl 4 rfl) ?_
                refine m_ladd (X := l2_51.toInt) (Y := l6_51.toInt) hx hb dX4_makeArrays_73 rfl rfl (fun x73 e_x73 g9 => ?_)
                obtain ⟨k_x73, g_x73⟩ := g9
                have b_x73 := jB x73
                try (have q_x73 : x73.toInt = l2_51.toInt + l6_51.toInt := (by omega); clear g_x73 k_x73)
                refine lv_lstore_n (lv' := [(2, .long x73), (0, .ref (q 12)), (1, .ref s9), (4, .long l4_51), (6, .long l6_51), (8, .int l8_51)]) hx hb dX4_makeArrays_74 rfl hl (by decide) rfl (fun ls hl => ?_)
                refine lv_lload hx hb dX4_makeArrays_75 (lv_at hl 4 rfl) ?_
                refine lv_aload_n hx hb dX4_makeArrays_77 rfl (lv_at hl 1 rfl) ?_
                refine va_get (D := D) (ci := 3) (v := .ref (q 16)) (C := RX4) (T := TX4) (N := 13) hx hb hts hinX4 hown hK hP 12 rfl rfl 4 (by decide) k_4_9 (fun _ h9 => h9) rfl dX4_makeArrays_78 ?_
                refine lv_iload hx hb dX4_makeArrays_81 (lv_at hl 5 rfl) ?_
                refine m_iald hx hb hK hP 16 0 rfl rfl (ix (by omega) (by omega)) dX4_makeArrays_83 (fun x83 e_x83 => ?_)
                have b_x83 := iB x83
                refine m_i2l (X := x83.toInt) hx hb dX4_makeArrays_84 rfl (fun x84 e_x84 g_x84 => ?_)
                refine m_lmul hx hb dX4_makeArrays_85 rfl rfl (fun x85 e_x85 g9 => ?_)
                clear g9
                have b_x85 := jB x85
                refine lv_lstore (lv' := [(6, .long x85), (2, .long x73), (0, .ref (q 12)), (1, .ref s9), (4, .long l4_51), (8, .int l8_51)]) hx hb dX4_makeArrays_86 hl (by decide) rfl (fun ls hl => ?_)
                refine lv_lload hx hb dX4_makeArrays_88 (lv_at hl 4 rfl) ?_
                refine lv_lload hx hb dX4_makeArrays_90 (lv_at hl 0 rfl) ?_
                refine m_ladd (X := l4_51.toInt) (Y := x85.toInt) hx hb dX4_makeArrays_92 rfl rfl (fun x92 e_x92 g9 => ?_)
                obtain ⟨k_x92, g_x92⟩ := g9
                have b_x92 := jB x92
                try (have q_x92 : x92.toInt = l4_51.toInt + x85.toInt := (by omega); clear g_x92 k_x92)
                refine lv_lstore (lv' := [(4, .long x92), (6, .long x85), (2, .long x73), (0, .ref (q 12)), (1, .ref s9), (8, .int l8_51)]) hx hb dX4_makeArrays_93 hl (by decide) rfl (fun ls hl => ?_)
                refine lv_aload_n hx hb dX4_makeArrays_95 rfl (lv_at hl 3 rfl) ?_
                refine va_get (D := D) (ci := 3) (v := .ref (q 17)) (C := RX4) (T := TX4) (N := 13) hx hb hts hinX4 hown hK hP 12 rfl rfl 0 (by decide) k_4_4 (fun _ h9 => h9) rfl dX4_makeArrays_96 ?_
                refine lv_lload_n hx hb dX4_makeArrays_99 rfl (lv_at hl 2 rfl) ?_
                refine lv_lload hx hb dX4_makeArrays_100 (lv_at hl 0 rfl) ?_
                refine call_i (As := [.long x73, .long x92]) (rest := []) ⟨hx, hb, hml, hown, hts⟩ (tX7_hasRoom (l := l) x73 x92) (cwV 2 hts (gV (wr41 _ (List.mem_of_getElem? (i := 6) rfl)) (wr41 _ (List.mem_of_getElem? (i := 7) rfl)) (wr41 _ (List.mem_of_getElem? (i := 8) rfl)) (wr4 _ (List.mem_of_getElem? (i := 3) rfl)) (wr41 _ (List.mem_of_getElem? (i := 9) rfl))) rfl rfl rfl (by decide +kernel) ⟨Nat.le_of_ble_eq_true rfl, Nat.le_of_ble_eq_true rfl⟩) (va_recv hK hP (ci := 6) (q0 := 17) rfl rfl) hK hP hD hE hS hA rfl hl.1 rfl (Nat.le_of_ble_eq_true rfl) dX4_makeArrays_102 ⟨Nat.le_of_ble_eq_true rfl, Nat.le_of_ble_eq_true rfl⟩ (fun r102 w9 H locs hw102 hP hD hS => ?_)
                obtain ⟨rfl, hw102_0⟩ := hw102
                have b_r102 := iB r102
                refine m_if_ne (X := r102.toInt) (tgt := 111) hx hb dX4_makeArrays_105 (by decide) rfl (fun c105 => ?_) (fun c105 => ?_)
                · skip
                  obtain ⟨x111, e_x111⟩ : ∃ z : Int32, z = l8_51 + (1 : Int32) := ⟨_, rfl⟩
                  obtain ⟨k_x111, g_x111⟩ : ∃ k : Int, x111.toInt = l8_51.toInt + (1) + k * 4294967296 := by rw [e_x111]; exact iAdd l8_51 (1)
                  have b_x111 := iB x111
                  try (have q_x111 : x111.toInt = l8_51.toInt + (1) := (by omega); clear g_x111 k_x111)
                  refine lv_iinc (v := x111) (lv' := [(8, .int x111), (4, .long x92), (6, .long x85), (2, .long x73), (0, .ref (q 12)), (1, .ref s9)]) hx hb dX4_makeArrays_111 hl (k := 5) rfl (by rw [e_x111]; rfl) (by decide) rfl (fun ls hl => ?_)
                  refine lv_goto (tgt := 51) hx hb dX4_makeArrays_114 (by decide) ?_
                  exact ih51 x73 x92 x85 x111 H locs ls (by first | assumption | omega | (intros; omega) | decide) (by first | assumption | omega | (intros; omega) | decide) (by omega) hP hD hS (lv_sub hl [4, 5, 3, 1, 2, 0] rfl)
                · skip
                  refine lv_bipush (v := 7) hx hb dX4_makeArrays_108 (by decide) ?_
                  subst hAe
                  rw [hQ]
                  exact W.iret (v := 7) hx hb hr (fun t ht hW => ⟨⟨7, _, rfl, ⟨v_s_things, v_s_arraysMade, v_s_cellsMade, a_s_classes, a_s_starts, a_s_lengths, a_s_cells, a_vc, a_vd, rfl, by first | assumption | omega | (intros; omega) | decide⟩, by rw [ht]; exact hP, va_K.moved hW.alike hK, hD⟩, hS.F ht⟩) hS.2.2 dX4_makeArrays_110
        exact J51 ((3 - (0 : Int32).toInt).toNat + 1) (0 : Int64) (0 : Int64) (1 : Int64) (0 : Int32) H locs ls (by first | assumption | omega | (intros; omega) | decide) (by first | assumption | omega | (intros; omega) | decide) (by omega) hP hD hS (lv_sub hl [1, 2, 3, 4, 5, 0] rfl)
      refine m_icmp_ge (X := l8_11.toInt) (Y := x14.toInt) (tgt := 48) hx hb dX4_makeArrays_17 (by decide) rfl rfl (fun c17 => ?_) (fun c17 => ?_)
      · skip
        exact J48 H locs ls hP hD hS (lv_sub hl [0, 1, 2, 3, 4] rfl)
      · skip
        refine lv_iload hx hb dX4_makeArrays_20 (lv_at hl 5 rfl) ?_
        refine lv_aload_n hx hb dX4_makeArrays_22 rfl (lv_at hl 0 rfl) ?_
        refine va_get (D := D) (ci := 3) (v := .ref (q 16)) (C := RX4) (T := TX4) (N := 13) hx hb hts hinX4 hown hK hP 12 rfl rfl 4 (by decide) k_4_9 (fun _ h9 => h9) rfl dX4_makeArrays_23 ?_
        refine m_alen hx hb hK hP 16 0 rfl rfl (show 3 < 2147483648 by decide) dX4_makeArrays_26 (fun x26 g_x26 => ?_)
        have g_x26 : x26.toInt = 3 := g_x26
        refine m_icmp_ge (X := l8_11.toInt) (Y := x26.toInt) (tgt := 48) hx hb dX4_makeArrays_27 (by decide) rfl rfl (fun c27 => ?_) (fun c27 => ?_)
        · skip
          exact J48 H locs ls hP hD hS (lv_sub hl [0, 1, 2, 3, 4] rfl)
        · skip
          refine lv_aload_n hx hb dX4_makeArrays_30 rfl (lv_at hl 0 rfl) ?_
          refine va_get (D := D) (ci := 3) (v := .ref (q 16)) (C := RX4) (T := TX4) (N := 13) hx hb hts hinX4 hown hK hP 12 rfl rfl 4 (by decide) k_4_9 (fun _ h9 => h9) rfl dX4_makeArrays_31 ?_
          refine lv_iload hx hb dX4_makeArrays_34 (lv_at hl 5 rfl) ?_
          refine m_iald hx hb hK hP 16 0 rfl rfl (ix (by omega) (by omega)) dX4_makeArrays_36 (fun x36 e_x36 => ?_)
          have b_x36 := iB x36
          refine m_if_ge (X := x36.toInt) (tgt := 42) hx hb dX4_makeArrays_37 (by decide) rfl (fun c37 => ?_) (fun c37 => ?_)
          · skip
            obtain ⟨x42, e_x42⟩ : ∃ z : Int32, z = l8_11 + (1 : Int32) := ⟨_, rfl⟩
            obtain ⟨k_x42, g_x42⟩ : ∃ k : Int, x42.toInt = l8_11.toInt + (1) + k * 4294967296 := by rw [e_x42]; exact iAdd l8_11 (1)
            have b_x42 := iB x42
            try (have q_x42 : x42.toInt = l8_11.toInt + (1) := (by omega); clear g_x42 k_x42)
            refine lv_iinc (v := x42) (lv' := [(8, .int x42), (0, .ref (q 12)), (1, .ref s9), (2, .long 0), (4, .long 0), (6, .long 1)]) hx hb dX4_makeArrays_42 hl (k := 5) rfl (by rw [e_x42]; rfl) (by decide) rfl (fun ls hl => ?_)
            refine lv_goto (tgt := 11) hx hb dX4_makeArrays_45 (by decide) ?_
            exact ih11 x42 H locs ls (by first | assumption | omega | (intros; omega) | decide) (by first | assumption | omega | (intros; omega) | decide) (by omega) hP hD hS (lv_sub hl [1, 2, 3, 4, 5, 0] rfl)
          · skip
            refine lv_iconst (v := 3) hx hb dX4_makeArrays_40 (by decide) ?_
            subst hAe
            rw [hQ]
            exact W.iret (v := 3) hx hb hr (fun t ht hW => ⟨⟨3, _, rfl, ⟨v_s_things, v_s_arraysMade, v_s_cellsMade, a_s_classes, a_s_starts, a_s_lengths, a_s_cells, a_vc, a_vd, rfl, by first | assumption | omega | (intros; omega) | decide⟩, by rw [ht]; exact hP, va_K.moved hW.alike hK, hD⟩, hS.F ht⟩) hS.2.2 dX4_makeArrays_41
  exact J11 ((3 - (0 : Int32).toInt).toNat + 1) (0 : Int32) H locs ls (by first | assumption | omega | (intros; omega) | decide) (by first | assumption | omega | (intros; omega) | decide) (by omega) hP hD hS (lv_sub hl [4, 5, 3, 2, 1, 0] rfl)

def rmX4_cloneArray : Room := { frames := 60, cells := 0, slots := 0, locals := 1200 }
set_option maxHeartbeats 4000000 in
set_option maxRecDepth 100000 in
theorem tX4_cloneArray {l : Launch} {D : va_G} {K : Nat → Nat → Nat} {cs : Nat → ClassId} {q : Nat → Nat} {v_t_tapeSize v_t_textSize v_t_faultKind v_g_size v_h_size v_r_takes v_r_negative v_r_namePlace v_r_faultKind v_r_faultPlace v_a_size v_a_limit v_a_digits v_a_kind v_a_from v_a_to v_o_size v_b_size v_b_limit v_b_digits v_b_kind v_b_from v_b_to v_u_marksMade v_u_came v_u_guesses v_u_right v_u_taken v_s_things v_s_looked v_s_lookedTooOften v_s_arraysMade v_s_cellsMade : Int32} {a_t_tape a_t_text a_o_out a_u_outcomes a_u_indexes a_s_classes a_s_starts a_s_lengths a_vc : Nat → Int32} {a_g_beyond a_h_beyond a_r_scratch a_r_now a_u_atom a_u_other a_u_hand : Nat} {a_g_steps a_h_steps a_u_vars a_u_marks : Nat → Option Nat} {a_s_cells a_vd a_sj : Nat → Int64} {a_L : List Nat} {a_K a_iv a_inn : Nat → Nat} {a_si a_ac : Nat → Nat → Int32} (s9 : Nat) (h_s9 : aS a_L a_K s9) (p_0 : RF a_L a_K a_g_beyond a_h_beyond a_r_scratch a_g_steps a_h_steps a_u_atom a_u_other a_u_hand a_u_vars a_u_marks) (p_1 : STO v_s_things v_s_cellsMade a_s_starts a_s_lengths) (p_2 : PI a_L a_K a_si a_iv a_inn) : CtI l yX4_cloneArray (wG yX4_cloneArray cX4_cloneArray 4 (some .int)) rmX4_cloneArray D (twT cs) K [.ref (q 12), .ref s9] (tw cs q v_t_tapeSize v_t_textSize v_t_faultKind a_t_tape a_t_text a_g_beyond v_g_size a_g_steps a_h_beyond v_h_size a_h_steps a_r_scratch a_r_now v_r_takes v_r_negative v_r_namePlace v_r_faultKind v_r_faultPlace v_a_size v_a_limit v_a_digits v_a_kind v_a_from v_a_to v_o_size a_o_out v_b_size v_b_limit v_b_digits v_b_kind v_b_from v_b_to a_u_atom a_u_other a_u_hand v_u_marksMade v_u_came v_u_guesses v_u_right v_u_taken a_u_vars a_u_marks a_u_outcomes a_u_indexes v_s_things v_s_looked v_s_lookedTooOften v_s_arraysMade v_s_cellsMade a_s_classes a_s_starts a_s_lengths a_s_cells a_L a_K a_vc a_vd a_si a_sj a_iv a_inn a_ac) (fun r w1 => ∃ (v_s_things' : Int32) (v_s_arraysMade' : Int32) (v_s_cellsMade' : Int32) (a_s_classes' : Nat → Int32) (a_s_starts' : Nat → Int32) (a_s_lengths' : Nat → Int32) (a_s_cells' : Nat → Int64) (a_vc' : Nat → Int32) (a_vd' : Nat → Int64), w1 = (tw cs q v_t_tapeSize v_t_textSize v_t_faultKind a_t_tape a_t_text a_g_beyond v_g_size a_g_steps a_h_beyond v_h_size a_h_steps a_r_scratch a_r_now v_r_takes v_r_negative v_r_namePlace v_r_faultKind v_r_faultPlace v_a_size v_a_limit v_a_digits v_a_kind v_a_from v_a_to v_o_size a_o_out v_b_size v_b_limit v_b_digits v_b_kind v_b_from v_b_to a_u_atom a_u_other a_u_hand v_u_marksMade v_u_came v_u_guesses v_u_right v_u_taken a_u_vars a_u_marks a_u_outcomes a_u_indexes v_s_things' v_s_looked v_s_lookedTooOften v_s_arraysMade' v_s_cellsMade' a_s_classes' a_s_starts' a_s_lengths' a_s_cells' a_L a_K a_vc' a_vd' a_si a_sj a_iv a_inn a_ac) ∧ (STO v_s_things' v_s_cellsMade' a_s_starts' a_s_lengths')) 0 0 := by
  intro sz
  refine Met.ofW (cc := cX4_cloneArray) (maxL := 4) (ret := (some .int)) (by decide) rfl ?_
  intro p e s m args below meth c s₁ B hml hv
  obtain ⟨rfl, hsz, hP, hK, hD0, hE⟩ := hv
  have hx := B.exec
  have hb := B.bytes
  have hr := B.returns
  have hts := atoms_spec (ws := (wG yX4_cloneArray cX4_cloneArray 4 (some .int))) B.pre
  have hown : s.vm.findClass RX4 = some m.cls := findClass_of_methodNamed B.named
  have hlocks := B.notSynchronized
  subst hsz
  have hD := hD0.self (sz := s.heap.size)
  obtain ⟨A, hAe⟩ : ∃ A : Nat → Prop, A = va_A (tw cs q v_t_tapeSize v_t_textSize v_t_faultKind a_t_tape a_t_text a_g_beyond v_g_size a_g_steps a_h_beyond v_h_size a_h_steps a_r_scratch a_r_now v_r_takes v_r_negative v_r_namePlace v_r_faultKind v_r_faultPlace v_a_size v_a_limit v_a_digits v_a_kind v_a_from v_a_to v_o_size a_o_out v_b_size v_b_limit v_b_digits v_b_kind v_b_from v_b_to a_u_atom a_u_other a_u_hand v_u_marksMade v_u_came v_u_guesses v_u_right v_u_taken a_u_vars a_u_marks a_u_outcomes a_u_indexes v_s_things v_s_looked v_s_lookedTooOften v_s_arraysMade v_s_cellsMade a_s_classes a_s_starts a_s_lengths a_s_cells a_L a_K a_vc a_vd a_si a_sj a_iv a_inn a_ac) s.heap.size := ⟨_, rfl⟩
  rw [← hAe] at hD hE
  have hA : ∀ q : Nat, s.heap.size ≤ q → A q := fun q h => by rw [hAe]; exact Or.inr h
  have hS : va_S A s.heap s.heap [] := va_S.rf
  have hl := lv_entry ([.ref (q 12), .ref s9]) (n := 4) (Nat.le_of_ble_eq_true rfl)
  rw [lg_entry_eq]
  generalize (lg_sl ([.ref (q 12), .ref s9]) ++ List.replicate (4 - (lg_sl ([.ref (q 12), .ref s9])).length) Slot.unset).toArray = ls at hl ⊢
  have hl : lv_has ls 4 [(0, .ref (q 12)), (1, .ref s9)] := hl
  refine wq (fun Q hQ => ?_)
  have hinX4 : ∀ w ∈ wsX40, w ∈ (wG yX4_cloneArray cX4_cloneArray 4 (some .int)) := fun w h => List.mem_cons_of_mem _ (inlX4 w h)
  have hinX6 : ∀ w ∈ wsX60, w ∈ (wG yX4_cloneArray cX4_cloneArray 4 (some .int)) := fun w h => List.mem_cons_of_mem _ (inlX6 w h)
  have hinX8 : ∀ w ∈ wsX80, w ∈ (wG yX4_cloneArray cX4_cloneArray 4 (some .int)) := fun w h => List.mem_cons_of_mem _ (inlX8 w h)
  have kc0 : (7 : Int32).toInt = 7 := by decide
  have kc1 : (1 : Int64).toInt = 1 := by decide
  have k_38_0 := hts (.fieldLink RX4 266 "ArrayTrainer$Step" "first" "I") (List.mem_cons_of_mem _ (wr38 _ (List.mem_of_getElem? (i := 0) rfl)))
  have k_4_4 := hts (.fieldLink RX4 12 "ArrayTrainer$Runner" "store" "LArrayTrainer$Store;") (List.mem_cons_of_mem _ (wr4 _ (List.mem_of_getElem? (i := 4) rfl)))
  have k_36_5 := hts (.fieldLink RX4 152 "ArrayTrainer$Value" "cls" "I") (List.mem_cons_of_mem _ (wr36 _ (List.mem_of_getElem? (i := 5) rfl)))
  obtain ⟨H, hH⟩ : ∃ H : Heap, H = s.heap := ⟨_, rfl⟩
  obtain ⟨locs, hlc⟩ : ∃ L : List Loc, L = [] := ⟨_, rfl⟩
  have hP : va_P D vwCl (tw cs q v_t_tapeSize v_t_textSize v_t_faultKind a_t_tape a_t_text a_g_beyond v_g_size a_g_steps a_h_beyond v_h_size a_h_steps a_r_scratch a_r_now v_r_takes v_r_negative v_r_namePlace v_r_faultKind v_r_faultPlace v_a_size v_a_limit v_a_digits v_a_kind v_a_from v_a_to v_o_size a_o_out v_b_size v_b_limit v_b_digits v_b_kind v_b_from v_b_to a_u_atom a_u_other a_u_hand v_u_marksMade v_u_came v_u_guesses v_u_right v_u_taken a_u_vars a_u_marks a_u_outcomes a_u_indexes v_s_things v_s_looked v_s_lookedTooOften v_s_arraysMade v_s_cellsMade a_s_classes a_s_starts a_s_lengths a_s_cells a_L a_K a_vc a_vd a_si a_sj a_iv a_inn a_ac) H := by rw [hH]; exact hP
  have hS : va_S A s.heap H locs := by rw [hH, hlc]; exact hS
  refine wHL hH hlc ?_
  refine lv_aload_n hx hb dX4_cloneArray_0 rfl (lv_at hl 0 rfl) ?_
  refine lv_aload_n hx hb dX4_cloneArray_1 rfl (lv_at hl 1 rfl) ?_
  obtain ⟨k2_, hk2_⟩ := pl_S (X := (twX cs q v_t_tapeSize v_t_textSize v_t_faultKind a_t_tape a_t_text a_g_beyond v_g_size a_g_steps a_h_beyond v_h_size a_h_steps a_r_scratch a_r_now v_r_takes v_r_negative v_r_namePlace v_r_faultKind v_r_faultPlace v_a_size v_a_limit v_a_digits v_a_kind v_a_from v_a_to v_o_size a_o_out v_b_size v_b_limit v_b_digits v_b_kind v_b_from v_b_to a_u_atom a_u_other a_u_hand v_u_marksMade v_u_came v_u_guesses v_u_right v_u_taken a_u_vars a_u_marks a_u_outcomes a_u_indexes v_s_things v_s_looked v_s_lookedTooOften v_s_arraysMade v_s_cellsMade a_s_classes a_s_starts a_s_lengths a_s_cells)) (cI := cs 0) (vc := a_vc) (vd := a_vd) (si := a_si) (sj := a_sj) (iv := a_iv) (inn := a_inn) (ac := a_ac) h_s9
  refine va_get (D := D) (ci := 5) (v := .int (a_si s9 5)) (C := RX6) (T := TX6) (N := 15) hx hb hts hinX6 hown hK hP k2_ hk2_ rfl 5 (by decide) k_38_0 (fun _ h9 => h9) rfl dX4_cloneArray_2 ?_
  refine lv_topi (fun x2 e_x2 => ?_)
  have b_x2 := iB x2
  refine call_r (As := [.int x2]) (rest := []) ⟨hx, hb, hml, hown, hts⟩ (tX4_variable (l := l) x2 (by first | assumption | omega | (intros; omega) | decide)) (cwV 1 hts (gV (wr21 _ (List.mem_of_getElem? (i := 22) rfl)) (wr21 _ (List.mem_of_getElem? (i := 23) rfl)) (wr22 _ (List.mem_of_getElem? (i := 0) rfl)) (wr2 _ (List.mem_of_getElem? (i := 10) rfl)) (wr22 _ (List.mem_of_getElem? (i := 1) rfl))) rfl rfl rfl (by decide +kernel) ⟨Nat.le_of_ble_eq_true rfl, Nat.le_of_ble_eq_true rfl⟩) (va_recv hK hP (ci := 3) (q0 := 12) rfl rfl) hK hP hD hE hS hA rfl hl.1 rfl (Nat.le_of_ble_eq_true rfl) dX4_cloneArray_5 ⟨Nat.le_of_ble_eq_true rfl, Nat.le_of_ble_eq_true rfl⟩ (fun r5 w9 H locs hw5 hP hD hS => ?_)
  obtain ⟨rfl, hw5_0⟩ := hw5
  refine lv_astore_n (lv' := [(2, .ref r5), (0, .ref (q 12)), (1, .ref s9)]) hx hb dX4_cloneArray_8 rfl hl (by decide) rfl (fun ls hl => ?_)
  refine lv_aload_n hx hb dX4_cloneArray_9 rfl (lv_at hl 0 rfl) ?_
  refine call_iS (As := [.ref r5]) (rest := []) ⟨hx, hb, hml, hown, hts⟩ (tX4_needArray (l := l) r5 hw5_0) (va_cwS 1 hts (gS (wr38 _ (List.mem_of_getElem? (i := 1) rfl)) (wr38 _ (List.mem_of_getElem? (i := 2) rfl)) (wr2 _ (List.mem_of_getElem? (i := 10) rfl)) (wr38 _ (List.mem_of_getElem? (i := 3) rfl))) rfl rfl rfl (by decide +kernel) ⟨Nat.le_of_ble_eq_true rfl, Nat.le_of_ble_eq_true rfl⟩) hK hP hD hE hS hA rfl hl.1 rfl (Nat.le_of_ble_eq_true rfl) dX4_cloneArray_10 ⟨Nat.le_of_ble_eq_true rfl, Nat.le_of_ble_eq_true rfl⟩ (fun r10 w9 H locs hw10 hP hD hS => ?_)
  obtain ⟨rfl⟩ := hw10
  have b_r10 := iB r10
  refine lv_istore_n (lv' := [(3, .int r10), (2, .ref r5), (0, .ref (q 12)), (1, .ref s9)]) hx hb dX4_cloneArray_13 rfl hl (by decide) rfl (fun ls hl => ?_)
  refine lv_iload_n hx hb dX4_cloneArray_14 rfl (lv_at hl 0 rfl) ?_
  refine m_if_eq (X := r10.toInt) (tgt := 20) hx hb dX4_cloneArray_15 (by decide) rfl (fun c15 => ?_) (fun c15 => ?_)
  · skip
    refine lv_aload_n hx hb dX4_cloneArray_20 rfl (lv_at hl 2 rfl) ?_
    refine va_get (D := D) (ci := 3) (v := .ref (q 17)) (C := RX4) (T := TX4) (N := 13) hx hb hts hinX4 hown hK hP 12 rfl rfl 0 (by decide) k_4_4 (fun _ h9 => h9) rfl dX4_cloneArray_21 ?_
    refine lv_lconst (v := 1) hx hb dX4_cloneArray_24 (by decide) ?_
    refine lv_aload_n hx hb dX4_cloneArray_25 rfl (lv_at hl 2 rfl) ?_
    refine va_get (D := D) (ci := 3) (v := .ref (q 17)) (C := RX4) (T := TX4) (N := 13) hx hb hts hinX4 hown hK hP 12 rfl rfl 0 (by decide) k_4_4 (fun _ h9 => h9) rfl dX4_cloneArray_26 ?_
    refine lv_aload_n hx hb dX4_cloneArray_29 rfl (lv_at hl 1 rfl) ?_
    obtain ⟨k30_, hk30_⟩ := pl_V (X := (twX cs q v_t_tapeSize v_t_textSize v_t_faultKind a_t_tape a_t_text a_g_beyond v_g_size a_g_steps a_h_beyond v_h_size a_h_steps a_r_scratch a_r_now v_r_takes v_r_negative v_r_namePlace v_r_faultKind v_r_faultPlace v_a_size v_a_limit v_a_digits v_a_kind v_a_from v_a_to v_o_size a_o_out v_b_size v_b_limit v_b_digits v_b_kind v_b_from v_b_to a_u_atom a_u_other a_u_hand v_u_marksMade v_u_came v_u_guesses v_u_right v_u_taken a_u_vars a_u_marks a_u_outcomes a_u_indexes v_s_things v_s_looked v_s_lookedTooOften v_s_arraysMade v_s_cellsMade a_s_classes a_s_starts a_s_lengths a_s_cells)) (cI := cs 0) (vc := a_vc) (vd := a_vd) (si := a_si) (sj := a_sj) (iv := a_iv) (inn := a_inn) (ac := a_ac) hw5_0
    refine call_i (As := []) (rest := [.ref (q 17), .long 1, .ref (q 17)]) ⟨hx, hb, hml, hown, hts⟩ (tX8_array (l := l) r5 hw5_0 ) (cwV 0 hts (gV (wr39 _ (List.mem_of_getElem? (i := 22) rfl)) (wr38 _ (List.mem_of_getElem? (i := 13) rfl)) (wr38 _ (List.mem_of_getElem? (i := 14) rfl)) (wr4 _ (List.mem_of_getElem? (i := 11) rfl)) (wr38 _ (List.mem_of_getElem? (i := 15) rfl))) rfl rfl rfl (by decide +kernel) ⟨Nat.le_of_ble_eq_true rfl, Nat.le_of_ble_eq_true rfl⟩) (va_recv hK hP (ci := 7) (q0 := k30_) rfl hk30_) hK hP hD hE hS hA rfl hl.1 rfl (Nat.le_of_ble_eq_true rfl) dX4_cloneArray_30 ⟨Nat.le_of_ble_eq_true rfl, Nat.le_of_ble_eq_true rfl⟩ (fun r30 w9 H locs hw30 hP hD hS => ?_)
    obtain ⟨rfl⟩ := hw30
    have b_r30 := iB r30
    refine call_i (As := [.int r30]) (rest := [.long 1, .ref (q 17)]) ⟨hx, hb, hml, hown, hts⟩ (tX7_lengthOf (l := l) r30 (by first | assumption | omega | (intros; omega) | decide)) (cwV 1 hts (gV (wr41 _ (List.mem_of_getElem? (i := 19) rfl)) (wr41 _ (List.mem_of_getElem? (i := 20) rfl)) (wr41 _ (List.mem_of_getElem? (i := 21) rfl)) (wr4 _ (List.mem_of_getElem? (i := 3) rfl)) (wr41 _ (List.mem_of_getElem? (i := 22) rfl))) rfl rfl rfl (by decide +kernel) ⟨Nat.le_of_ble_eq_true rfl, Nat.le_of_ble_eq_true rfl⟩) (va_recv hK hP (ci := 6) (q0 := 17) rfl rfl) hK hP hD hE hS hA rfl hl.1 rfl (Nat.le_of_ble_eq_true rfl) dX4_cloneArray_33 ⟨Nat.le_of_ble_eq_true rfl, Nat.le_of_ble_eq_true rfl⟩ (fun r33 w9 H locs hw33 hP hD hS => ?_)
    obtain ⟨rfl, hw33_0, hw33_1, hw33_2⟩ := hw33
    have b_r33 := iB r33
    refine m_i2l (X := r33.toInt) hx hb dX4_cloneArray_36 rfl (fun x36 e_x36 g_x36 => ?_)
    refine call_i (As := [.long 1, .long x36]) (rest := []) ⟨hx, hb, hml, hown, hts⟩ (tX7_hasRoom (l := l) (1 : Int64) x36) (cwV 2 hts (gV (wr41 _ (List.mem_of_getElem? (i := 6) rfl)) (wr41 _ (List.mem_of_getElem? (i := 7) rfl)) (wr41 _ (List.mem_of_getElem? (i := 8) rfl)) (wr4 _ (List.mem_of_getElem? (i := 3) rfl)) (wr41 _ (List.mem_of_getElem? (i := 9) rfl))) rfl rfl rfl (by decide +kernel) ⟨Nat.le_of_ble_eq_true rfl, Nat.le_of_ble_eq_true rfl⟩) (va_recv hK hP (ci := 6) (q0 := 17) rfl rfl) hK hP hD hE hS hA rfl hl.1 rfl (Nat.le_of_ble_eq_true rfl) dX4_cloneArray_37 ⟨Nat.le_of_ble_eq_true rfl, Nat.le_of_ble_eq_true rfl⟩ (fun r37 w9 H locs hw37 hP hD hS => ?_)
    obtain ⟨rfl, hw37_0⟩ := hw37
    have b_r37 := iB r37
    refine m_if_ne (X := r37.toInt) (tgt := 46) hx hb dX4_cloneArray_40 (by decide) rfl (fun c40 => ?_) (fun c40 => ?_)
    · skip
      refine lv_aload_n hx hb dX4_cloneArray_46 rfl (lv_at hl 2 rfl) ?_
      refine lv_aload_n hx hb dX4_cloneArray_47 rfl (lv_at hl 3 rfl) ?_
      refine lv_aload_n hx hb dX4_cloneArray_48 rfl (lv_at hl 1 rfl) ?_
      obtain ⟨k49_, hk49_⟩ := pl_V (X := (twX cs q v_t_tapeSize v_t_textSize v_t_faultKind a_t_tape a_t_text a_g_beyond v_g_size a_g_steps a_h_beyond v_h_size a_h_steps a_r_scratch a_r_now v_r_takes v_r_negative v_r_namePlace v_r_faultKind v_r_faultPlace v_a_size v_a_limit v_a_digits v_a_kind v_a_from v_a_to v_o_size a_o_out v_b_size v_b_limit v_b_digits v_b_kind v_b_from v_b_to a_u_atom a_u_other a_u_hand v_u_marksMade v_u_came v_u_guesses v_u_right v_u_taken a_u_vars a_u_marks a_u_outcomes a_u_indexes v_s_things v_s_looked v_s_lookedTooOften v_s_arraysMade v_s_cellsMade a_s_classes a_s_starts a_s_lengths a_s_cells)) (cI := cs 0) (vc := a_vc) (vd := a_vd) (si := a_si) (sj := a_sj) (iv := a_iv) (inn := a_inn) (ac := a_ac) hw5_0
      refine va_get (D := D) (ci := 7) (v := .int (a_vc r5)) (C := RX8) (T := TX8) (N := 2) hx hb hts hinX8 hown hK hP k49_ hk49_ rfl 0 (by decide) k_36_5 (fun _ h9 => h9) rfl dX4_cloneArray_49 ?_
      refine lv_topi (fun x49 e_x49 => ?_)
      have b_x49 := iB x49
      refine lv_aload_n hx hb dX4_cloneArray_52 rfl (lv_at hl 2 rfl) ?_
      refine va_get (D := D) (ci := 3) (v := .ref (q 17)) (C := RX4) (T := TX4) (N := 13) hx hb hts hinX4 hown hK hP 12 rfl rfl 0 (by decide) k_4_4 (fun _ h9 => h9) rfl dX4_cloneArray_53 ?_
      refine lv_aload_n hx hb dX4_cloneArray_56 rfl (lv_at hl 1 rfl) ?_
      obtain ⟨k57_, hk57_⟩ := pl_V (X := (twX cs q v_t_tapeSize v_t_textSize v_t_faultKind a_t_tape a_t_text a_g_beyond v_g_size a_g_steps a_h_beyond v_h_size a_h_steps a_r_scratch a_r_now v_r_takes v_r_negative v_r_namePlace v_r_faultKind v_r_faultPlace v_a_size v_a_limit v_a_digits v_a_kind v_a_from v_a_to v_o_size a_o_out v_b_size v_b_limit v_b_digits v_b_kind v_b_from v_b_to a_u_atom a_u_other a_u_hand v_u_marksMade v_u_came v_u_guesses v_u_right v_u_taken a_u_vars a_u_marks a_u_outcomes a_u_indexes v_s_things v_s_looked v_s_lookedTooOften v_s_arraysMade v_s_cellsMade a_s_classes a_s_starts a_s_lengths a_s_cells)) (cI := cs 0) (vc := a_vc) (vd := a_vd) (si := a_si) (sj := a_sj) (iv := a_iv) (inn := a_inn) (ac := a_ac) hw5_0
      refine call_i (As := []) (rest := [.ref (q 17), .int x49, .ref s9, .ref (q 12)]) ⟨hx, hb, hml, hown, hts⟩ (tX8_array (l := l) r5 hw5_0 ) (cwV 0 hts (gV (wr39 _ (List.mem_of_getElem? (i := 22) rfl)) (wr38 _ (List.mem_of_getElem? (i := 13) rfl)) (wr38 _ (List.mem_of_getElem? (i := 14) rfl)) (wr4 _ (List.mem_of_getElem? (i := 11) rfl)) (wr38 _ (List.mem_of_getElem? (i := 15) rfl))) rfl rfl rfl (by decide +kernel) ⟨Nat.le_of_ble_eq_true rfl, Nat.le_of_ble_eq_true rfl⟩) (va_recv hK hP (ci := 7) (q0 := k57_) rfl hk57_) hK hP hD hE hS hA rfl hl.1 rfl (Nat.le_of_ble_eq_true rfl) dX4_cloneArray_57 ⟨Nat.le_of_ble_eq_true rfl, Nat.le_of_ble_eq_true rfl⟩ (fun r57 w9 H locs hw57 hP hD hS => ?_)
      obtain ⟨rfl⟩ := hw57
      have b_r57 := iB r57
      refine call_i (As := [.int r57]) (rest := [.int x49, .ref s9, .ref (q 12)]) ⟨hx, hb, hml, hown, hts⟩ (tX7_makeClone (l := l) r57 (by first | assumption | omega | (intros; omega) | decide)) (cwV 1 hts (gV (wr42 _ (List.mem_of_getElem? (i := 3) rfl)) (wr42 _ (List.mem_of_getElem? (i := 4) rfl)) (wr42 _ (List.mem_of_getElem? (i := 5) rfl)) (wr4 _ (List.mem_of_getElem? (i := 3) rfl)) (wr42 _ (List.mem_of_getElem? (i := 6) rfl))) rfl rfl rfl (by decide +kernel) ⟨Nat.le_of_ble_eq_true rfl, Nat.le_of_ble_eq_true rfl⟩) (va_recv hK hP (ci := 6) (q0 := 17) rfl rfl) hK hP hD hE hS hA rfl hl.1 rfl (Nat.le_of_ble_eq_true rfl) dX4_cloneArray_60 ⟨Nat.le_of_ble_eq_true rfl, Nat.le_of_ble_eq_true rfl⟩ (fun r60 w9 H locs hw60 hP hD hS => ?_)
      obtain ⟨v_s_things_60, v_s_arraysMade_60, v_s_cellsMade_60, a_s_classes_60, a_s_starts_60, a_s_lengths_60, a_s_cells_60, rfl, hw60_0, hw60_1⟩ := hw60
      have b_v_s_things_60 := iB v_s_things_60
      have b_v_s_arraysMade_60 := iB v_s_arraysMade_60
      have b_v_s_cellsMade_60 := iB v_s_cellsMade_60
      have b_r60 := iB r60
      refine m_i2l (X := r60.toInt) hx hb dX4_cloneArray_63 rfl (fun x63 e_x63 g_x63 => ?_)
      refine call_i (As := [.ref s9, .int x49, .long x63]) (rest := []) ⟨hx, hb, hml, hown, hts⟩ (tX4_tell (l := l) s9 h_s9 x49 x63 (by first | assumption | omega | (intros; omega) | decide)) (cwV 3 hts (gV (wr37 _ (List.mem_of_getElem? (i := 10) rfl)) (wr37 _ (List.mem_of_getElem? (i := 11) rfl)) (wr37 _ (List.mem_of_getElem? (i := 12) rfl)) (wr2 _ (List.mem_of_getElem? (i := 10) rfl)) (wr37 _ (List.mem_of_getElem? (i := 13) rfl))) rfl rfl rfl (by decide +kernel) ⟨Nat.le_of_ble_eq_true rfl, Nat.le_of_ble_eq_true rfl⟩) (va_recv hK hP (ci := 3) (q0 := 12) rfl rfl) hK hP hD hE hS hA rfl hl.1 rfl (Nat.le_of_ble_eq_true rfl) dX4_cloneArray_64 ⟨Nat.le_of_ble_eq_true rfl, Nat.le_of_ble_eq_true rfl⟩ (fun r64 w9 H locs hw64 hP hD hS => ?_)
      obtain ⟨a_vc_64, a_vd_64, rfl, hw64_0⟩ := hw64
      have b_r64 := iB r64
      subst hAe
      rw [hQ]
      exact W.iret (v := r64) hx hb hr (fun t ht hW => ⟨⟨r64, _, rfl, ⟨v_s_things_60, v_s_arraysMade_60, v_s_cellsMade_60, a_s_classes_60, a_s_starts_60, a_s_lengths_60, a_s_cells_60, a_vc_64, a_vd_64, rfl, by first | assumption | omega | (intros; omega) | decide⟩, by rw [ht]; exact hP, va_K.moved hW.alike hK, hD⟩, hS.F ht⟩) hS.2.2 dX4_cloneArray_67
    · skip
      refine lv_bipush (v := 7) hx hb dX4_cloneArray_43 (by decide) ?_
      subst hAe
      rw [hQ]
      exact W.iret (v := 7) hx hb hr (fun t ht hW => ⟨⟨7, _, rfl, ⟨v_s_things, v_s_arraysMade, v_s_cellsMade, a_s_classes, a_s_starts, a_s_lengths, a_s_cells, a_vc, a_vd, rfl, by first | assumption | omega | (intros; omega) | decide⟩, by rw [ht]; exact hP, va_K.moved hW.alike hK, hD⟩, hS.F ht⟩) hS.2.2 dX4_cloneArray_45
  · skip
    refine lv_iload_n hx hb dX4_cloneArray_18 rfl (lv_at hl 0 rfl) ?_
    subst hAe
    rw [hQ]
    exact W.iret (v := r10) hx hb hr (fun t ht hW => ⟨⟨r10, _, rfl, ⟨v_s_things, v_s_arraysMade, v_s_cellsMade, a_s_classes, a_s_starts, a_s_lengths, a_s_cells, a_vc, a_vd, rfl, by first | assumption | omega | (intros; omega) | decide⟩, by rw [ht]; exact hP, va_K.moved hW.alike hK, hD⟩, hS.F ht⟩) hS.2.2 dX4_cloneArray_19

def rmX4_castValue : Room := { frames := 60, cells := 0, slots := 0, locals := 1200 }
set_option maxHeartbeats 4000000 in
set_option maxRecDepth 100000 in
theorem tX4_castValue {l : Launch} {D : va_G} {K : Nat → Nat → Nat} {cs : Nat → ClassId} {q : Nat → Nat} {v_t_tapeSize v_t_textSize v_t_faultKind v_g_size v_h_size v_r_takes v_r_negative v_r_namePlace v_r_faultKind v_r_faultPlace v_a_size v_a_limit v_a_digits v_a_kind v_a_from v_a_to v_o_size v_b_size v_b_limit v_b_digits v_b_kind v_b_from v_b_to v_u_marksMade v_u_came v_u_guesses v_u_right v_u_taken v_s_things v_s_looked v_s_lookedTooOften v_s_arraysMade v_s_cellsMade : Int32} {a_t_tape a_t_text a_o_out a_u_outcomes a_u_indexes a_s_classes a_s_starts a_s_lengths a_vc : Nat → Int32} {a_g_beyond a_h_beyond a_r_scratch a_r_now a_u_atom a_u_other a_u_hand : Nat} {a_g_steps a_h_steps a_u_vars a_u_marks : Nat → Option Nat} {a_s_cells a_vd a_sj : Nat → Int64} {a_L : List Nat} {a_K a_iv a_inn : Nat → Nat} {a_si a_ac : Nat → Nat → Int32} (s9 : Nat) (h_s9 : aS a_L a_K s9) (p_0 : RF a_L a_K a_g_beyond a_h_beyond a_r_scratch a_g_steps a_h_steps a_u_atom a_u_other a_u_hand a_u_vars a_u_marks) (p_1 : STO v_s_things v_s_cellsMade a_s_starts a_s_lengths) (p_2 : PI a_L a_K a_si a_iv a_inn) : CtI l yX4_castValue (wG yX4_castValue cX4_castValue 3 (some .int)) rmX4_castValue D (twT cs) K [.ref (q 12), .ref s9] (tw cs q v_t_tapeSize v_t_textSize v_t_faultKind a_t_tape a_t_text a_g_beyond v_g_size a_g_steps a_h_beyond v_h_size a_h_steps a_r_scratch a_r_now v_r_takes v_r_negative v_r_namePlace v_r_faultKind v_r_faultPlace v_a_size v_a_limit v_a_digits v_a_kind v_a_from v_a_to v_o_size a_o_out v_b_size v_b_limit v_b_digits v_b_kind v_b_from v_b_to a_u_atom a_u_other a_u_hand v_u_marksMade v_u_came v_u_guesses v_u_right v_u_taken a_u_vars a_u_marks a_u_outcomes a_u_indexes v_s_things v_s_looked v_s_lookedTooOften v_s_arraysMade v_s_cellsMade a_s_classes a_s_starts a_s_lengths a_s_cells a_L a_K a_vc a_vd a_si a_sj a_iv a_inn a_ac) (fun r w1 => ∃ (a_vc' : Nat → Int32) (a_vd' : Nat → Int64), w1 = (tw cs q v_t_tapeSize v_t_textSize v_t_faultKind a_t_tape a_t_text a_g_beyond v_g_size a_g_steps a_h_beyond v_h_size a_h_steps a_r_scratch a_r_now v_r_takes v_r_negative v_r_namePlace v_r_faultKind v_r_faultPlace v_a_size v_a_limit v_a_digits v_a_kind v_a_from v_a_to v_o_size a_o_out v_b_size v_b_limit v_b_digits v_b_kind v_b_from v_b_to a_u_atom a_u_other a_u_hand v_u_marksMade v_u_came v_u_guesses v_u_right v_u_taken a_u_vars a_u_marks a_u_outcomes a_u_indexes v_s_things v_s_looked v_s_lookedTooOften v_s_arraysMade v_s_cellsMade a_s_classes a_s_starts a_s_lengths a_s_cells a_L a_K a_vc' a_vd' a_si a_sj a_iv a_inn a_ac)) 0 0 := by
  intro sz
  refine Met.ofW (cc := cX4_castValue) (maxL := 3) (ret := (some .int)) (by decide) rfl ?_
  intro p e s m args below meth c s₁ B hml hv
  obtain ⟨rfl, hsz, hP, hK, hD0, hE⟩ := hv
  have hx := B.exec
  have hb := B.bytes
  have hr := B.returns
  have hts := atoms_spec (ws := (wG yX4_castValue cX4_castValue 3 (some .int))) B.pre
  have hown : s.vm.findClass RX4 = some m.cls := findClass_of_methodNamed B.named
  have hlocks := B.notSynchronized
  subst hsz
  have hD := hD0.self (sz := s.heap.size)
  obtain ⟨A, hAe⟩ : ∃ A : Nat → Prop, A = va_A (tw cs q v_t_tapeSize v_t_textSize v_t_faultKind a_t_tape a_t_text a_g_beyond v_g_size a_g_steps a_h_beyond v_h_size a_h_steps a_r_scratch a_r_now v_r_takes v_r_negative v_r_namePlace v_r_faultKind v_r_faultPlace v_a_size v_a_limit v_a_digits v_a_kind v_a_from v_a_to v_o_size a_o_out v_b_size v_b_limit v_b_digits v_b_kind v_b_from v_b_to a_u_atom a_u_other a_u_hand v_u_marksMade v_u_came v_u_guesses v_u_right v_u_taken a_u_vars a_u_marks a_u_outcomes a_u_indexes v_s_things v_s_looked v_s_lookedTooOften v_s_arraysMade v_s_cellsMade a_s_classes a_s_starts a_s_lengths a_s_cells a_L a_K a_vc a_vd a_si a_sj a_iv a_inn a_ac) s.heap.size := ⟨_, rfl⟩
  rw [← hAe] at hD hE
  have hA : ∀ q : Nat, s.heap.size ≤ q → A q := fun q h => by rw [hAe]; exact Or.inr h
  have hS : va_S A s.heap s.heap [] := va_S.rf
  have hl := lv_entry ([.ref (q 12), .ref s9]) (n := 3) (Nat.le_of_ble_eq_true rfl)
  rw [lg_entry_eq]
  generalize (lg_sl ([.ref (q 12), .ref s9]) ++ List.replicate (3 - (lg_sl ([.ref (q 12), .ref s9])).length) Slot.unset).toArray = ls at hl ⊢
  have hl : lv_has ls 3 [(0, .ref (q 12)), (1, .ref s9)] := hl
  refine wq (fun Q hQ => ?_)
  have hinX6 : ∀ w ∈ wsX60, w ∈ (wG yX4_castValue cX4_castValue 3 (some .int)) := fun w h => List.mem_cons_of_mem _ (inlX6 w h)
  have hinX8 : ∀ w ∈ wsX80, w ∈ (wG yX4_castValue cX4_castValue 3 (some .int)) := fun w h => List.mem_cons_of_mem _ (inlX8 w h)
  have kc0 : (5 : Int32).toInt = 5 := by decide
  have kc1 : (6 : Int32).toInt = 6 := by decide
  have k_38_0 := hts (.fieldLink RX4 266 "ArrayTrainer$Step" "first" "I") (List.mem_cons_of_mem _ (wr38 _ (List.mem_of_getElem? (i := 0) rfl)))
  have k_36_5 := hts (.fieldLink RX4 152 "ArrayTrainer$Value" "cls" "I") (List.mem_cons_of_mem _ (wr36 _ (List.mem_of_getElem? (i := 5) rfl)))
  have k_36_6 := hts (.fieldLink RX4 155 "ArrayTrainer$Value" "datum" "J") (List.mem_cons_of_mem _ (wr36 _ (List.mem_of_getElem? (i := 6) rfl)))
  have k_37_19 := hts (.fieldLink RX4 202 "ArrayTrainer$Step" "cls" "I") (List.mem_cons_of_mem _ (wr37 _ (List.mem_of_getElem? (i := 19) rfl)))
  obtain ⟨H, hH⟩ : ∃ H : Heap, H = s.heap := ⟨_, rfl⟩
  obtain ⟨locs, hlc⟩ : ∃ L : List Loc, L = [] := ⟨_, rfl⟩
  have hP : va_P D vwCl (tw cs q v_t_tapeSize v_t_textSize v_t_faultKind a_t_tape a_t_text a_g_beyond v_g_size a_g_steps a_h_beyond v_h_size a_h_steps a_r_scratch a_r_now v_r_takes v_r_negative v_r_namePlace v_r_faultKind v_r_faultPlace v_a_size v_a_limit v_a_digits v_a_kind v_a_from v_a_to v_o_size a_o_out v_b_size v_b_limit v_b_digits v_b_kind v_b_from v_b_to a_u_atom a_u_other a_u_hand v_u_marksMade v_u_came v_u_guesses v_u_right v_u_taken a_u_vars a_u_marks a_u_outcomes a_u_indexes v_s_things v_s_looked v_s_lookedTooOften v_s_arraysMade v_s_cellsMade a_s_classes a_s_starts a_s_lengths a_s_cells a_L a_K a_vc a_vd a_si a_sj a_iv a_inn a_ac) H := by rw [hH]; exact hP
  have hS : va_S A s.heap H locs := by rw [hH, hlc]; exact hS
  refine wHL hH hlc ?_
  refine lv_aload_n hx hb dX4_castValue_0 rfl (lv_at hl 0 rfl) ?_
  refine lv_aload_n hx hb dX4_castValue_1 rfl (lv_at hl 1 rfl) ?_
  obtain ⟨k2_, hk2_⟩ := pl_S (X := (twX cs q v_t_tapeSize v_t_textSize v_t_faultKind a_t_tape a_t_text a_g_beyond v_g_size a_g_steps a_h_beyond v_h_size a_h_steps a_r_scratch a_r_now v_r_takes v_r_negative v_r_namePlace v_r_faultKind v_r_faultPlace v_a_size v_a_limit v_a_digits v_a_kind v_a_from v_a_to v_o_size a_o_out v_b_size v_b_limit v_b_digits v_b_kind v_b_from v_b_to a_u_atom a_u_other a_u_hand v_u_marksMade v_u_came v_u_guesses v_u_right v_u_taken a_u_vars a_u_marks a_u_outcomes a_u_indexes v_s_things v_s_looked v_s_lookedTooOften v_s_arraysMade v_s_cellsMade a_s_classes a_s_starts a_s_lengths a_s_cells)) (cI := cs 0) (vc := a_vc) (vd := a_vd) (si := a_si) (sj := a_sj) (iv := a_iv) (inn := a_inn) (ac := a_ac) h_s9
  refine va_get (D := D) (ci := 5) (v := .int (a_si s9 5)) (C := RX6) (T := TX6) (N := 15) hx hb hts hinX6 hown hK hP k2_ hk2_ rfl 5 (by decide) k_38_0 (fun _ h9 => h9) rfl dX4_castValue_2 ?_
  refine lv_topi (fun x2 e_x2 => ?_)
  have b_x2 := iB x2
  refine call_r (As := [.int x2]) (rest := []) ⟨hx, hb, hml, hown, hts⟩ (tX4_variable (l := l) x2 (by first | assumption | omega | (intros; omega) | decide)) (cwV 1 hts (gV (wr21 _ (List.mem_of_getElem? (i := 22) rfl)) (wr21 _ (List.mem_of_getElem? (i := 23) rfl)) (wr22 _ (List.mem_of_getElem? (i := 0) rfl)) (wr2 _ (List.mem_of_getElem? (i := 10) rfl)) (wr22 _ (List.mem_of_getElem? (i := 1) rfl))) rfl rfl rfl (by decide +kernel) ⟨Nat.le_of_ble_eq_true rfl, Nat.le_of_ble_eq_true rfl⟩) (va_recv hK hP (ci := 3) (q0 := 12) rfl rfl) hK hP hD hE hS hA rfl hl.1 rfl (Nat.le_of_ble_eq_true rfl) dX4_castValue_5 ⟨Nat.le_of_ble_eq_true rfl, Nat.le_of_ble_eq_true rfl⟩ (fun r5 w9 H locs hw5 hP hD hS => ?_)
  obtain ⟨rfl, hw5_0⟩ := hw5
  refine lv_astore_n (lv' := [(2, .ref r5), (0, .ref (q 12)), (1, .ref s9)]) hx hb dX4_castValue_8 rfl hl (by decide) rfl (fun ls hl => ?_)
  refine lv_aload_n hx hb dX4_castValue_9 rfl (lv_at hl 0 rfl) ?_
  obtain ⟨k10_, hk10_⟩ := pl_V (X := (twX cs q v_t_tapeSize v_t_textSize v_t_faultKind a_t_tape a_t_text a_g_beyond v_g_size a_g_steps a_h_beyond v_h_size a_h_steps a_r_scratch a_r_now v_r_takes v_r_negative v_r_namePlace v_r_faultKind v_r_faultPlace v_a_size v_a_limit v_a_digits v_a_kind v_a_from v_a_to v_o_size a_o_out v_b_size v_b_limit v_b_digits v_b_kind v_b_from v_b_to a_u_atom a_u_other a_u_hand v_u_marksMade v_u_came v_u_guesses v_u_right v_u_taken a_u_vars a_u_marks a_u_outcomes a_u_indexes v_s_things v_s_looked v_s_lookedTooOften v_s_arraysMade v_s_cellsMade a_s_classes a_s_starts a_s_lengths a_s_cells)) (cI := cs 0) (vc := a_vc) (vd := a_vd) (si := a_si) (sj := a_sj) (iv := a_iv) (inn := a_inn) (ac := a_ac) hw5_0
  refine call_i (As := []) (rest := []) ⟨hx, hb, hml, hown, hts⟩ (tX8_isNumber (l := l) r5 hw5_0 ) (cwV 0 hts (gV (wr39 _ (List.mem_of_getElem? (i := 17) rfl)) (wr39 _ (List.mem_of_getElem? (i := 18) rfl)) (wr39 _ (List.mem_of_getElem? (i := 19) rfl)) (wr4 _ (List.mem_of_getElem? (i := 11) rfl)) (wr39 _ (List.mem_of_getElem? (i := 20) rfl))) rfl rfl rfl (by decide +kernel) ⟨Nat.le_of_ble_eq_true rfl, Nat.le_of_ble_eq_true rfl⟩) (va_recv hK hP (ci := 7) (q0 := k10_) rfl hk10_) hK hP hD hE hS hA rfl hl.1 rfl (Nat.le_of_ble_eq_true rfl) dX4_castValue_10 ⟨Nat.le_of_ble_eq_true rfl, Nat.le_of_ble_eq_true rfl⟩ (fun r10 w9 H locs hw10 hP hD hS => ?_)
  obtain ⟨rfl, hw10_0⟩ := hw10
  have b_r10 := iB r10
  have J30 : ∀ (H : Heap) (locs : List Loc) (ls : Array Slot), va_P D vwCl (tw cs q v_t_tapeSize v_t_textSize v_t_faultKind a_t_tape a_t_text a_g_beyond v_g_size a_g_steps a_h_beyond v_h_size a_h_steps a_r_scratch a_r_now v_r_takes v_r_negative v_r_namePlace v_r_faultKind v_r_faultPlace v_a_size v_a_limit v_a_digits v_a_kind v_a_from v_a_to v_o_size a_o_out v_b_size v_b_limit v_b_digits v_b_kind v_b_from v_b_to a_u_atom a_u_other a_u_hand v_u_marksMade v_u_came v_u_guesses v_u_right v_u_taken a_u_vars a_u_marks a_u_outcomes a_u_indexes v_s_things v_s_looked v_s_lookedTooOften v_s_arraysMade v_s_cellsMade a_s_classes a_s_starts a_s_lengths a_s_cells a_L a_K a_vc a_vd a_si a_sj a_iv a_inn a_ac) H → va_D A (tw cs q v_t_tapeSize v_t_textSize v_t_faultKind a_t_tape a_t_text a_g_beyond v_g_size a_g_steps a_h_beyond v_h_size a_h_steps a_r_scratch a_r_now v_r_takes v_r_negative v_r_namePlace v_r_faultKind v_r_faultPlace v_a_size v_a_limit v_a_digits v_a_kind v_a_from v_a_to v_o_size a_o_out v_b_size v_b_limit v_b_digits v_b_kind v_b_from v_b_to a_u_atom a_u_other a_u_hand v_u_marksMade v_u_came v_u_guesses v_u_right v_u_taken a_u_vars a_u_marks a_u_outcomes a_u_indexes v_s_things v_s_looked v_s_lookedTooOften v_s_arraysMade v_s_cellsMade a_s_classes a_s_starts a_s_lengths a_s_cells a_L a_K a_vc a_vd a_si a_sj a_iv a_inn a_ac) → va_S A s.heap H locs → lv_has ls 3 [(0, .ref (q 12)), (1, .ref s9), (2, .ref r5)] → W p l e (headSpec (wG yX4_castValue cX4_castValue 3 (some .int)) rmX4_castValue).room s m ([.ref (q 12), .ref s9] : List Value).toArray below meth c H locs 0 0 Q (F0 m 30 ls []) := by
    intro H locs ls hP hD hS hl
    refine lv_aload_n hx hb dX4_castValue_30 rfl (lv_at hl 2 rfl) ?_
    obtain ⟨k31_, hk31_⟩ := pl_V (X := (twX cs q v_t_tapeSize v_t_textSize v_t_faultKind a_t_tape a_t_text a_g_beyond v_g_size a_g_steps a_h_beyond v_h_size a_h_steps a_r_scratch a_r_now v_r_takes v_r_negative v_r_namePlace v_r_faultKind v_r_faultPlace v_a_size v_a_limit v_a_digits v_a_kind v_a_from v_a_to v_o_size a_o_out v_b_size v_b_limit v_b_digits v_b_kind v_b_from v_b_to a_u_atom a_u_other a_u_hand v_u_marksMade v_u_came v_u_guesses v_u_right v_u_taken a_u_vars a_u_marks a_u_outcomes a_u_indexes v_s_things v_s_looked v_s_lookedTooOften v_s_arraysMade v_s_cellsMade a_s_classes a_s_starts a_s_lengths a_s_cells)) (cI := cs 0) (vc := a_vc) (vd := a_vd) (si := a_si) (sj := a_sj) (iv := a_iv) (inn := a_inn) (ac := a_ac) hw5_0
    refine call_i (As := []) (rest := []) ⟨hx, hb, hml, hown, hts⟩ (tX8_isNone (l := l) r5 hw5_0 ) (cwV 0 hts (gV (wr36 _ (List.mem_of_getElem? (i := 14) rfl)) (wr36 _ (List.mem_of_getElem? (i := 15) rfl)) (wr36 _ (List.mem_of_getElem? (i := 16) rfl)) (wr4 _ (List.mem_of_getElem? (i := 11) rfl)) (wr36 _ (List.mem_of_getElem? (i := 17) rfl))) rfl rfl rfl (by decide +kernel) ⟨Nat.le_of_ble_eq_true rfl, Nat.le_of_ble_eq_true rfl⟩) (va_recv hK hP (ci := 7) (q0 := k31_) rfl hk31_) hK hP hD hE hS hA rfl hl.1 rfl (Nat.le_of_ble_eq_true rfl) dX4_castValue_31 ⟨Nat.le_of_ble_eq_true rfl, Nat.le_of_ble_eq_true rfl⟩ (fun r31 w9 H locs hw31 hP hD hS => ?_)
    obtain ⟨rfl, hw31_0⟩ := hw31
    have b_r31 := iB r31
    have J53 : ∀ (H : Heap) (locs : List Loc) (ls : Array Slot), va_P D vwCl (tw cs q v_t_tapeSize v_t_textSize v_t_faultKind a_t_tape a_t_text a_g_beyond v_g_size a_g_steps a_h_beyond v_h_size a_h_steps a_r_scratch a_r_now v_r_takes v_r_negative v_r_namePlace v_r_faultKind v_r_faultPlace v_a_size v_a_limit v_a_digits v_a_kind v_a_from v_a_to v_o_size a_o_out v_b_size v_b_limit v_b_digits v_b_kind v_b_from v_b_to a_u_atom a_u_other a_u_hand v_u_marksMade v_u_came v_u_guesses v_u_right v_u_taken a_u_vars a_u_marks a_u_outcomes a_u_indexes v_s_things v_s_looked v_s_lookedTooOften v_s_arraysMade v_s_cellsMade a_s_classes a_s_starts a_s_lengths a_s_cells a_L a_K a_vc a_vd a_si a_sj a_iv a_inn a_ac) H → va_D A (tw cs q v_t_tapeSize v_t_textSize v_t_faultKind a_t_tape a_t_text a_g_beyond v_g_size a_g_steps a_h_beyond v_h_size a_h_steps a_r_scratch a_r_now v_r_takes v_r_negative v_r_namePlace v_r_faultKind v_r_faultPlace v_a_size v_a_limit v_a_digits v_a_kind v_a_from v_a_to v_o_size a_o_out v_b_size v_b_limit v_b_digits v_b_kind v_b_from v_b_to a_u_atom a_u_other a_u_hand v_u_marksMade v_u_came v_u_guesses v_u_right v_u_taken a_u_vars a_u_marks a_u_outcomes a_u_indexes v_s_things v_s_looked v_s_lookedTooOften v_s_arraysMade v_s_cellsMade a_s_classes a_s_starts a_s_lengths a_s_cells a_L a_K a_vc a_vd a_si a_sj a_iv a_inn a_ac) → va_S A s.heap H locs → lv_has ls 3 [(0, .ref (q 12)), (1, .ref s9), (2, .ref r5)] → W p l e (headSpec (wG yX4_castValue cX4_castValue 3 (some .int)) rmX4_castValue).room s m ([.ref (q 12), .ref s9] : List Value).toArray below meth c H locs 0 0 Q (F0 m 53 ls []) := by
      intro H locs ls hP hD hS hl
      refine lv_aload_n hx hb dX4_castValue_53 rfl (lv_at hl 0 rfl) ?_
      refine lv_aload_n hx hb dX4_castValue_54 rfl (lv_at hl 1 rfl) ?_
      refine lv_aload_n hx hb dX4_castValue_55 rfl (lv_at hl 2 rfl) ?_
      obtain ⟨k56_, hk56_⟩ := pl_V (X := (twX cs q v_t_tapeSize v_t_textSize v_t_faultKind a_t_tape a_t_text a_g_beyond v_g_size a_g_steps a_h_beyond v_h_size a_h_steps a_r_scratch a_r_now v_r_takes v_r_negative v_r_namePlace v_r_faultKind v_r_faultPlace v_a_size v_a_limit v_a_digits v_a_kind v_a_from v_a_to v_o_size a_o_out v_b_size v_b_limit v_b_digits v_b_kind v_b_from v_b_to a_u_atom a_u_other a_u_hand v_u_marksMade v_u_came v_u_guesses v_u_right v_u_taken a_u_vars a_u_marks a_u_outcomes a_u_indexes v_s_things v_s_looked v_s_lookedTooOften v_s_arraysMade v_s_cellsMade a_s_classes a_s_starts a_s_lengths a_s_cells)) (cI := cs 0) (vc := a_vc) (vd := a_vd) (si := a_si) (sj := a_sj) (iv := a_iv) (inn := a_inn) (ac := a_ac) hw5_0
      refine va_get (D := D) (ci := 7) (v := .int (a_vc r5)) (C := RX8) (T := TX8) (N := 2) hx hb hts hinX8 hown hK hP k56_ hk56_ rfl 0 (by decide) k_36_5 (fun _ h9 => h9) rfl dX4_castValue_56 ?_
      refine lv_topi (fun x56 e_x56 => ?_)
      have b_x56 := iB x56
      refine lv_aload_n hx hb dX4_castValue_59 rfl (lv_at hl 2 rfl) ?_
      obtain ⟨k60_, hk60_⟩ := pl_V (X := (twX cs q v_t_tapeSize v_t_textSize v_t_faultKind a_t_tape a_t_text a_g_beyond v_g_size a_g_steps a_h_beyond v_h_size a_h_steps a_r_scratch a_r_now v_r_takes v_r_negative v_r_namePlace v_r_faultKind v_r_faultPlace v_a_size v_a_limit v_a_digits v_a_kind v_a_from v_a_to v_o_size a_o_out v_b_size v_b_limit v_b_digits v_b_kind v_b_from v_b_to a_u_atom a_u_other a_u_hand v_u_marksMade v_u_came v_u_guesses v_u_right v_u_taken a_u_vars a_u_marks a_u_outcomes a_u_indexes v_s_things v_s_looked v_s_lookedTooOften v_s_arraysMade v_s_cellsMade a_s_classes a_s_starts a_s_lengths a_s_cells)) (cI := cs 0) (vc := a_vc) (vd := a_vd) (si := a_si) (sj := a_sj) (iv := a_iv) (inn := a_inn) (ac := a_ac) hw5_0
      refine va_get (D := D) (ci := 7) (v := .long (a_vd r5)) (C := RX8) (T := TX8) (N := 2) hx hb hts hinX8 hown hK hP k60_ hk60_ rfl 1 (by decide) k_36_6 (fun _ h9 => h9) rfl dX4_castValue_60 ?_
      refine lv_topl (fun x60 e_x60 => ?_)
      have b_x60 := jB x60
      refine call_i (As := [.ref s9, .int x56, .long x60]) (rest := []) ⟨hx, hb, hml, hown, hts⟩ (tX4_tell (l := l) s9 h_s9 x56 x60 (by first | assumption | omega | (intros; omega) | decide)) (cwV 3 hts (gV (wr37 _ (List.mem_of_getElem? (i := 10) rfl)) (wr37 _ (List.mem_of_getElem? (i := 11) rfl)) (wr37 _ (List.mem_of_getElem? (i := 12) rfl)) (wr2 _ (List.mem_of_getElem? (i := 10) rfl)) (wr37 _ (List.mem_of_getElem? (i := 13) rfl))) rfl rfl rfl (by decide +kernel) ⟨Nat.le_of_ble_eq_true rfl, Nat.le_of_ble_eq_true rfl⟩) (va_recv hK hP (ci := 3) (q0 := 12) rfl rfl) hK hP hD hE hS hA rfl hl.1 rfl (Nat.le_of_ble_eq_true rfl) dX4_castValue_63 ⟨Nat.le_of_ble_eq_true rfl, Nat.le_of_ble_eq_true rfl⟩ (fun r63 w9 H locs hw63 hP hD hS => ?_)
      obtain ⟨a_vc_63, a_vd_63, rfl, hw63_0⟩ := hw63
      have b_r63 := iB r63
      subst hAe
      rw [hQ]
      exact W.iret (v := r63) hx hb hr (fun t ht hW => ⟨⟨r63, _, rfl, ⟨a_vc_63, a_vd_63, rfl⟩, by rw [ht]; exact hP, va_K.moved hW.alike hK, hD⟩, hS.F ht⟩) hS.2.2 dX4_castValue_66
    refine m_if_ne (X := r31.toInt) (tgt := 53) hx hb dX4_castValue_34 (by decide) rfl (fun c34 => ?_) (fun c34 => ?_)
    · skip
      exact J53 H locs ls hP hD hS (lv_sub hl [0, 1, 2] rfl)
    · skip
      refine lv_aload_n hx hb dX4_castValue_37 rfl (lv_at hl 2 rfl) ?_
      obtain ⟨k38_, hk38_⟩ := pl_V (X := (twX cs q v_t_tapeSize v_t_textSize v_t_faultKind a_t_tape a_t_text a_g_beyond v_g_size a_g_steps a_h_beyond v_h_size a_h_steps a_r_scratch a_r_now v_r_takes v_r_negative v_r_namePlace v_r_faultKind v_r_faultPlace v_a_size v_a_limit v_a_digits v_a_kind v_a_from v_a_to v_o_size a_o_out v_b_size v_b_limit v_b_digits v_b_kind v_b_from v_b_to a_u_atom a_u_other a_u_hand v_u_marksMade v_u_came v_u_guesses v_u_right v_u_taken a_u_vars a_u_marks a_u_outcomes a_u_indexes v_s_things v_s_looked v_s_lookedTooOften v_s_arraysMade v_s_cellsMade a_s_classes a_s_starts a_s_lengths a_s_cells)) (cI := cs 0) (vc := a_vc) (vd := a_vd) (si := a_si) (sj := a_sj) (iv := a_iv) (inn := a_inn) (ac := a_ac) hw5_0
      refine va_get (D := D) (ci := 7) (v := .int (a_vc r5)) (C := RX8) (T := TX8) (N := 2) hx hb hts hinX8 hown hK hP k38_ hk38_ rfl 0 (by decide) k_36_5 (fun _ h9 => h9) rfl dX4_castValue_38 ?_
      refine lv_topi (fun x38 e_x38 => ?_)
      have b_x38 := iB x38
      refine lv_aload_n hx hb dX4_castValue_41 rfl (lv_at hl 1 rfl) ?_
      obtain ⟨k42_, hk42_⟩ := pl_S (X := (twX cs q v_t_tapeSize v_t_textSize v_t_faultKind a_t_tape a_t_text a_g_beyond v_g_size a_g_steps a_h_beyond v_h_size a_h_steps a_r_scratch a_r_now v_r_takes v_r_negative v_r_namePlace v_r_faultKind v_r_faultPlace v_a_size v_a_limit v_a_digits v_a_kind v_a_from v_a_to v_o_size a_o_out v_b_size v_b_limit v_b_digits v_b_kind v_b_from v_b_to a_u_atom a_u_other a_u_hand v_u_marksMade v_u_came v_u_guesses v_u_right v_u_taken a_u_vars a_u_marks a_u_outcomes a_u_indexes v_s_things v_s_looked v_s_lookedTooOften v_s_arraysMade v_s_cellsMade a_s_classes a_s_starts a_s_lengths a_s_cells)) (cI := cs 0) (vc := a_vc) (vd := a_vd) (si := a_si) (sj := a_sj) (iv := a_iv) (inn := a_inn) (ac := a_ac) h_s9
      refine va_get (D := D) (ci := 5) (v := .int (a_si s9 7)) (C := RX6) (T := TX6) (N := 15) hx hb hts hinX6 hown hK hP k42_ hk42_ rfl 7 (by decide) k_37_19 (fun _ h9 => h9) rfl dX4_castValue_42 ?_
      refine lv_topi (fun x42 e_x42 => ?_)
      have b_x42 := iB x42
      refine call_iSP (As := [.int x38, .int x42]) (rest := []) ⟨hx, hb, hml, hown, hts⟩ (tX0_isBelow (l := l) x38 x42) (va_cwS 2 hts (gS (wr42 _ (List.mem_of_getElem? (i := 17) rfl)) (wr40 _ (List.mem_of_getElem? (i := 9) rfl)) (wr19 _ (List.mem_of_getElem? (i := 5) rfl)) (wr40 _ (List.mem_of_getElem? (i := 10) rfl))) rfl rfl rfl (by decide +kernel) ⟨Nat.le_of_ble_eq_true rfl, Nat.le_of_ble_eq_true rfl⟩) (hK.sub [] rfl) hP hD hE hS hA rfl hl.1 rfl (Nat.le_of_ble_eq_true rfl) dX4_castValue_45 ⟨Nat.le_of_ble_eq_true rfl, Nat.le_of_ble_eq_true rfl⟩ (fun r45 w9 H locs hw45 hP hD hS => ?_)
      obtain ⟨rfl, hw45_0, hw45_1⟩ := hw45
      have b_r45 := iB r45
      refine m_if_ne (X := r45.toInt) (tgt := 53) hx hb dX4_castValue_48 (by decide) rfl (fun c48 => ?_) (fun c48 => ?_)
      · skip
        exact J53 H locs ls hP hD hS (lv_sub hl [0, 1, 2] rfl)
      · skip
        refine lv_iconst (v := 5) hx hb dX4_castValue_51 (by decide) ?_
        subst hAe
        rw [hQ]
        exact W.iret (v := 5) hx hb hr (fun t ht hW => ⟨⟨5, _, rfl, ⟨a_vc, a_vd, rfl⟩, by rw [ht]; exact hP, va_K.moved hW.alike hK, hD⟩, hS.F ht⟩) hS.2.2 dX4_castValue_52
  refine m_if_eq (X := r10.toInt) (tgt := 30) hx hb dX4_castValue_13 (by decide) rfl (fun c13 => ?_) (fun c13 => ?_)
  · skip
    exact J30 H locs ls hP hD hS (lv_sub hl [1, 2, 0] rfl)
  · skip
    refine lv_aload_n hx hb dX4_castValue_16 rfl (lv_at hl 0 rfl) ?_
    obtain ⟨k17_, hk17_⟩ := pl_V (X := (twX cs q v_t_tapeSize v_t_textSize v_t_faultKind a_t_tape a_t_text a_g_beyond v_g_size a_g_steps a_h_beyond v_h_size a_h_steps a_r_scratch a_r_now v_r_takes v_r_negative v_r_namePlace v_r_faultKind v_r_faultPlace v_a_size v_a_limit v_a_digits v_a_kind v_a_from v_a_to v_o_size a_o_out v_b_size v_b_limit v_b_digits v_b_kind v_b_from v_b_to a_u_atom a_u_other a_u_hand v_u_marksMade v_u_came v_u_guesses v_u_right v_u_taken a_u_vars a_u_marks a_u_outcomes a_u_indexes v_s_things v_s_looked v_s_lookedTooOften v_s_arraysMade v_s_cellsMade a_s_classes a_s_starts a_s_lengths a_s_cells)) (cI := cs 0) (vc := a_vc) (vd := a_vd) (si := a_si) (sj := a_sj) (iv := a_iv) (inn := a_inn) (ac := a_ac) hw5_0
    refine va_get (D := D) (ci := 7) (v := .int (a_vc r5)) (C := RX8) (T := TX8) (N := 2) hx hb hts hinX8 hown hK hP k17_ hk17_ rfl 0 (by decide) k_36_5 (fun _ h9 => h9) rfl dX4_castValue_17 ?_
    refine lv_topi (fun x17 e_x17 => ?_)
    have b_x17 := iB x17
    refine lv_aload_n hx hb dX4_castValue_20 rfl (lv_at hl 2 rfl) ?_
    obtain ⟨k21_, hk21_⟩ := pl_S (X := (twX cs q v_t_tapeSize v_t_textSize v_t_faultKind a_t_tape a_t_text a_g_beyond v_g_size a_g_steps a_h_beyond v_h_size a_h_steps a_r_scratch a_r_now v_r_takes v_r_negative v_r_namePlace v_r_faultKind v_r_faultPlace v_a_size v_a_limit v_a_digits v_a_kind v_a_from v_a_to v_o_size a_o_out v_b_size v_b_limit v_b_digits v_b_kind v_b_from v_b_to a_u_atom a_u_other a_u_hand v_u_marksMade v_u_came v_u_guesses v_u_right v_u_taken a_u_vars a_u_marks a_u_outcomes a_u_indexes v_s_things v_s_looked v_s_lookedTooOften v_s_arraysMade v_s_cellsMade a_s_classes a_s_starts a_s_lengths a_s_cells)) (cI := cs 0) (vc := a_vc) (vd := a_vd) (si := a_si) (sj := a_sj) (iv := a_iv) (inn := a_inn) (ac := a_ac) h_s9
    refine va_get (D := D) (ci := 5) (v := .int (a_si s9 7)) (C := RX6) (T := TX6) (N := 15) hx hb hts hinX6 hown hK hP k21_ hk21_ rfl 7 (by decide) k_37_19 (fun _ h9 => h9) rfl dX4_castValue_21 ?_
    refine lv_topi (fun x21 e_x21 => ?_)
    have b_x21 := iB x21
    refine m_icmp_eq (X := x17.toInt) (Y := x21.toInt) (tgt := 30) hx hb dX4_castValue_24 (by decide) rfl rfl (fun c24 => ?_) (fun c24 => ?_)
    · skip
      exact J30 H locs ls hP hD hS (lv_sub hl [1, 2, 0] rfl)
    · skip
      refine lv_bipush (v := 6) hx hb dX4_castValue_27 (by decide) ?_
      subst hAe
      rw [hQ]
      exact W.iret (v := 6) hx hb hr (fun t ht hW => ⟨⟨6, _, rfl, ⟨a_vc, a_vd, rfl⟩, by rw [ht]; exact hP, va_K.moved hW.alike hK, hD⟩, hS.F ht⟩) hS.2.2 dX4_castValue_29

def rmX4_tellPlainly : Room := { frames := 80, cells := 0, slots := 0, locals := 1600 }
set_option maxHeartbeats 4000000 in
set_option maxRecDepth 100000 in
theorem tX4_tellPlainly {l : Launch} {D : va_G} {K : Nat → Nat → Nat} {cs : Nat → ClassId} {q : Nat → Nat} {v_t_tapeSize v_t_textSize v_t_faultKind v_g_size v_h_size v_r_takes v_r_negative v_r_namePlace v_r_faultKind v_r_faultPlace v_a_size v_a_limit v_a_digits v_a_kind v_a_from v_a_to v_o_size v_b_size v_b_limit v_b_digits v_b_kind v_b_from v_b_to v_u_marksMade v_u_came v_u_guesses v_u_right v_u_taken v_s_things v_s_looked v_s_lookedTooOften v_s_arraysMade v_s_cellsMade : Int32} {a_t_tape a_t_text a_o_out a_u_outcomes a_u_indexes a_s_classes a_s_starts a_s_lengths a_vc : Nat → Int32} {a_g_beyond a_h_beyond a_r_scratch a_r_now a_u_atom a_u_other a_u_hand : Nat} {a_g_steps a_h_steps a_u_vars a_u_marks : Nat → Option Nat} {a_s_cells a_vd a_sj : Nat → Int64} {a_L : List Nat} {a_K a_iv a_inn : Nat → Nat} {a_si a_ac : Nat → Nat → Int32} (s9 : Nat) (h_s9 : aS a_L a_K s9) (p_0 : RF a_L a_K a_g_beyond a_h_beyond a_r_scratch a_g_steps a_h_steps a_u_atom a_u_other a_u_hand a_u_vars a_u_marks) (p_1 : STO v_s_things v_s_cellsMade a_s_starts a_s_lengths) (p_2 : PI a_L a_K a_si a_iv a_inn) : CtI l yX4_tellPlainly (wG yX4_tellPlainly cX4_tellPlainly 3 (some .int)) rmX4_tellPlainly D (twT cs) K [.ref (q 12), .ref s9] (tw cs q v_t_tapeSize v_t_textSize v_t_faultKind a_t_tape a_t_text a_g_beyond v_g_size a_g_steps a_h_beyond v_h_size a_h_steps a_r_scratch a_r_now v_r_takes v_r_negative v_r_namePlace v_r_faultKind v_r_faultPlace v_a_size v_a_limit v_a_digits v_a_kind v_a_from v_a_to v_o_size a_o_out v_b_size v_b_limit v_b_digits v_b_kind v_b_from v_b_to a_u_atom a_u_other a_u_hand v_u_marksMade v_u_came v_u_guesses v_u_right v_u_taken a_u_vars a_u_marks a_u_outcomes a_u_indexes v_s_things v_s_looked v_s_lookedTooOften v_s_arraysMade v_s_cellsMade a_s_classes a_s_starts a_s_lengths a_s_cells a_L a_K a_vc a_vd a_si a_sj a_iv a_inn a_ac) (fun r w1 => ∃ (a_vc' : Nat → Int32) (a_vd' : Nat → Int64), w1 = (tw cs q v_t_tapeSize v_t_textSize v_t_faultKind a_t_tape a_t_text a_g_beyond v_g_size a_g_steps a_h_beyond v_h_size a_h_steps a_r_scratch a_r_now v_r_takes v_r_negative v_r_namePlace v_r_faultKind v_r_faultPlace v_a_size v_a_limit v_a_digits v_a_kind v_a_from v_a_to v_o_size a_o_out v_b_size v_b_limit v_b_digits v_b_kind v_b_from v_b_to a_u_atom a_u_other a_u_hand v_u_marksMade v_u_came v_u_guesses v_u_right v_u_taken a_u_vars a_u_marks a_u_outcomes a_u_indexes v_s_things v_s_looked v_s_lookedTooOften v_s_arraysMade v_s_cellsMade a_s_classes a_s_starts a_s_lengths a_s_cells a_L a_K a_vc' a_vd' a_si a_sj a_iv a_inn a_ac)) 0 0 := by
  intro sz
  refine Met.ofW (cc := cX4_tellPlainly) (maxL := 3) (ret := (some .int)) (by decide) rfl ?_
  intro p e s m args below meth c s₁ B hml hv
  obtain ⟨rfl, hsz, hP, hK, hD0, hE⟩ := hv
  have hx := B.exec
  have hb := B.bytes
  have hr := B.returns
  have hts := atoms_spec (ws := (wG yX4_tellPlainly cX4_tellPlainly 3 (some .int))) B.pre
  have hown : s.vm.findClass RX4 = some m.cls := findClass_of_methodNamed B.named
  have hlocks := B.notSynchronized
  subst hsz
  have hD := hD0.self (sz := s.heap.size)
  obtain ⟨A, hAe⟩ : ∃ A : Nat → Prop, A = va_A (tw cs q v_t_tapeSize v_t_textSize v_t_faultKind a_t_tape a_t_text a_g_beyond v_g_size a_g_steps a_h_beyond v_h_size a_h_steps a_r_scratch a_r_now v_r_takes v_r_negative v_r_namePlace v_r_faultKind v_r_faultPlace v_a_size v_a_limit v_a_digits v_a_kind v_a_from v_a_to v_o_size a_o_out v_b_size v_b_limit v_b_digits v_b_kind v_b_from v_b_to a_u_atom a_u_other a_u_hand v_u_marksMade v_u_came v_u_guesses v_u_right v_u_taken a_u_vars a_u_marks a_u_outcomes a_u_indexes v_s_things v_s_looked v_s_lookedTooOften v_s_arraysMade v_s_cellsMade a_s_classes a_s_starts a_s_lengths a_s_cells a_L a_K a_vc a_vd a_si a_sj a_iv a_inn a_ac) s.heap.size := ⟨_, rfl⟩
  rw [← hAe] at hD hE
  have hA : ∀ q : Nat, s.heap.size ≤ q → A q := fun q h => by rw [hAe]; exact Or.inr h
  have hS : va_S A s.heap s.heap [] := va_S.rf
  have hl := lv_entry ([.ref (q 12), .ref s9]) (n := 3) (Nat.le_of_ble_eq_true rfl)
  rw [lg_entry_eq]
  generalize (lg_sl ([.ref (q 12), .ref s9]) ++ List.replicate (3 - (lg_sl ([.ref (q 12), .ref s9])).length) Slot.unset).toArray = ls at hl ⊢
  have hl : lv_has ls 3 [(0, .ref (q 12)), (1, .ref s9)] := hl
  refine wq (fun Q hQ => ?_)
  have hinX6 : ∀ w ∈ wsX60, w ∈ (wG yX4_tellPlainly cX4_tellPlainly 3 (some .int)) := fun w h => List.mem_cons_of_mem _ (inlX6 w h)
  have hinX8 : ∀ w ∈ wsX80, w ∈ (wG yX4_tellPlainly cX4_tellPlainly 3 (some .int)) := fun w h => List.mem_cons_of_mem _ (inlX8 w h)
  have kc0 : (0 : Int32).toInt = 0 := by decide
  have kc1 : (1 : Int32).toInt = 1 := by decide
  have kc2 : (4 : Int32).toInt = 4 := by decide
  have k_38_0 := hts (.fieldLink RX4 266 "ArrayTrainer$Step" "first" "I") (List.mem_cons_of_mem _ (wr38 _ (List.mem_of_getElem? (i := 0) rfl)))
  have k_36_4 := hts (.fieldLink RX4 149 "ArrayTrainer$Step" "act" "I") (List.mem_cons_of_mem _ (wr36 _ (List.mem_of_getElem? (i := 4) rfl)))
  have k_36_5 := hts (.fieldLink RX4 152 "ArrayTrainer$Value" "cls" "I") (List.mem_cons_of_mem _ (wr36 _ (List.mem_of_getElem? (i := 5) rfl)))
  have k_37_19 := hts (.fieldLink RX4 202 "ArrayTrainer$Step" "cls" "I") (List.mem_cons_of_mem _ (wr37 _ (List.mem_of_getElem? (i := 19) rfl)))
  have k_44_5 := hts (.fieldLink RX4 298 "ArrayTrainer$Step" "second" "I") (List.mem_cons_of_mem _ (wr44 _ (List.mem_of_getElem? (i := 5) rfl)))
  obtain ⟨H, hH⟩ : ∃ H : Heap, H = s.heap := ⟨_, rfl⟩
  obtain ⟨locs, hlc⟩ : ∃ L : List Loc, L = [] := ⟨_, rfl⟩
  have hP : va_P D vwCl (tw cs q v_t_tapeSize v_t_textSize v_t_faultKind a_t_tape a_t_text a_g_beyond v_g_size a_g_steps a_h_beyond v_h_size a_h_steps a_r_scratch a_r_now v_r_takes v_r_negative v_r_namePlace v_r_faultKind v_r_faultPlace v_a_size v_a_limit v_a_digits v_a_kind v_a_from v_a_to v_o_size a_o_out v_b_size v_b_limit v_b_digits v_b_kind v_b_from v_b_to a_u_atom a_u_other a_u_hand v_u_marksMade v_u_came v_u_guesses v_u_right v_u_taken a_u_vars a_u_marks a_u_outcomes a_u_indexes v_s_things v_s_looked v_s_lookedTooOften v_s_arraysMade v_s_cellsMade a_s_classes a_s_starts a_s_lengths a_s_cells a_L a_K a_vc a_vd a_si a_sj a_iv a_inn a_ac) H := by rw [hH]; exact hP
  have hS : va_S A s.heap H locs := by rw [hH, hlc]; exact hS
  refine wHL hH hlc ?_
  refine lv_aload_n hx hb dX4_tellPlainly_0 rfl (lv_at hl 0 rfl) ?_
  refine lv_aload_n hx hb dX4_tellPlainly_1 rfl (lv_at hl 1 rfl) ?_
  obtain ⟨k2_, hk2_⟩ := pl_S (X := (twX cs q v_t_tapeSize v_t_textSize v_t_faultKind a_t_tape a_t_text a_g_beyond v_g_size a_g_steps a_h_beyond v_h_size a_h_steps a_r_scratch a_r_now v_r_takes v_r_negative v_r_namePlace v_r_faultKind v_r_faultPlace v_a_size v_a_limit v_a_digits v_a_kind v_a_from v_a_to v_o_size a_o_out v_b_size v_b_limit v_b_digits v_b_kind v_b_from v_b_to a_u_atom a_u_other a_u_hand v_u_marksMade v_u_came v_u_guesses v_u_right v_u_taken a_u_vars a_u_marks a_u_outcomes a_u_indexes v_s_things v_s_looked v_s_lookedTooOften v_s_arraysMade v_s_cellsMade a_s_classes a_s_starts a_s_lengths a_s_cells)) (cI := cs 0) (vc := a_vc) (vd := a_vd) (si := a_si) (sj := a_sj) (iv := a_iv) (inn := a_inn) (ac := a_ac) h_s9
  refine va_get (D := D) (ci := 5) (v := .int (a_si s9 5)) (C := RX6) (T := TX6) (N := 15) hx hb hts hinX6 hown hK hP k2_ hk2_ rfl 5 (by decide) k_38_0 (fun _ h9 => h9) rfl dX4_tellPlainly_2 ?_
  refine lv_topi (fun x2 e_x2 => ?_)
  have b_x2 := iB x2
  refine call_r (As := [.int x2]) (rest := []) ⟨hx, hb, hml, hown, hts⟩ (tX4_variable (l := l) x2 (by first | assumption | omega | (intros; omega) | decide)) (cwV 1 hts (gV (wr21 _ (List.mem_of_getElem? (i := 22) rfl)) (wr21 _ (List.mem_of_getElem? (i := 23) rfl)) (wr22 _ (List.mem_of_getElem? (i := 0) rfl)) (wr2 _ (List.mem_of_getElem? (i := 10) rfl)) (wr22 _ (List.mem_of_getElem? (i := 1) rfl))) rfl rfl rfl (by decide +kernel) ⟨Nat.le_of_ble_eq_true rfl, Nat.le_of_ble_eq_true rfl⟩) (va_recv hK hP (ci := 3) (q0 := 12) rfl rfl) hK hP hD hE hS hA rfl hl.1 rfl (Nat.le_of_ble_eq_true rfl) dX4_tellPlainly_5 ⟨Nat.le_of_ble_eq_true rfl, Nat.le_of_ble_eq_true rfl⟩ (fun r5 w9 H locs hw5 hP hD hS => ?_)
  obtain ⟨rfl, hw5_0⟩ := hw5
  refine lv_astore_n (lv' := [(2, .ref r5), (0, .ref (q 12)), (1, .ref s9)]) hx hb dX4_tellPlainly_8 rfl hl (by decide) rfl (fun ls hl => ?_)
  refine lv_aload_n hx hb dX4_tellPlainly_9 rfl (lv_at hl 2 rfl) ?_
  obtain ⟨k10_, hk10_⟩ := pl_S (X := (twX cs q v_t_tapeSize v_t_textSize v_t_faultKind a_t_tape a_t_text a_g_beyond v_g_size a_g_steps a_h_beyond v_h_size a_h_steps a_r_scratch a_r_now v_r_takes v_r_negative v_r_namePlace v_r_faultKind v_r_faultPlace v_a_size v_a_limit v_a_digits v_a_kind v_a_from v_a_to v_o_size a_o_out v_b_size v_b_limit v_b_digits v_b_kind v_b_from v_b_to a_u_atom a_u_other a_u_hand v_u_marksMade v_u_came v_u_guesses v_u_right v_u_taken a_u_vars a_u_marks a_u_outcomes a_u_indexes v_s_things v_s_looked v_s_lookedTooOften v_s_arraysMade v_s_cellsMade a_s_classes a_s_starts a_s_lengths a_s_cells)) (cI := cs 0) (vc := a_vc) (vd := a_vd) (si := a_si) (sj := a_sj) (iv := a_iv) (inn := a_inn) (ac := a_ac) h_s9
  refine va_get (D := D) (ci := 5) (v := .int (a_si s9 0)) (C := RX6) (T := TX6) (N := 15) hx hb hts hinX6 hown hK hP k10_ hk10_ rfl 0 (by decide) k_36_4 (fun _ h9 => h9) rfl dX4_tellPlainly_10 ?_
  refine lv_topi (fun x10 e_x10 => ?_)
  have b_x10 := iB x10
  rcases (show x10.toInt = 11 ∨ x10.toInt = 12 ∨ (¬ x10.toInt = 11 ∧ ¬ x10.toInt = 12) by omega) with c13 | c13 | c13
  · skip
    refine lv_lookup (off := 27) (tgt := 40) hx hb dX4_tellPlainly_13 (by decide) (by rw [c13]; rfl) (by decide) ?_
    refine lv_aload_n hx hb dX4_tellPlainly_40 rfl (lv_at hl 1 rfl) ?_
    refine lv_aload_n hx hb dX4_tellPlainly_41 rfl (lv_at hl 2 rfl) ?_
    refine lv_aload_n hx hb dX4_tellPlainly_42 rfl (lv_at hl 0 rfl) ?_
    obtain ⟨k43_, hk43_⟩ := pl_V (X := (twX cs q v_t_tapeSize v_t_textSize v_t_faultKind a_t_tape a_t_text a_g_beyond v_g_size a_g_steps a_h_beyond v_h_size a_h_steps a_r_scratch a_r_now v_r_takes v_r_negative v_r_namePlace v_r_faultKind v_r_faultPlace v_a_size v_a_limit v_a_digits v_a_kind v_a_from v_a_to v_o_size a_o_out v_b_size v_b_limit v_b_digits v_b_kind v_b_from v_b_to a_u_atom a_u_other a_u_hand v_u_marksMade v_u_came v_u_guesses v_u_right v_u_taken a_u_vars a_u_marks a_u_outcomes a_u_indexes v_s_things v_s_looked v_s_lookedTooOften v_s_arraysMade v_s_cellsMade a_s_classes a_s_starts a_s_lengths a_s_cells)) (cI := cs 0) (vc := a_vc) (vd := a_vd) (si := a_si) (sj := a_sj) (iv := a_iv) (inn := a_inn) (ac := a_ac) hw5_0
    refine call_i (As := []) (rest := [.ref s9, .ref (q 12)]) ⟨hx, hb, hml, hown, hts⟩ (tX8_isNone (l := l) r5 hw5_0 ) (cwV 0 hts (gV (wr36 _ (List.mem_of_getElem? (i := 14) rfl)) (wr36 _ (List.mem_of_getElem? (i := 15) rfl)) (wr36 _ (List.mem_of_getElem? (i := 16) rfl)) (wr4 _ (List.mem_of_getElem? (i := 11) rfl)) (wr36 _ (List.mem_of_getElem? (i := 17) rfl))) rfl rfl rfl (by decide +kernel) ⟨Nat.le_of_ble_eq_true rfl, Nat.le_of_ble_eq_true rfl⟩) (va_recv hK hP (ci := 7) (q0 := k43_) rfl hk43_) hK hP hD hE hS hA rfl hl.1 rfl (Nat.le_of_ble_eq_true rfl) dX4_tellPlainly_43 ⟨Nat.le_of_ble_eq_true rfl, Nat.le_of_ble_eq_true rfl⟩ (fun r43 w9 H locs hw43 hP hD hS => ?_)
    obtain ⟨rfl, hw43_0⟩ := hw43
    have b_r43 := iB r43
    refine m_if_ne (X := r43.toInt) (tgt := 67) hx hb dX4_tellPlainly_46 (by decide) rfl (fun c46 => ?_) (fun c46 => ?_)
    · skip
      refine lv_iconst (v := 0) hx hb dX4_tellPlainly_67 (by decide) ?_
      refine call_i (As := [.ref s9, .int 0]) (rest := []) ⟨hx, hb, hml, hown, hts⟩ (tX4_tellTruth (l := l) s9 h_s9 (0 : Int32) (by first | assumption | omega | (intros; omega) | decide)) (cwV 2 hts (gV (wr44 _ (List.mem_of_getElem? (i := 14) rfl)) (wr44 _ (List.mem_of_getElem? (i := 15) rfl)) (wr44 _ (List.mem_of_getElem? (i := 16) rfl)) (wr2 _ (List.mem_of_getElem? (i := 10) rfl)) (wr44 _ (List.mem_of_getElem? (i := 17) rfl))) rfl rfl rfl (by decide +kernel) ⟨Nat.le_of_ble_eq_true rfl, Nat.le_of_ble_eq_true rfl⟩) (va_recv hK hP (ci := 3) (q0 := 12) rfl rfl) hK hP hD hE hS hA rfl hl.1 rfl (Nat.le_of_ble_eq_true rfl) dX4_tellPlainly_68 ⟨Nat.le_of_ble_eq_true rfl, Nat.le_of_ble_eq_true rfl⟩ (fun r68 w9 H locs hw68 hP hD hS => ?_)
      obtain ⟨a_vc_68, a_vd_68, rfl, hw68_0⟩ := hw68
      have b_r68 := iB r68
      subst hAe
      rw [hQ]
      exact W.iret (v := r68) hx hb hr (fun t ht hW => ⟨⟨r68, _, rfl, ⟨a_vc_68, a_vd_68, rfl⟩, by rw [ht]; exact hP, va_K.moved hW.alike hK, hD⟩, hS.F ht⟩) hS.2.2 dX4_tellPlainly_71
    · skip
      refine lv_aload_n hx hb dX4_tellPlainly_49 rfl (lv_at hl 0 rfl) ?_
      obtain ⟨k50_, hk50_⟩ := pl_V (X := (twX cs q v_t_tapeSize v_t_textSize v_t_faultKind a_t_tape a_t_text a_g_beyond v_g_size a_g_steps a_h_beyond v_h_size a_h_steps a_r_scratch a_r_now v_r_takes v_r_negative v_r_namePlace v_r_faultKind v_r_faultPlace v_a_size v_a_limit v_a_digits v_a_kind v_a_from v_a_to v_o_size a_o_out v_b_size v_b_limit v_b_digits v_b_kind v_b_from v_b_to a_u_atom a_u_other a_u_hand v_u_marksMade v_u_came v_u_guesses v_u_right v_u_taken a_u_vars a_u_marks a_u_outcomes a_u_indexes v_s_things v_s_looked v_s_lookedTooOften v_s_arraysMade v_s_cellsMade a_s_classes a_s_starts a_s_lengths a_s_cells)) (cI := cs 0) (vc := a_vc) (vd := a_vd) (si := a_si) (sj := a_sj) (iv := a_iv) (inn := a_inn) (ac := a_ac) hw5_0
      refine va_get (D := D) (ci := 7) (v := .int (a_vc r5)) (C := RX8) (T := TX8) (N := 2) hx hb hts hinX8 hown hK hP k50_ hk50_ rfl 0 (by decide) k_36_5 (fun _ h9 => h9) rfl dX4_tellPlainly_50 ?_
      refine lv_topi (fun x50 e_x50 => ?_)
      have b_x50 := iB x50
      refine lv_aload_n hx hb dX4_tellPlainly_53 rfl (lv_at hl 2 rfl) ?_
      obtain ⟨k54_, hk54_⟩ := pl_S (X := (twX cs q v_t_tapeSize v_t_textSize v_t_faultKind a_t_tape a_t_text a_g_beyond v_g_size a_g_steps a_h_beyond v_h_size a_h_steps a_r_scratch a_r_now v_r_takes v_r_negative v_r_namePlace v_r_faultKind v_r_faultPlace v_a_size v_a_limit v_a_digits v_a_kind v_a_from v_a_to v_o_size a_o_out v_b_size v_b_limit v_b_digits v_b_kind v_b_from v_b_to a_u_atom a_u_other a_u_hand v_u_marksMade v_u_came v_u_guesses v_u_right v_u_taken a_u_vars a_u_marks a_u_outcomes a_u_indexes v_s_things v_s_looked v_s_lookedTooOften v_s_arraysMade v_s_cellsMade a_s_classes a_s_starts a_s_lengths a_s_cells)) (cI := cs 0) (vc := a_vc) (vd := a_vd) (si := a_si) (sj := a_sj) (iv := a_iv) (inn := a_inn) (ac := a_ac) h_s9
      refine va_get (D := D) (ci := 5) (v := .int (a_si s9 7)) (C := RX6) (T := TX6) (N := 15) hx hb hts hinX6 hown hK hP k54_ hk54_ rfl 7 (by decide) k_37_19 (fun _ h9 => h9) rfl dX4_tellPlainly_54 ?_
      refine lv_topi (fun x54 e_x54 => ?_)
      have b_x54 := iB x54
      refine call_iSP (As := [.int x50, .int x54]) (rest := [.ref s9, .ref (q 12)]) ⟨hx, hb, hml, hown, hts⟩ (tX0_isBelow (l := l) x50 x54) (va_cwS 2 hts (gS (wr42 _ (List.mem_of_getElem? (i := 17) rfl)) (wr40 _ (List.mem_of_getElem? (i := 9) rfl)) (wr19 _ (List.mem_of_getElem? (i := 5) rfl)) (wr40 _ (List.mem_of_getElem? (i := 10) rfl))) rfl rfl rfl (by decide +kernel) ⟨Nat.le_of_ble_eq_true rfl, Nat.le_of_ble_eq_true rfl⟩) (hK.sub [] rfl) hP hD hE hS hA rfl hl.1 rfl (Nat.le_of_ble_eq_true rfl) dX4_tellPlainly_57 ⟨Nat.le_of_ble_eq_true rfl, Nat.le_of_ble_eq_true rfl⟩ (fun r57 w9 H locs hw57 hP hD hS => ?_)
      obtain ⟨rfl, hw57_0, hw57_1⟩ := hw57
      have b_r57 := iB r57
      refine m_if_eq (X := r57.toInt) (tgt := 67) hx hb dX4_tellPlainly_60 (by decide) rfl (fun c60 => ?_) (fun c60 => ?_)
      · skip
        refine lv_iconst (v := 0) hx hb dX4_tellPlainly_67 (by decide) ?_
        refine call_i (As := [.ref s9, .int 0]) (rest := []) ⟨hx, hb, hml, hown, hts⟩ (tX4_tellTruth (l := l) s9 h_s9 (0 : Int32) (by first | assumption | omega | (intros; omega) | decide)) (cwV 2 hts (gV (wr44 _ (List.mem_of_getElem? (i := 14) rfl)) (wr44 _ (List.mem_of_getElem? (i := 15) rfl)) (wr44 _ (List.mem_of_getElem? (i := 16) rfl)) (wr2 _ (List.mem_of_getElem? (i := 10) rfl)) (wr44 _ (List.mem_of_getElem? (i := 17) rfl))) rfl rfl rfl (by decide +kernel) ⟨Nat.le_of_ble_eq_true rfl, Nat.le_of_ble_eq_true rfl⟩) (va_recv hK hP (ci := 3) (q0 := 12) rfl rfl) hK hP hD hE hS hA rfl hl.1 rfl (Nat.le_of_ble_eq_true rfl) dX4_tellPlainly_68 ⟨Nat.le_of_ble_eq_true rfl, Nat.le_of_ble_eq_true rfl⟩ (fun r68 w9 H locs hw68 hP hD hS => ?_)
        obtain ⟨a_vc_68, a_vd_68, rfl, hw68_0⟩ := hw68
        have b_r68 := iB r68
        subst hAe
        rw [hQ]
        exact W.iret (v := r68) hx hb hr (fun t ht hW => ⟨⟨r68, _, rfl, ⟨a_vc_68, a_vd_68, rfl⟩, by rw [ht]; exact hP, va_K.moved hW.alike hK, hD⟩, hS.F ht⟩) hS.2.2 dX4_tellPlainly_71
      · skip
        refine lv_iconst (v := 1) hx hb dX4_tellPlainly_63 (by decide) ?_
        refine lv_goto (tgt := 68) hx hb dX4_tellPlainly_64 (by decide) ?_
        refine call_i (As := [.ref s9, .int 1]) (rest := []) ⟨hx, hb, hml, hown, hts⟩ (tX4_tellTruth (l := l) s9 h_s9 (1 : Int32) (by first | assumption | omega | (intros; omega) | decide)) (cwV 2 hts (gV (wr44 _ (List.mem_of_getElem? (i := 14) rfl)) (wr44 _ (List.mem_of_getElem? (i := 15) rfl)) (wr44 _ (List.mem_of_getElem? (i := 16) rfl)) (wr2 _ (List.mem_of_getElem? (i := 10) rfl)) (wr44 _ (List.mem_of_getElem? (i := 17) rfl))) rfl rfl rfl (by decide +kernel) ⟨Nat.le_of_ble_eq_true rfl, Nat.le_of_ble_eq_true rfl⟩) (va_recv hK hP (ci := 3) (q0 := 12) rfl rfl) hK hP hD hE hS hA rfl hl.1 rfl (Nat.le_of_ble_eq_true rfl) dX4_tellPlainly_68 ⟨Nat.le_of_ble_eq_true rfl, Nat.le_of_ble_eq_true rfl⟩ (fun r68 w9 H locs hw68 hP hD hS => ?_)
        obtain ⟨a_vc_68, a_vd_68, rfl, hw68_0⟩ := hw68
        have b_r68 := iB r68
        subst hAe
        rw [hQ]
        exact W.iret (v := r68) hx hb hr (fun t ht hW => ⟨⟨r68, _, rfl, ⟨a_vc_68, a_vd_68, rfl⟩, by rw [ht]; exact hP, va_K.moved hW.alike hK, hD⟩, hS.F ht⟩) hS.2.2 dX4_tellPlainly_71
  · skip
    refine lv_lookup (off := 59) (tgt := 72) hx hb dX4_tellPlainly_13 (by decide) (by rw [c13]; rfl) (by decide) ?_
    refine lv_aload_n hx hb dX4_tellPlainly_72 rfl (lv_at hl 1 rfl) ?_
    refine lv_aload_n hx hb dX4_tellPlainly_73 rfl (lv_at hl 2 rfl) ?_
    refine lv_aload_n hx hb dX4_tellPlainly_74 rfl (lv_at hl 0 rfl) ?_
    refine lv_aload_n hx hb dX4_tellPlainly_75 rfl (lv_at hl 1 rfl) ?_
    refine lv_aload_n hx hb dX4_tellPlainly_76 rfl (lv_at hl 2 rfl) ?_
    obtain ⟨k77_, hk77_⟩ := pl_S (X := (twX cs q v_t_tapeSize v_t_textSize v_t_faultKind a_t_tape a_t_text a_g_beyond v_g_size a_g_steps a_h_beyond v_h_size a_h_steps a_r_scratch a_r_now v_r_takes v_r_negative v_r_namePlace v_r_faultKind v_r_faultPlace v_a_size v_a_limit v_a_digits v_a_kind v_a_from v_a_to v_o_size a_o_out v_b_size v_b_limit v_b_digits v_b_kind v_b_from v_b_to a_u_atom a_u_other a_u_hand v_u_marksMade v_u_came v_u_guesses v_u_right v_u_taken a_u_vars a_u_marks a_u_outcomes a_u_indexes v_s_things v_s_looked v_s_lookedTooOften v_s_arraysMade v_s_cellsMade a_s_classes a_s_starts a_s_lengths a_s_cells)) (cI := cs 0) (vc := a_vc) (vd := a_vd) (si := a_si) (sj := a_sj) (iv := a_iv) (inn := a_inn) (ac := a_ac) h_s9
    refine va_get (D := D) (ci := 5) (v := .int (a_si s9 6)) (C := RX6) (T := TX6) (N := 15) hx hb hts hinX6 hown hK hP k77_ hk77_ rfl 6 (by decide) k_44_5 (fun _ h9 => h9) rfl dX4_tellPlainly_77 ?_
    refine lv_topi (fun x77 e_x77 => ?_)
    have b_x77 := iB x77
    refine call_r (As := [.int x77]) (rest := [.ref r5, .ref s9, .ref (q 12)]) ⟨hx, hb, hml, hown, hts⟩ (tX4_variable (l := l) x77 (by first | assumption | omega | (intros; omega) | decide)) (cwV 1 hts (gV (wr21 _ (List.mem_of_getElem? (i := 22) rfl)) (wr21 _ (List.mem_of_getElem? (i := 23) rfl)) (wr22 _ (List.mem_of_getElem? (i := 0) rfl)) (wr2 _ (List.mem_of_getElem? (i := 10) rfl)) (wr22 _ (List.mem_of_getElem? (i := 1) rfl))) rfl rfl rfl (by decide +kernel) ⟨Nat.le_of_ble_eq_true rfl, Nat.le_of_ble_eq_true rfl⟩) (va_recv hK hP (ci := 3) (q0 := 12) rfl rfl) hK hP hD hE hS hA rfl hl.1 rfl (Nat.le_of_ble_eq_true rfl) dX4_tellPlainly_80 ⟨Nat.le_of_ble_eq_true rfl, Nat.le_of_ble_eq_true rfl⟩ (fun r80 w9 H locs hw80 hP hD hS => ?_)
    obtain ⟨rfl, hw80_0⟩ := hw80
    obtain ⟨k83_, hk83_⟩ := pl_V (X := (twX cs q v_t_tapeSize v_t_textSize v_t_faultKind a_t_tape a_t_text a_g_beyond v_g_size a_g_steps a_h_beyond v_h_size a_h_steps a_r_scratch a_r_now v_r_takes v_r_negative v_r_namePlace v_r_faultKind v_r_faultPlace v_a_size v_a_limit v_a_digits v_a_kind v_a_from v_a_to v_o_size a_o_out v_b_size v_b_limit v_b_digits v_b_kind v_b_from v_b_to a_u_atom a_u_other a_u_hand v_u_marksMade v_u_came v_u_guesses v_u_right v_u_taken a_u_vars a_u_marks a_u_outcomes a_u_indexes v_s_things v_s_looked v_s_lookedTooOften v_s_arraysMade v_s_cellsMade a_s_classes a_s_starts a_s_lengths a_s_cells)) (cI := cs 0) (vc := a_vc) (vd := a_vd) (si := a_si) (sj := a_sj) (iv := a_iv) (inn := a_inn) (ac := a_ac) hw5_0
    refine call_i (As := [.ref r80]) (rest := [.ref s9, .ref (q 12)]) ⟨hx, hb, hml, hown, hts⟩ (tX8_isLike (l := l) r5 hw5_0 r80 hw80_0) (cwV 1 hts (gV (wr46 _ (List.mem_of_getElem? (i := 16) rfl)) (wr46 _ (List.mem_of_getElem? (i := 17) rfl)) (wr46 _ (List.mem_of_getElem? (i := 18) rfl)) (wr4 _ (List.mem_of_getElem? (i := 11) rfl)) (wr46 _ (List.mem_of_getElem? (i := 19) rfl))) rfl rfl rfl (by decide +kernel) ⟨Nat.le_of_ble_eq_true rfl, Nat.le_of_ble_eq_true rfl⟩) (va_recv hK hP (ci := 7) (q0 := k83_) rfl hk83_) hK hP hD hE hS hA rfl hl.1 rfl (Nat.le_of_ble_eq_true rfl) dX4_tellPlainly_83 ⟨Nat.le_of_ble_eq_true rfl, Nat.le_of_ble_eq_true rfl⟩ (fun r83 w9 H locs hw83 hP hD hS => ?_)
    obtain ⟨rfl, hw83_0⟩ := hw83
    have b_r83 := iB r83
    refine call_i (As := [.ref s9, .int r83]) (rest := []) ⟨hx, hb, hml, hown, hts⟩ (tX4_tellTruth (l := l) s9 h_s9 r83 (by first | assumption | omega | (intros; omega) | decide)) (cwV 2 hts (gV (wr44 _ (List.mem_of_getElem? (i := 14) rfl)) (wr44 _ (List.mem_of_getElem? (i := 15) rfl)) (wr44 _ (List.mem_of_getElem? (i := 16) rfl)) (wr2 _ (List.mem_of_getElem? (i := 10) rfl)) (wr44 _ (List.mem_of_getElem? (i := 17) rfl))) rfl rfl rfl (by decide +kernel) ⟨Nat.le_of_ble_eq_true rfl, Nat.le_of_ble_eq_true rfl⟩) (va_recv hK hP (ci := 3) (q0 := 12) rfl rfl) hK hP hD hE hS hA rfl hl.1 rfl (Nat.le_of_ble_eq_true rfl) dX4_tellPlainly_86 ⟨Nat.le_of_ble_eq_true rfl, Nat.le_of_ble_eq_true rfl⟩ (fun r86 w9 H locs hw86 hP hD hS => ?_)
    obtain ⟨a_vc_86, a_vd_86, rfl, hw86_0⟩ := hw86
    have b_r86 := iB r86
    subst hAe
    rw [hQ]
    exact W.iret (v := r86) hx hb hr (fun t ht hW => ⟨⟨r86, _, rfl, ⟨a_vc_86, a_vd_86, rfl⟩, by rw [ht]; exact hP, va_K.moved hW.alike hK, hD⟩, hS.F ht⟩) hS.2.2 dX4_tellPlainly_89
  · skip
    refine lv_lookup (off := 77) (tgt := 90) hx hb dX4_tellPlainly_13 (by decide) (by rw [Op.lookupswitch.offset_cons, if_neg (show ¬ (11 : Int) = x10.toInt by omega), Op.lookupswitch.offset_cons, if_neg (show ¬ (12 : Int) = x10.toInt by omega)]; rfl) (by decide) ?_
    refine lv_aload_n hx hb dX4_tellPlainly_90 rfl (lv_at hl 1 rfl) ?_
    refine lv_aload_n hx hb dX4_tellPlainly_91 rfl (lv_at hl 2 rfl) ?_
    refine lv_iconst (v := 4) hx hb dX4_tellPlainly_92 (by decide) ?_
    refine lv_aload_n hx hb dX4_tellPlainly_93 rfl (lv_at hl 0 rfl) ?_
    obtain ⟨k94_, hk94_⟩ := pl_V (X := (twX cs q v_t_tapeSize v_t_textSize v_t_faultKind a_t_tape a_t_text a_g_beyond v_g_size a_g_steps a_h_beyond v_h_size a_h_steps a_r_scratch a_r_now v_r_takes v_r_negative v_r_namePlace v_r_faultKind v_r_faultPlace v_a_size v_a_limit v_a_digits v_a_kind v_a_from v_a_to v_o_size a_o_out v_b_size v_b_limit v_b_digits v_b_kind v_b_from v_b_to a_u_atom a_u_other a_u_hand v_u_marksMade v_u_came v_u_guesses v_u_right v_u_taken a_u_vars a_u_marks a_u_outcomes a_u_indexes v_s_things v_s_looked v_s_lookedTooOften v_s_arraysMade v_s_cellsMade a_s_classes a_s_starts a_s_lengths a_s_cells)) (cI := cs 0) (vc := a_vc) (vd := a_vd) (si := a_si) (sj := a_sj) (iv := a_iv) (inn := a_inn) (ac := a_ac) hw5_0
    refine va_get (D := D) (ci := 7) (v := .int (a_vc r5)) (C := RX8) (T := TX8) (N := 2) hx hb hts hinX8 hown hK hP k94_ hk94_ rfl 0 (by decide) k_36_5 (fun _ h9 => h9) rfl dX4_tellPlainly_94 ?_
    refine lv_topi (fun x94 e_x94 => ?_)
    have b_x94 := iB x94
    refine m_i2l (X := x94.toInt) hx hb dX4_tellPlainly_97 rfl (fun x97 e_x97 g_x97 => ?_)
    refine call_i (As := [.ref s9, .int 4, .long x97]) (rest := []) ⟨hx, hb, hml, hown, hts⟩ (tX4_tell (l := l) s9 h_s9 (4 : Int32) x97 (by first | assumption | omega | (intros; omega) | decide)) (cwV 3 hts (gV (wr37 _ (List.mem_of_getElem? (i := 10) rfl)) (wr37 _ (List.mem_of_getElem? (i := 11) rfl)) (wr37 _ (List.mem_of_getElem? (i := 12) rfl)) (wr2 _ (List.mem_of_getElem? (i := 10) rfl)) (wr37 _ (List.mem_of_getElem? (i := 13) rfl))) rfl rfl rfl (by decide +kernel) ⟨Nat.le_of_ble_eq_true rfl, Nat.le_of_ble_eq_true rfl⟩) (va_recv hK hP (ci := 3) (q0 := 12) rfl rfl) hK hP hD hE hS hA rfl hl.1 rfl (Nat.le_of_ble_eq_true rfl) dX4_tellPlainly_98 ⟨Nat.le_of_ble_eq_true rfl, Nat.le_of_ble_eq_true rfl⟩ (fun r98 w9 H locs hw98 hP hD hS => ?_)
    obtain ⟨a_vc_98, a_vd_98, rfl, hw98_0⟩ := hw98
    have b_r98 := iB r98
    subst hAe
    rw [hQ]
    exact W.iret (v := r98) hx hb hr (fun t ht hW => ⟨⟨r98, _, rfl, ⟨a_vc_98, a_vd_98, rfl⟩, by rw [ht]; exact hP, va_K.moved hW.alike hK, hD⟩, hS.F ht⟩) hS.2.2 dX4_tellPlainly_101

def rmX4_tellLength : Room := { frames := 60, cells := 0, slots := 0, locals := 1200 }
set_option maxHeartbeats 4000000 in
set_option maxRecDepth 100000 in
theorem tX4_tellLength {l : Launch} {D : va_G} {K : Nat → Nat → Nat} {cs : Nat → ClassId} {q : Nat → Nat} {v_t_tapeSize v_t_textSize v_t_faultKind v_g_size v_h_size v_r_takes v_r_negative v_r_namePlace v_r_faultKind v_r_faultPlace v_a_size v_a_limit v_a_digits v_a_kind v_a_from v_a_to v_o_size v_b_size v_b_limit v_b_digits v_b_kind v_b_from v_b_to v_u_marksMade v_u_came v_u_guesses v_u_right v_u_taken v_s_things v_s_looked v_s_lookedTooOften v_s_arraysMade v_s_cellsMade : Int32} {a_t_tape a_t_text a_o_out a_u_outcomes a_u_indexes a_s_classes a_s_starts a_s_lengths a_vc : Nat → Int32} {a_g_beyond a_h_beyond a_r_scratch a_r_now a_u_atom a_u_other a_u_hand : Nat} {a_g_steps a_h_steps a_u_vars a_u_marks : Nat → Option Nat} {a_s_cells a_vd a_sj : Nat → Int64} {a_L : List Nat} {a_K a_iv a_inn : Nat → Nat} {a_si a_ac : Nat → Nat → Int32} (s9 : Nat) (h_s9 : aS a_L a_K s9) (p_0 : RF a_L a_K a_g_beyond a_h_beyond a_r_scratch a_g_steps a_h_steps a_u_atom a_u_other a_u_hand a_u_vars a_u_marks) (p_1 : STO v_s_things v_s_cellsMade a_s_starts a_s_lengths) (p_2 : PI a_L a_K a_si a_iv a_inn) : CtI l yX4_tellLength (wG yX4_tellLength cX4_tellLength 4 (some .int)) rmX4_tellLength D (twT cs) K [.ref (q 12), .ref s9] (tw cs q v_t_tapeSize v_t_textSize v_t_faultKind a_t_tape a_t_text a_g_beyond v_g_size a_g_steps a_h_beyond v_h_size a_h_steps a_r_scratch a_r_now v_r_takes v_r_negative v_r_namePlace v_r_faultKind v_r_faultPlace v_a_size v_a_limit v_a_digits v_a_kind v_a_from v_a_to v_o_size a_o_out v_b_size v_b_limit v_b_digits v_b_kind v_b_from v_b_to a_u_atom a_u_other a_u_hand v_u_marksMade v_u_came v_u_guesses v_u_right v_u_taken a_u_vars a_u_marks a_u_outcomes a_u_indexes v_s_things v_s_looked v_s_lookedTooOften v_s_arraysMade v_s_cellsMade a_s_classes a_s_starts a_s_lengths a_s_cells a_L a_K a_vc a_vd a_si a_sj a_iv a_inn a_ac) (fun r w1 => ∃ (a_vc' : Nat → Int32) (a_vd' : Nat → Int64), w1 = (tw cs q v_t_tapeSize v_t_textSize v_t_faultKind a_t_tape a_t_text a_g_beyond v_g_size a_g_steps a_h_beyond v_h_size a_h_steps a_r_scratch a_r_now v_r_takes v_r_negative v_r_namePlace v_r_faultKind v_r_faultPlace v_a_size v_a_limit v_a_digits v_a_kind v_a_from v_a_to v_o_size a_o_out v_b_size v_b_limit v_b_digits v_b_kind v_b_from v_b_to a_u_atom a_u_other a_u_hand v_u_marksMade v_u_came v_u_guesses v_u_right v_u_taken a_u_vars a_u_marks a_u_outcomes a_u_indexes v_s_things v_s_looked v_s_lookedTooOften v_s_arraysMade v_s_cellsMade a_s_classes a_s_starts a_s_lengths a_s_cells a_L a_K a_vc' a_vd' a_si a_sj a_iv a_inn a_ac)) 0 0 := by
  intro sz
  refine Met.ofW (cc := cX4_tellLength) (maxL := 4) (ret := (some .int)) (by decide) rfl ?_
  intro p e s m args below meth c s₁ B hml hv
  obtain ⟨rfl, hsz, hP, hK, hD0, hE⟩ := hv
  have hx := B.exec
  have hb := B.bytes
  have hr := B.returns
  have hts := atoms_spec (ws := (wG yX4_tellLength cX4_tellLength 4 (some .int))) B.pre
  have hown : s.vm.findClass RX4 = some m.cls := findClass_of_methodNamed B.named
  have hlocks := B.notSynchronized
  subst hsz
  have hD := hD0.self (sz := s.heap.size)
  obtain ⟨A, hAe⟩ : ∃ A : Nat → Prop, A = va_A (tw cs q v_t_tapeSize v_t_textSize v_t_faultKind a_t_tape a_t_text a_g_beyond v_g_size a_g_steps a_h_beyond v_h_size a_h_steps a_r_scratch a_r_now v_r_takes v_r_negative v_r_namePlace v_r_faultKind v_r_faultPlace v_a_size v_a_limit v_a_digits v_a_kind v_a_from v_a_to v_o_size a_o_out v_b_size v_b_limit v_b_digits v_b_kind v_b_from v_b_to a_u_atom a_u_other a_u_hand v_u_marksMade v_u_came v_u_guesses v_u_right v_u_taken a_u_vars a_u_marks a_u_outcomes a_u_indexes v_s_things v_s_looked v_s_lookedTooOften v_s_arraysMade v_s_cellsMade a_s_classes a_s_starts a_s_lengths a_s_cells a_L a_K a_vc a_vd a_si a_sj a_iv a_inn a_ac) s.heap.size := ⟨_, rfl⟩
  rw [← hAe] at hD hE
  have hA : ∀ q : Nat, s.heap.size ≤ q → A q := fun q h => by rw [hAe]; exact Or.inr h
  have hS : va_S A s.heap s.heap [] := va_S.rf
  have hl := lv_entry ([.ref (q 12), .ref s9]) (n := 4) (Nat.le_of_ble_eq_true rfl)
  rw [lg_entry_eq]
  generalize (lg_sl ([.ref (q 12), .ref s9]) ++ List.replicate (4 - (lg_sl ([.ref (q 12), .ref s9])).length) Slot.unset).toArray = ls at hl ⊢
  have hl : lv_has ls 4 [(0, .ref (q 12)), (1, .ref s9)] := hl
  refine wq (fun Q hQ => ?_)
  have hinX4 : ∀ w ∈ wsX40, w ∈ (wG yX4_tellLength cX4_tellLength 4 (some .int)) := fun w h => List.mem_cons_of_mem _ (inlX4 w h)
  have hinX6 : ∀ w ∈ wsX60, w ∈ (wG yX4_tellLength cX4_tellLength 4 (some .int)) := fun w h => List.mem_cons_of_mem _ (inlX6 w h)
  have kc0 : (4 : Int32).toInt = 4 := by decide
  have k_38_0 := hts (.fieldLink RX4 266 "ArrayTrainer$Step" "first" "I") (List.mem_cons_of_mem _ (wr38 _ (List.mem_of_getElem? (i := 0) rfl)))
  have k_4_4 := hts (.fieldLink RX4 12 "ArrayTrainer$Runner" "store" "LArrayTrainer$Store;") (List.mem_cons_of_mem _ (wr4 _ (List.mem_of_getElem? (i := 4) rfl)))
  obtain ⟨H, hH⟩ : ∃ H : Heap, H = s.heap := ⟨_, rfl⟩
  obtain ⟨locs, hlc⟩ : ∃ L : List Loc, L = [] := ⟨_, rfl⟩
  have hP : va_P D vwCl (tw cs q v_t_tapeSize v_t_textSize v_t_faultKind a_t_tape a_t_text a_g_beyond v_g_size a_g_steps a_h_beyond v_h_size a_h_steps a_r_scratch a_r_now v_r_takes v_r_negative v_r_namePlace v_r_faultKind v_r_faultPlace v_a_size v_a_limit v_a_digits v_a_kind v_a_from v_a_to v_o_size a_o_out v_b_size v_b_limit v_b_digits v_b_kind v_b_from v_b_to a_u_atom a_u_other a_u_hand v_u_marksMade v_u_came v_u_guesses v_u_right v_u_taken a_u_vars a_u_marks a_u_outcomes a_u_indexes v_s_things v_s_looked v_s_lookedTooOften v_s_arraysMade v_s_cellsMade a_s_classes a_s_starts a_s_lengths a_s_cells a_L a_K a_vc a_vd a_si a_sj a_iv a_inn a_ac) H := by rw [hH]; exact hP
  have hS : va_S A s.heap H locs := by rw [hH, hlc]; exact hS
  refine wHL hH hlc ?_
  refine lv_aload_n hx hb dX4_tellLength_0 rfl (lv_at hl 0 rfl) ?_
  refine lv_aload_n hx hb dX4_tellLength_1 rfl (lv_at hl 1 rfl) ?_
  obtain ⟨k2_, hk2_⟩ := pl_S (X := (twX cs q v_t_tapeSize v_t_textSize v_t_faultKind a_t_tape a_t_text a_g_beyond v_g_size a_g_steps a_h_beyond v_h_size a_h_steps a_r_scratch a_r_now v_r_takes v_r_negative v_r_namePlace v_r_faultKind v_r_faultPlace v_a_size v_a_limit v_a_digits v_a_kind v_a_from v_a_to v_o_size a_o_out v_b_size v_b_limit v_b_digits v_b_kind v_b_from v_b_to a_u_atom a_u_other a_u_hand v_u_marksMade v_u_came v_u_guesses v_u_right v_u_taken a_u_vars a_u_marks a_u_outcomes a_u_indexes v_s_things v_s_looked v_s_lookedTooOften v_s_arraysMade v_s_cellsMade a_s_classes a_s_starts a_s_lengths a_s_cells)) (cI := cs 0) (vc := a_vc) (vd := a_vd) (si := a_si) (sj := a_sj) (iv := a_iv) (inn := a_inn) (ac := a_ac) h_s9
  refine va_get (D := D) (ci := 5) (v := .int (a_si s9 5)) (C := RX6) (T := TX6) (N := 15) hx hb hts hinX6 hown hK hP k2_ hk2_ rfl 5 (by decide) k_38_0 (fun _ h9 => h9) rfl dX4_tellLength_2 ?_
  refine lv_topi (fun x2 e_x2 => ?_)
  have b_x2 := iB x2
  refine call_r (As := [.int x2]) (rest := []) ⟨hx, hb, hml, hown, hts⟩ (tX4_variable (l := l) x2 (by first | assumption | omega | (intros; omega) | decide)) (cwV 1 hts (gV (wr21 _ (List.mem_of_getElem? (i := 22) rfl)) (wr21 _ (List.mem_of_getElem? (i := 23) rfl)) (wr22 _ (List.mem_of_getElem? (i := 0) rfl)) (wr2 _ (List.mem_of_getElem? (i := 10) rfl)) (wr22 _ (List.mem_of_getElem? (i := 1) rfl))) rfl rfl rfl (by decide +kernel) ⟨Nat.le_of_ble_eq_true rfl, Nat.le_of_ble_eq_true rfl⟩) (va_recv hK hP (ci := 3) (q0 := 12) rfl rfl) hK hP hD hE hS hA rfl hl.1 rfl (Nat.le_of_ble_eq_true rfl) dX4_tellLength_5 ⟨Nat.le_of_ble_eq_true rfl, Nat.le_of_ble_eq_true rfl⟩ (fun r5 w9 H locs hw5 hP hD hS => ?_)
  obtain ⟨rfl, hw5_0⟩ := hw5
  refine lv_astore_n (lv' := [(2, .ref r5), (0, .ref (q 12)), (1, .ref s9)]) hx hb dX4_tellLength_8 rfl hl (by decide) rfl (fun ls hl => ?_)
  refine lv_aload_n hx hb dX4_tellLength_9 rfl (lv_at hl 0 rfl) ?_
  refine call_iS (As := [.ref r5]) (rest := []) ⟨hx, hb, hml, hown, hts⟩ (tX4_needArray (l := l) r5 hw5_0) (va_cwS 1 hts (gS (wr38 _ (List.mem_of_getElem? (i := 1) rfl)) (wr38 _ (List.mem_of_getElem? (i := 2) rfl)) (wr2 _ (List.mem_of_getElem? (i := 10) rfl)) (wr38 _ (List.mem_of_getElem? (i := 3) rfl))) rfl rfl rfl (by decide +kernel) ⟨Nat.le_of_ble_eq_true rfl, Nat.le_of_ble_eq_true rfl⟩) hK hP hD hE hS hA rfl hl.1 rfl (Nat.le_of_ble_eq_true rfl) dX4_tellLength_10 ⟨Nat.le_of_ble_eq_true rfl, Nat.le_of_ble_eq_true rfl⟩ (fun r10 w9 H locs hw10 hP hD hS => ?_)
  obtain ⟨rfl⟩ := hw10
  have b_r10 := iB r10
  refine lv_istore_n (lv' := [(3, .int r10), (2, .ref r5), (0, .ref (q 12)), (1, .ref s9)]) hx hb dX4_tellLength_13 rfl hl (by decide) rfl (fun ls hl => ?_)
  refine lv_iload_n hx hb dX4_tellLength_14 rfl (lv_at hl 0 rfl) ?_
  refine m_if_eq (X := r10.toInt) (tgt := 22) hx hb dX4_tellLength_15 (by decide) rfl (fun c15 => ?_) (fun c15 => ?_)
  · skip
    refine lv_aload_n hx hb dX4_tellLength_22 rfl (lv_at hl 2 rfl) ?_
    refine lv_aload_n hx hb dX4_tellLength_23 rfl (lv_at hl 3 rfl) ?_
    refine lv_iconst (v := 4) hx hb dX4_tellLength_24 (by decide) ?_
    refine lv_aload_n hx hb dX4_tellLength_25 rfl (lv_at hl 2 rfl) ?_
    refine va_get (D := D) (ci := 3) (v := .ref (q 17)) (C := RX4) (T := TX4) (N := 13) hx hb hts hinX4 hown hK hP 12 rfl rfl 0 (by decide) k_4_4 (fun _ h9 => h9) rfl dX4_tellLength_26 ?_
    refine lv_aload_n hx hb dX4_tellLength_29 rfl (lv_at hl 1 rfl) ?_
    obtain ⟨k30_, hk30_⟩ := pl_V (X := (twX cs q v_t_tapeSize v_t_textSize v_t_faultKind a_t_tape a_t_text a_g_beyond v_g_size a_g_steps a_h_beyond v_h_size a_h_steps a_r_scratch a_r_now v_r_takes v_r_negative v_r_namePlace v_r_faultKind v_r_faultPlace v_a_size v_a_limit v_a_digits v_a_kind v_a_from v_a_to v_o_size a_o_out v_b_size v_b_limit v_b_digits v_b_kind v_b_from v_b_to a_u_atom a_u_other a_u_hand v_u_marksMade v_u_came v_u_guesses v_u_right v_u_taken a_u_vars a_u_marks a_u_outcomes a_u_indexes v_s_things v_s_looked v_s_lookedTooOften v_s_arraysMade v_s_cellsMade a_s_classes a_s_starts a_s_lengths a_s_cells)) (cI := cs 0) (vc := a_vc) (vd := a_vd) (si := a_si) (sj := a_sj) (iv := a_iv) (inn := a_inn) (ac := a_ac) hw5_0
    refine call_i (As := []) (rest := [.ref (q 17), .int 4, .ref s9, .ref (q 12)]) ⟨hx, hb, hml, hown, hts⟩ (tX8_array (l := l) r5 hw5_0 ) (cwV 0 hts (gV (wr39 _ (List.mem_of_getElem? (i := 22) rfl)) (wr38 _ (List.mem_of_getElem? (i := 13) rfl)) (wr38 _ (List.mem_of_getElem? (i := 14) rfl)) (wr4 _ (List.mem_of_getElem? (i := 11) rfl)) (wr38 _ (List.mem_of_getElem? (i := 15) rfl))) rfl rfl rfl (by decide +kernel) ⟨Nat.le_of_ble_eq_true rfl, Nat.le_of_ble_eq_true rfl⟩) (va_recv hK hP (ci := 7) (q0 := k30_) rfl hk30_) hK hP hD hE hS hA rfl hl.1 rfl (Nat.le_of_ble_eq_true rfl) dX4_tellLength_30 ⟨Nat.le_of_ble_eq_true rfl, Nat.le_of_ble_eq_true rfl⟩ (fun r30 w9 H locs hw30 hP hD hS => ?_)
    obtain ⟨rfl⟩ := hw30
    have b_r30 := iB r30
    refine call_i (As := [.int r30]) (rest := [.int 4, .ref s9, .ref (q 12)]) ⟨hx, hb, hml, hown, hts⟩ (tX7_lengthOf (l := l) r30 (by first | assumption | omega | (intros; omega) | decide)) (cwV 1 hts (gV (wr41 _ (List.mem_of_getElem? (i := 19) rfl)) (wr41 _ (List.mem_of_getElem? (i := 20) rfl)) (wr41 _ (List.mem_of_getElem? (i := 21) rfl)) (wr4 _ (List.mem_of_getElem? (i := 3) rfl)) (wr41 _ (List.mem_of_getElem? (i := 22) rfl))) rfl rfl rfl (by decide +kernel) ⟨Nat.le_of_ble_eq_true rfl, Nat.le_of_ble_eq_true rfl⟩) (va_recv hK hP (ci := 6) (q0 := 17) rfl rfl) hK hP hD hE hS hA rfl hl.1 rfl (Nat.le_of_ble_eq_true rfl) dX4_tellLength_33 ⟨Nat.le_of_ble_eq_true rfl, Nat.le_of_ble_eq_true rfl⟩ (fun r33 w9 H locs hw33 hP hD hS => ?_)
    obtain ⟨rfl, hw33_0, hw33_1, hw33_2⟩ := hw33
    have b_r33 := iB r33
    refine m_i2l (X := r33.toInt) hx hb dX4_tellLength_36 rfl (fun x36 e_x36 g_x36 => ?_)
    refine call_i (As := [.ref s9, .int 4, .long x36]) (rest := []) ⟨hx, hb, hml, hown, hts⟩ (tX4_tell (l := l) s9 h_s9 (4 : Int32) x36 (by first | assumption | omega | (intros; omega) | decide)) (cwV 3 hts (gV (wr37 _ (List.mem_of_getElem? (i := 10) rfl)) (wr37 _ (List.mem_of_getElem? (i := 11) rfl)) (wr37 _ (List.mem_of_getElem? (i := 12) rfl)) (wr2 _ (List.mem_of_getElem? (i := 10) rfl)) (wr37 _ (List.mem_of_getElem? (i := 13) rfl))) rfl rfl rfl (by decide +kernel) ⟨Nat.le_of_ble_eq_true rfl, Nat.le_of_ble_eq_true rfl⟩) (va_recv hK hP (ci := 3) (q0 := 12) rfl rfl) hK hP hD hE hS hA rfl hl.1 rfl (Nat.le_of_ble_eq_true rfl) dX4_tellLength_37 ⟨Nat.le_of_ble_eq_true rfl, Nat.le_of_ble_eq_true rfl⟩ (fun r37 w9 H locs hw37 hP hD hS => ?_)
    obtain ⟨a_vc_37, a_vd_37, rfl, hw37_0⟩ := hw37
    have b_r37 := iB r37
    subst hAe
    rw [hQ]
    exact W.iret (v := r37) hx hb hr (fun t ht hW => ⟨⟨r37, _, rfl, ⟨a_vc_37, a_vd_37, rfl⟩, by rw [ht]; exact hP, va_K.moved hW.alike hK, hD⟩, hS.F ht⟩) hS.2.2 dX4_tellLength_40
  · skip
    refine lv_iload_n hx hb dX4_tellLength_18 rfl (lv_at hl 0 rfl) ?_
    refine lv_goto (tgt := 40) hx hb dX4_tellLength_19 (by decide) ?_
    subst hAe
    rw [hQ]
    exact W.iret (v := r10) hx hb hr (fun t ht hW => ⟨⟨r10, _, rfl, ⟨a_vc, a_vd, rfl⟩, by rw [ht]; exact hP, va_K.moved hW.alike hK, hD⟩, hS.F ht⟩) hS.2.2 dX4_tellLength_40

def rmX4_tellHash : Room := { frames := 160, cells := 0, slots := 0, locals := 3200 }
set_option maxHeartbeats 4000000 in
set_option maxRecDepth 100000 in
theorem tX4_tellHash {l : Launch} {D : va_G} {K : Nat → Nat → Nat} {cs : Nat → ClassId} {q : Nat → Nat} {v_t_tapeSize v_t_textSize v_t_faultKind v_g_size v_h_size v_r_takes v_r_negative v_r_namePlace v_r_faultKind v_r_faultPlace v_a_size v_a_limit v_a_digits v_a_kind v_a_from v_a_to v_o_size v_b_size v_b_limit v_b_digits v_b_kind v_b_from v_b_to v_u_marksMade v_u_came v_u_guesses v_u_right v_u_taken v_s_things v_s_looked v_s_lookedTooOften v_s_arraysMade v_s_cellsMade : Int32} {a_t_tape a_t_text a_o_out a_u_outcomes a_u_indexes a_s_classes a_s_starts a_s_lengths a_vc : Nat → Int32} {a_g_beyond a_h_beyond a_r_scratch a_r_now a_u_atom a_u_other a_u_hand : Nat} {a_g_steps a_h_steps a_u_vars a_u_marks : Nat → Option Nat} {a_s_cells a_vd a_sj : Nat → Int64} {a_L : List Nat} {a_K a_iv a_inn : Nat → Nat} {a_si a_ac : Nat → Nat → Int32} (s9 : Nat) (h_s9 : aS a_L a_K s9) (p_0 : RF a_L a_K a_g_beyond a_h_beyond a_r_scratch a_g_steps a_h_steps a_u_atom a_u_other a_u_hand a_u_vars a_u_marks) (p_1 : STO v_s_things v_s_cellsMade a_s_starts a_s_lengths) (p_2 : PI a_L a_K a_si a_iv a_inn) : CtI l yX4_tellHash (wG yX4_tellHash cX4_tellHash 4 (some .int)) rmX4_tellHash D (twT cs) K [.ref (q 12), .ref s9] (tw cs q v_t_tapeSize v_t_textSize v_t_faultKind a_t_tape a_t_text a_g_beyond v_g_size a_g_steps a_h_beyond v_h_size a_h_steps a_r_scratch a_r_now v_r_takes v_r_negative v_r_namePlace v_r_faultKind v_r_faultPlace v_a_size v_a_limit v_a_digits v_a_kind v_a_from v_a_to v_o_size a_o_out v_b_size v_b_limit v_b_digits v_b_kind v_b_from v_b_to a_u_atom a_u_other a_u_hand v_u_marksMade v_u_came v_u_guesses v_u_right v_u_taken a_u_vars a_u_marks a_u_outcomes a_u_indexes v_s_things v_s_looked v_s_lookedTooOften v_s_arraysMade v_s_cellsMade a_s_classes a_s_starts a_s_lengths a_s_cells a_L a_K a_vc a_vd a_si a_sj a_iv a_inn a_ac) (fun r w1 => ∃ (v_s_looked' : Int32) (v_s_lookedTooOften' : Int32) (a_vc' : Nat → Int32) (a_vd' : Nat → Int64), w1 = (tw cs q v_t_tapeSize v_t_textSize v_t_faultKind a_t_tape a_t_text a_g_beyond v_g_size a_g_steps a_h_beyond v_h_size a_h_steps a_r_scratch a_r_now v_r_takes v_r_negative v_r_namePlace v_r_faultKind v_r_faultPlace v_a_size v_a_limit v_a_digits v_a_kind v_a_from v_a_to v_o_size a_o_out v_b_size v_b_limit v_b_digits v_b_kind v_b_from v_b_to a_u_atom a_u_other a_u_hand v_u_marksMade v_u_came v_u_guesses v_u_right v_u_taken a_u_vars a_u_marks a_u_outcomes a_u_indexes v_s_things v_s_looked' v_s_lookedTooOften' v_s_arraysMade v_s_cellsMade a_s_classes a_s_starts a_s_lengths a_s_cells a_L a_K a_vc' a_vd' a_si a_sj a_iv a_inn a_ac)) 0 0 := by
  intro sz
  refine Met.ofW (cc := cX4_tellHash) (maxL := 4) (ret := (some .int)) (by decide) rfl ?_
  intro p e s m args below meth c s₁ B hml hv
  obtain ⟨rfl, hsz, hP, hK, hD0, hE⟩ := hv
  have hx := B.exec
  have hb := B.bytes
  have hr := B.returns
  have hts := atoms_spec (ws := (wG yX4_tellHash cX4_tellHash 4 (some .int))) B.pre
  have hown : s.vm.findClass RX4 = some m.cls := findClass_of_methodNamed B.named
  have hlocks := B.notSynchronized
  subst hsz
  have hD := hD0.self (sz := s.heap.size)
  obtain ⟨A, hAe⟩ : ∃ A : Nat → Prop, A = va_A (tw cs q v_t_tapeSize v_t_textSize v_t_faultKind a_t_tape a_t_text a_g_beyond v_g_size a_g_steps a_h_beyond v_h_size a_h_steps a_r_scratch a_r_now v_r_takes v_r_negative v_r_namePlace v_r_faultKind v_r_faultPlace v_a_size v_a_limit v_a_digits v_a_kind v_a_from v_a_to v_o_size a_o_out v_b_size v_b_limit v_b_digits v_b_kind v_b_from v_b_to a_u_atom a_u_other a_u_hand v_u_marksMade v_u_came v_u_guesses v_u_right v_u_taken a_u_vars a_u_marks a_u_outcomes a_u_indexes v_s_things v_s_looked v_s_lookedTooOften v_s_arraysMade v_s_cellsMade a_s_classes a_s_starts a_s_lengths a_s_cells a_L a_K a_vc a_vd a_si a_sj a_iv a_inn a_ac) s.heap.size := ⟨_, rfl⟩
  rw [← hAe] at hD hE
  have hA : ∀ q : Nat, s.heap.size ≤ q → A q := fun q h => by rw [hAe]; exact Or.inr h
  have hS : va_S A s.heap s.heap [] := va_S.rf
  have hl := lv_entry ([.ref (q 12), .ref s9]) (n := 4) (Nat.le_of_ble_eq_true rfl)
  rw [lg_entry_eq]
  generalize (lg_sl ([.ref (q 12), .ref s9]) ++ List.replicate (4 - (lg_sl ([.ref (q 12), .ref s9])).length) Slot.unset).toArray = ls at hl ⊢
  have hl : lv_has ls 4 [(0, .ref (q 12)), (1, .ref s9)] := hl
  refine wq (fun Q hQ => ?_)
  have hinX4 : ∀ w ∈ wsX40, w ∈ (wG yX4_tellHash cX4_tellHash 4 (some .int)) := fun w h => List.mem_cons_of_mem _ (inlX4 w h)
  have hinX6 : ∀ w ∈ wsX60, w ∈ (wG yX4_tellHash cX4_tellHash 4 (some .int)) := fun w h => List.mem_cons_of_mem _ (inlX6 w h)
  have hinX7 : ∀ w ∈ wsX70, w ∈ (wG yX4_tellHash cX4_tellHash 4 (some .int)) := fun w h => List.mem_cons_of_mem _ (inlX7 w h)
  have kc0 : (4 : Int32).toInt = 4 := by decide
  have kc1 : (7 : Int32).toInt = 7 := by decide
  have k_38_0 := hts (.fieldLink RX4 266 "ArrayTrainer$Step" "first" "I") (List.mem_cons_of_mem _ (wr38 _ (List.mem_of_getElem? (i := 0) rfl)))
  have k_4_4 := hts (.fieldLink RX4 12 "ArrayTrainer$Runner" "store" "LArrayTrainer$Store;") (List.mem_cons_of_mem _ (wr4 _ (List.mem_of_getElem? (i := 4) rfl)))
  have k_43_2 := hts (.fieldLink RX4 304 "ArrayTrainer$Store" "lookedTooOften" "Z") (List.mem_cons_of_mem _ (wr43 _ (List.mem_of_getElem? (i := 2) rfl)))
  obtain ⟨H, hH⟩ : ∃ H : Heap, H = s.heap := ⟨_, rfl⟩
  obtain ⟨locs, hlc⟩ : ∃ L : List Loc, L = [] := ⟨_, rfl⟩
  have hP : va_P D vwCl (tw cs q v_t_tapeSize v_t_textSize v_t_faultKind a_t_tape a_t_text a_g_beyond v_g_size a_g_steps a_h_beyond v_h_size a_h_steps a_r_scratch a_r_now v_r_takes v_r_negative v_r_namePlace v_r_faultKind v_r_faultPlace v_a_size v_a_limit v_a_digits v_a_kind v_a_from v_a_to v_o_size a_o_out v_b_size v_b_limit v_b_digits v_b_kind v_b_from v_b_to a_u_atom a_u_other a_u_hand v_u_marksMade v_u_came v_u_guesses v_u_right v_u_taken a_u_vars a_u_marks a_u_outcomes a_u_indexes v_s_things v_s_looked v_s_lookedTooOften v_s_arraysMade v_s_cellsMade a_s_classes a_s_starts a_s_lengths a_s_cells a_L a_K a_vc a_vd a_si a_sj a_iv a_inn a_ac) H := by rw [hH]; exact hP
  have hS : va_S A s.heap H locs := by rw [hH, hlc]; exact hS
  refine wHL hH hlc ?_
  refine lv_aload_n hx hb dX4_tellHash_0 rfl (lv_at hl 0 rfl) ?_
  refine lv_aload_n hx hb dX4_tellHash_1 rfl (lv_at hl 1 rfl) ?_
  obtain ⟨k2_, hk2_⟩ := pl_S (X := (twX cs q v_t_tapeSize v_t_textSize v_t_faultKind a_t_tape a_t_text a_g_beyond v_g_size a_g_steps a_h_beyond v_h_size a_h_steps a_r_scratch a_r_now v_r_takes v_r_negative v_r_namePlace v_r_faultKind v_r_faultPlace v_a_size v_a_limit v_a_digits v_a_kind v_a_from v_a_to v_o_size a_o_out v_b_size v_b_limit v_b_digits v_b_kind v_b_from v_b_to a_u_atom a_u_other a_u_hand v_u_marksMade v_u_came v_u_guesses v_u_right v_u_taken a_u_vars a_u_marks a_u_outcomes a_u_indexes v_s_things v_s_looked v_s_lookedTooOften v_s_arraysMade v_s_cellsMade a_s_classes a_s_starts a_s_lengths a_s_cells)) (cI := cs 0) (vc := a_vc) (vd := a_vd) (si := a_si) (sj := a_sj) (iv := a_iv) (inn := a_inn) (ac := a_ac) h_s9
  refine va_get (D := D) (ci := 5) (v := .int (a_si s9 5)) (C := RX6) (T := TX6) (N := 15) hx hb hts hinX6 hown hK hP k2_ hk2_ rfl 5 (by decide) k_38_0 (fun _ h9 => h9) rfl dX4_tellHash_2 ?_
  refine lv_topi (fun x2 e_x2 => ?_)
  have b_x2 := iB x2
  refine call_r (As := [.int x2]) (rest := []) ⟨hx, hb, hml, hown, hts⟩ (tX4_variable (l := l) x2 (by first | assumption | omega | (intros; omega) | decide)) (cwV 1 hts (gV (wr21 _ (List.mem_of_getElem? (i := 22) rfl)) (wr21 _ (List.mem_of_getElem? (i := 23) rfl)) (wr22 _ (List.mem_of_getElem? (i := 0) rfl)) (wr2 _ (List.mem_of_getElem? (i := 10) rfl)) (wr22 _ (List.mem_of_getElem? (i := 1) rfl))) rfl rfl rfl (by decide +kernel) ⟨Nat.le_of_ble_eq_true rfl, Nat.le_of_ble_eq_true rfl⟩) (va_recv hK hP (ci := 3) (q0 := 12) rfl rfl) hK hP hD hE hS hA rfl hl.1 rfl (Nat.le_of_ble_eq_true rfl) dX4_tellHash_5 ⟨Nat.le_of_ble_eq_true rfl, Nat.le_of_ble_eq_true rfl⟩ (fun r5 w9 H locs hw5 hP hD hS => ?_)
  obtain ⟨rfl, hw5_0⟩ := hw5
  refine lv_astore_n (lv' := [(2, .ref r5), (0, .ref (q 12)), (1, .ref s9)]) hx hb dX4_tellHash_8 rfl hl (by decide) rfl (fun ls hl => ?_)
  refine lv_aload_n hx hb dX4_tellHash_9 rfl (lv_at hl 1 rfl) ?_
  refine va_get (D := D) (ci := 3) (v := .ref (q 17)) (C := RX4) (T := TX4) (N := 13) hx hb hts hinX4 hown hK hP 12 rfl rfl 0 (by decide) k_4_4 (fun _ h9 => h9) rfl dX4_tellHash_10 ?_
  refine lv_aload_n hx hb dX4_tellHash_13 rfl (lv_at hl 0 rfl) ?_
  refine call_i (As := [.ref r5]) (rest := []) ⟨hx, hb, hml, hown, hts⟩ (tX7_hashOf (l := l) r5 hw5_0 (by first | assumption | omega | (intros; omega) | decide)) (cwV 1 hts (gV (wr43 _ (List.mem_of_getElem? (i := 3) rfl)) (wr43 _ (List.mem_of_getElem? (i := 4) rfl)) (wr43 _ (List.mem_of_getElem? (i := 5) rfl)) (wr4 _ (List.mem_of_getElem? (i := 3) rfl)) (wr43 _ (List.mem_of_getElem? (i := 6) rfl))) rfl rfl rfl (by decide +kernel) ⟨Nat.le_of_ble_eq_true rfl, Nat.le_of_ble_eq_true rfl⟩) (va_recv hK hP (ci := 6) (q0 := 17) rfl rfl) hK hP hD hE hS hA rfl hl.1 rfl (Nat.le_of_ble_eq_true rfl) dX4_tellHash_14 ⟨Nat.le_of_ble_eq_true rfl, Nat.le_of_ble_eq_true rfl⟩ (fun r14 w9 H locs hw14 hP hD hS => ?_)
  obtain ⟨v_s_looked_14, v_s_lookedTooOften_14, rfl⟩ := hw14
  have b_v_s_looked_14 := iB v_s_looked_14
  have b_v_s_lookedTooOften_14 := iB v_s_lookedTooOften_14
  have b_r14 := iB r14
  refine lv_istore_n (lv' := [(3, .int r14), (2, .ref r5), (0, .ref (q 12)), (1, .ref s9)]) hx hb dX4_tellHash_17 rfl hl (by decide) rfl (fun ls hl => ?_)
  refine lv_aload_n hx hb dX4_tellHash_18 rfl (lv_at hl 2 rfl) ?_
  refine va_get (D := D) (ci := 3) (v := .ref (q 17)) (C := RX4) (T := TX4) (N := 13) hx hb hts hinX4 hown hK hP 12 rfl rfl 0 (by decide) k_4_4 (fun _ h9 => h9) rfl dX4_tellHash_19 ?_
  refine va_get (D := D) (ci := 6) (v := .int v_s_lookedTooOften_14) (C := RX7) (T := TX7) (N := 9) hx hb hts hinX7 hown hK hP 17 rfl rfl 6 (by decide) k_43_2 (fun _ h9 => h9) rfl dX4_tellHash_22 ?_
  refine m_if_eq (X := v_s_lookedTooOften_14.toInt) (tgt := 33) hx hb dX4_tellHash_25 (by decide) rfl (fun c25 => ?_) (fun c25 => ?_)
  · skip
    refine lv_aload_n hx hb dX4_tellHash_33 rfl (lv_at hl 2 rfl) ?_
    refine lv_aload_n hx hb dX4_tellHash_34 rfl (lv_at hl 3 rfl) ?_
    refine lv_iconst (v := 4) hx hb dX4_tellHash_35 (by decide) ?_
    refine lv_iload_n hx hb dX4_tellHash_36 rfl (lv_at hl 0 rfl) ?_
    refine m_i2l (X := r14.toInt) hx hb dX4_tellHash_37 rfl (fun x37 e_x37 g_x37 => ?_)
    refine call_i (As := [.ref s9, .int 4, .long x37]) (rest := []) ⟨hx, hb, hml, hown, hts⟩ (tX4_tell (l := l) s9 h_s9 (4 : Int32) x37 (by first | assumption | omega | (intros; omega) | decide)) (cwV 3 hts (gV (wr37 _ (List.mem_of_getElem? (i := 10) rfl)) (wr37 _ (List.mem_of_getElem? (i := 11) rfl)) (wr37 _ (List.mem_of_getElem? (i := 12) rfl)) (wr2 _ (List.mem_of_getElem? (i := 10) rfl)) (wr37 _ (List.mem_of_getElem? (i := 13) rfl))) rfl rfl rfl (by decide +kernel) ⟨Nat.le_of_ble_eq_true rfl, Nat.le_of_ble_eq_true rfl⟩) (va_recv hK hP (ci := 3) (q0 := 12) rfl rfl) hK hP hD hE hS hA rfl hl.1 rfl (Nat.le_of_ble_eq_true rfl) dX4_tellHash_38 ⟨Nat.le_of_ble_eq_true rfl, Nat.le_of_ble_eq_true rfl⟩ (fun r38 w9 H locs hw38 hP hD hS => ?_)
    obtain ⟨a_vc_38, a_vd_38, rfl, hw38_0⟩ := hw38
    have b_r38 := iB r38
    subst hAe
    rw [hQ]
    exact W.iret (v := r38) hx hb hr (fun t ht hW => ⟨⟨r38, _, rfl, ⟨v_s_looked_14, v_s_lookedTooOften_14, a_vc_38, a_vd_38, rfl⟩, by rw [ht]; exact hP, va_K.moved hW.alike hK, hD⟩, hS.F ht⟩) hS.2.2 dX4_tellHash_41
  · skip
    refine lv_bipush (v := 7) hx hb dX4_tellHash_28 (by decide) ?_
    refine lv_goto (tgt := 41) hx hb dX4_tellHash_30 (by decide) ?_
    subst hAe
    rw [hQ]
    exact W.iret (v := 7) hx hb hr (fun t ht hW => ⟨⟨7, _, rfl, ⟨v_s_looked_14, v_s_lookedTooOften_14, a_vc, a_vd, rfl⟩, by rw [ht]; exact hP, va_K.moved hW.alike hK, hD⟩, hS.F ht⟩) hS.2.2 dX4_tellHash_41

def rmX4_tellEqual : Room := { frames := 160, cells := 0, slots := 0, locals := 3200 }
set_option maxHeartbeats 4000000 in
set_option maxRecDepth 100000 in
theorem tX4_tellEqual {l : Launch} {D : va_G} {K : Nat → Nat → Nat} {cs : Nat → ClassId} {q : Nat → Nat} {v_t_tapeSize v_t_textSize v_t_faultKind v_g_size v_h_size v_r_takes v_r_negative v_r_namePlace v_r_faultKind v_r_faultPlace v_a_size v_a_limit v_a_digits v_a_kind v_a_from v_a_to v_o_size v_b_size v_b_limit v_b_digits v_b_kind v_b_from v_b_to v_u_marksMade v_u_came v_u_guesses v_u_right v_u_taken v_s_things v_s_looked v_s_lookedTooOften v_s_arraysMade v_s_cellsMade : Int32} {a_t_tape a_t_text a_o_out a_u_outcomes a_u_indexes a_s_classes a_s_starts a_s_lengths a_vc : Nat → Int32} {a_g_beyond a_h_beyond a_r_scratch a_r_now a_u_atom a_u_other a_u_hand : Nat} {a_g_steps a_h_steps a_u_vars a_u_marks : Nat → Option Nat} {a_s_cells a_vd a_sj : Nat → Int64} {a_L : List Nat} {a_K a_iv a_inn : Nat → Nat} {a_si a_ac : Nat → Nat → Int32} (s9 : Nat) (h_s9 : aS a_L a_K s9) (p_0 : RF a_L a_K a_g_beyond a_h_beyond a_r_scratch a_g_steps a_h_steps a_u_atom a_u_other a_u_hand a_u_vars a_u_marks) (p_1 : STO v_s_things v_s_cellsMade a_s_starts a_s_lengths) (p_2 : PI a_L a_K a_si a_iv a_inn) : CtI l yX4_tellEqual (wG yX4_tellEqual cX4_tellEqual 3 (some .int)) rmX4_tellEqual D (twT cs) K [.ref (q 12), .ref s9] (tw cs q v_t_tapeSize v_t_textSize v_t_faultKind a_t_tape a_t_text a_g_beyond v_g_size a_g_steps a_h_beyond v_h_size a_h_steps a_r_scratch a_r_now v_r_takes v_r_negative v_r_namePlace v_r_faultKind v_r_faultPlace v_a_size v_a_limit v_a_digits v_a_kind v_a_from v_a_to v_o_size a_o_out v_b_size v_b_limit v_b_digits v_b_kind v_b_from v_b_to a_u_atom a_u_other a_u_hand v_u_marksMade v_u_came v_u_guesses v_u_right v_u_taken a_u_vars a_u_marks a_u_outcomes a_u_indexes v_s_things v_s_looked v_s_lookedTooOften v_s_arraysMade v_s_cellsMade a_s_classes a_s_starts a_s_lengths a_s_cells a_L a_K a_vc a_vd a_si a_sj a_iv a_inn a_ac) (fun r w1 => ∃ (v_s_looked' : Int32) (v_s_lookedTooOften' : Int32) (a_vc' : Nat → Int32) (a_vd' : Nat → Int64), w1 = (tw cs q v_t_tapeSize v_t_textSize v_t_faultKind a_t_tape a_t_text a_g_beyond v_g_size a_g_steps a_h_beyond v_h_size a_h_steps a_r_scratch a_r_now v_r_takes v_r_negative v_r_namePlace v_r_faultKind v_r_faultPlace v_a_size v_a_limit v_a_digits v_a_kind v_a_from v_a_to v_o_size a_o_out v_b_size v_b_limit v_b_digits v_b_kind v_b_from v_b_to a_u_atom a_u_other a_u_hand v_u_marksMade v_u_came v_u_guesses v_u_right v_u_taken a_u_vars a_u_marks a_u_outcomes a_u_indexes v_s_things v_s_looked' v_s_lookedTooOften' v_s_arraysMade v_s_cellsMade a_s_classes a_s_starts a_s_lengths a_s_cells a_L a_K a_vc' a_vd' a_si a_sj a_iv a_inn a_ac)) 0 0 := by
  intro sz
  refine Met.ofW (cc := cX4_tellEqual) (maxL := 3) (ret := (some .int)) (by decide) rfl ?_
  intro p e s m args below meth c s₁ B hml hv
  obtain ⟨rfl, hsz, hP, hK, hD0, hE⟩ := hv
  have hx := B.exec
  have hb := B.bytes
  have hr := B.returns
  have hts := atoms_spec (ws := (wG yX4_tellEqual cX4_tellEqual 3 (some .int))) B.pre
  have hown : s.vm.findClass RX4 = some m.cls := findClass_of_methodNamed B.named
  have hlocks := B.notSynchronized
  subst hsz
  have hD := hD0.self (sz := s.heap.size)
  obtain ⟨A, hAe⟩ : ∃ A : Nat → Prop, A = va_A (tw cs q v_t_tapeSize v_t_textSize v_t_faultKind a_t_tape a_t_text a_g_beyond v_g_size a_g_steps a_h_beyond v_h_size a_h_steps a_r_scratch a_r_now v_r_takes v_r_negative v_r_namePlace v_r_faultKind v_r_faultPlace v_a_size v_a_limit v_a_digits v_a_kind v_a_from v_a_to v_o_size a_o_out v_b_size v_b_limit v_b_digits v_b_kind v_b_from v_b_to a_u_atom a_u_other a_u_hand v_u_marksMade v_u_came v_u_guesses v_u_right v_u_taken a_u_vars a_u_marks a_u_outcomes a_u_indexes v_s_things v_s_looked v_s_lookedTooOften v_s_arraysMade v_s_cellsMade a_s_classes a_s_starts a_s_lengths a_s_cells a_L a_K a_vc a_vd a_si a_sj a_iv a_inn a_ac) s.heap.size := ⟨_, rfl⟩
  rw [← hAe] at hD hE
  have hA : ∀ q : Nat, s.heap.size ≤ q → A q := fun q h => by rw [hAe]; exact Or.inr h
  have hS : va_S A s.heap s.heap [] := va_S.rf
  have hl := lv_entry ([.ref (q 12), .ref s9]) (n := 3) (Nat.le_of_ble_eq_true rfl)
  rw [lg_entry_eq]
  generalize (lg_sl ([.ref (q 12), .ref s9]) ++ List.replicate (3 - (lg_sl ([.ref (q 12), .ref s9])).length) Slot.unset).toArray = ls at hl ⊢
  have hl : lv_has ls 3 [(0, .ref (q 12)), (1, .ref s9)] := hl
  refine wq (fun Q hQ => ?_)
  have hinX4 : ∀ w ∈ wsX40, w ∈ (wG yX4_tellEqual cX4_tellEqual 3 (some .int)) := fun w h => List.mem_cons_of_mem _ (inlX4 w h)
  have hinX6 : ∀ w ∈ wsX60, w ∈ (wG yX4_tellEqual cX4_tellEqual 3 (some .int)) := fun w h => List.mem_cons_of_mem _ (inlX6 w h)
  have hinX7 : ∀ w ∈ wsX70, w ∈ (wG yX4_tellEqual cX4_tellEqual 3 (some .int)) := fun w h => List.mem_cons_of_mem _ (inlX7 w h)
  have kc0 : (7 : Int32).toInt = 7 := by decide
  have k_4_4 := hts (.fieldLink RX4 12 "ArrayTrainer$Runner" "store" "LArrayTrainer$Store;") (List.mem_cons_of_mem _ (wr4 _ (List.mem_of_getElem? (i := 4) rfl)))
  have k_38_0 := hts (.fieldLink RX4 266 "ArrayTrainer$Step" "first" "I") (List.mem_cons_of_mem _ (wr38 _ (List.mem_of_getElem? (i := 0) rfl)))
  have k_44_5 := hts (.fieldLink RX4 298 "ArrayTrainer$Step" "second" "I") (List.mem_cons_of_mem _ (wr44 _ (List.mem_of_getElem? (i := 5) rfl)))
  have k_43_2 := hts (.fieldLink RX4 304 "ArrayTrainer$Store" "lookedTooOften" "Z") (List.mem_cons_of_mem _ (wr43 _ (List.mem_of_getElem? (i := 2) rfl)))
  obtain ⟨H, hH⟩ : ∃ H : Heap, H = s.heap := ⟨_, rfl⟩
  obtain ⟨locs, hlc⟩ : ∃ L : List Loc, L = [] := ⟨_, rfl⟩
  have hP : va_P D vwCl (tw cs q v_t_tapeSize v_t_textSize v_t_faultKind a_t_tape a_t_text a_g_beyond v_g_size a_g_steps a_h_beyond v_h_size a_h_steps a_r_scratch a_r_now v_r_takes v_r_negative v_r_namePlace v_r_faultKind v_r_faultPlace v_a_size v_a_limit v_a_digits v_a_kind v_a_from v_a_to v_o_size a_o_out v_b_size v_b_limit v_b_digits v_b_kind v_b_from v_b_to a_u_atom a_u_other a_u_hand v_u_marksMade v_u_came v_u_guesses v_u_right v_u_taken a_u_vars a_u_marks a_u_outcomes a_u_indexes v_s_things v_s_looked v_s_lookedTooOften v_s_arraysMade v_s_cellsMade a_s_classes a_s_starts a_s_lengths a_s_cells a_L a_K a_vc a_vd a_si a_sj a_iv a_inn a_ac) H := by rw [hH]; exact hP
  have hS : va_S A s.heap H locs := by rw [hH, hlc]; exact hS
  refine wHL hH hlc ?_
  refine lv_aload_n hx hb dX4_tellEqual_0 rfl (lv_at hl 0 rfl) ?_
  refine va_get (D := D) (ci := 3) (v := .ref (q 17)) (C := RX4) (T := TX4) (N := 13) hx hb hts hinX4 hown hK hP 12 rfl rfl 0 (by decide) k_4_4 (fun _ h9 => h9) rfl dX4_tellEqual_1 ?_
  refine lv_aload_n hx hb dX4_tellEqual_4 rfl (lv_at hl 0 rfl) ?_
  refine lv_aload_n hx hb dX4_tellEqual_5 rfl (lv_at hl 1 rfl) ?_
  obtain ⟨k6_, hk6_⟩ := pl_S (X := (twX cs q v_t_tapeSize v_t_textSize v_t_faultKind a_t_tape a_t_text a_g_beyond v_g_size a_g_steps a_h_beyond v_h_size a_h_steps a_r_scratch a_r_now v_r_takes v_r_negative v_r_namePlace v_r_faultKind v_r_faultPlace v_a_size v_a_limit v_a_digits v_a_kind v_a_from v_a_to v_o_size a_o_out v_b_size v_b_limit v_b_digits v_b_kind v_b_from v_b_to a_u_atom a_u_other a_u_hand v_u_marksMade v_u_came v_u_guesses v_u_right v_u_taken a_u_vars a_u_marks a_u_outcomes a_u_indexes v_s_things v_s_looked v_s_lookedTooOften v_s_arraysMade v_s_cellsMade a_s_classes a_s_starts a_s_lengths a_s_cells)) (cI := cs 0) (vc := a_vc) (vd := a_vd) (si := a_si) (sj := a_sj) (iv := a_iv) (inn := a_inn) (ac := a_ac) h_s9
  refine va_get (D := D) (ci := 5) (v := .int (a_si s9 5)) (C := RX6) (T := TX6) (N := 15) hx hb hts hinX6 hown hK hP k6_ hk6_ rfl 5 (by decide) k_38_0 (fun _ h9 => h9) rfl dX4_tellEqual_6 ?_
  refine lv_topi (fun x6 e_x6 => ?_)
  have b_x6 := iB x6
  refine call_r (As := [.int x6]) (rest := [.ref (q 17)]) ⟨hx, hb, hml, hown, hts⟩ (tX4_variable (l := l) x6 (by first | assumption | omega | (intros; omega) | decide)) (cwV 1 hts (gV (wr21 _ (List.mem_of_getElem? (i := 22) rfl)) (wr21 _ (List.mem_of_getElem? (i := 23) rfl)) (wr22 _ (List.mem_of_getElem? (i := 0) rfl)) (wr2 _ (List.mem_of_getElem? (i := 10) rfl)) (wr22 _ (List.mem_of_getElem? (i := 1) rfl))) rfl rfl rfl (by decide +kernel) ⟨Nat.le_of_ble_eq_true rfl, Nat.le_of_ble_eq_true rfl⟩) (va_recv hK hP (ci := 3) (q0 := 12) rfl rfl) hK hP hD hE hS hA rfl hl.1 rfl (Nat.le_of_ble_eq_true rfl) dX4_tellEqual_9 ⟨Nat.le_of_ble_eq_true rfl, Nat.le_of_ble_eq_true rfl⟩ (fun r9 w9 H locs hw9 hP hD hS => ?_)
  obtain ⟨rfl, hw9_0⟩ := hw9
  refine lv_aload_n hx hb dX4_tellEqual_12 rfl (lv_at hl 0 rfl) ?_
  refine lv_aload_n hx hb dX4_tellEqual_13 rfl (lv_at hl 1 rfl) ?_
  obtain ⟨k14_, hk14_⟩ := pl_S (X := (twX cs q v_t_tapeSize v_t_textSize v_t_faultKind a_t_tape a_t_text a_g_beyond v_g_size a_g_steps a_h_beyond v_h_size a_h_steps a_r_scratch a_r_now v_r_takes v_r_negative v_r_namePlace v_r_faultKind v_r_faultPlace v_a_size v_a_limit v_a_digits v_a_kind v_a_from v_a_to v_o_size a_o_out v_b_size v_b_limit v_b_digits v_b_kind v_b_from v_b_to a_u_atom a_u_other a_u_hand v_u_marksMade v_u_came v_u_guesses v_u_right v_u_taken a_u_vars a_u_marks a_u_outcomes a_u_indexes v_s_things v_s_looked v_s_lookedTooOften v_s_arraysMade v_s_cellsMade a_s_classes a_s_starts a_s_lengths a_s_cells)) (cI := cs 0) (vc := a_vc) (vd := a_vd) (si := a_si) (sj := a_sj) (iv := a_iv) (inn := a_inn) (ac := a_ac) h_s9
  refine va_get (D := D) (ci := 5) (v := .int (a_si s9 6)) (C := RX6) (T := TX6) (N := 15) hx hb hts hinX6 hown hK hP k14_ hk14_ rfl 6 (by decide) k_44_5 (fun _ h9 => h9) rfl dX4_tellEqual_14 ?_
  refine lv_topi (fun x14 e_x14 => ?_)
  have b_x14 := iB x14
  refine call_r (As := [.int x14]) (rest := [.ref r9, .ref (q 17)]) ⟨hx, hb, hml, hown, hts⟩ (tX4_variable (l := l) x14 (by first | assumption | omega | (intros; omega) | decide)) (cwV 1 hts (gV (wr21 _ (List.mem_of_getElem? (i := 22) rfl)) (wr21 _ (List.mem_of_getElem? (i := 23) rfl)) (wr22 _ (List.mem_of_getElem? (i := 0) rfl)) (wr2 _ (List.mem_of_getElem? (i := 10) rfl)) (wr22 _ (List.mem_of_getElem? (i := 1) rfl))) rfl rfl rfl (by decide +kernel) ⟨Nat.le_of_ble_eq_true rfl, Nat.le_of_ble_eq_true rfl⟩) (va_recv hK hP (ci := 3) (q0 := 12) rfl rfl) hK hP hD hE hS hA rfl hl.1 rfl (Nat.le_of_ble_eq_true rfl) dX4_tellEqual_17 ⟨Nat.le_of_ble_eq_true rfl, Nat.le_of_ble_eq_true rfl⟩ (fun r17 w9 H locs hw17 hP hD hS => ?_)
  obtain ⟨rfl, hw17_0⟩ := hw17
  refine call_i (As := [.ref r9, .ref r17]) (rest := []) ⟨hx, hb, hml, hown, hts⟩ (tX7_areEqual (l := l) r9 hw9_0 r17 hw17_0 (by first | assumption | omega | (intros; omega) | decide)) (cwV 2 hts (gV (wr44 _ (List.mem_of_getElem? (i := 6) rfl)) (wr44 _ (List.mem_of_getElem? (i := 7) rfl)) (wr44 _ (List.mem_of_getElem? (i := 8) rfl)) (wr4 _ (List.mem_of_getElem? (i := 3) rfl)) (wr44 _ (List.mem_of_getElem? (i := 9) rfl))) rfl rfl rfl (by decide +kernel) ⟨Nat.le_of_ble_eq_true rfl, Nat.le_of_ble_eq_true rfl⟩) (va_recv hK hP (ci := 6) (q0 := 17) rfl rfl) hK hP hD hE hS hA rfl hl.1 rfl (Nat.le_of_ble_eq_true rfl) dX4_tellEqual_20 ⟨Nat.le_of_ble_eq_true rfl, Nat.le_of_ble_eq_true rfl⟩ (fun r20 w9 H locs hw20 hP hD hS => ?_)
  obtain ⟨v_s_looked_20, v_s_lookedTooOften_20, rfl, hw20_0⟩ := hw20
  have b_v_s_looked_20 := iB v_s_looked_20
  have b_v_s_lookedTooOften_20 := iB v_s_lookedTooOften_20
  have b_r20 := iB r20
  refine lv_istore_n (lv' := [(2, .int r20), (0, .ref (q 12)), (1, .ref s9)]) hx hb dX4_tellEqual_23 rfl hl (by decide) rfl (fun ls hl => ?_)
  refine lv_aload_n hx hb dX4_tellEqual_24 rfl (lv_at hl 1 rfl) ?_
  refine va_get (D := D) (ci := 3) (v := .ref (q 17)) (C := RX4) (T := TX4) (N := 13) hx hb hts hinX4 hown hK hP 12 rfl rfl 0 (by decide) k_4_4 (fun _ h9 => h9) rfl dX4_tellEqual_25 ?_
  refine va_get (D := D) (ci := 6) (v := .int v_s_lookedTooOften_20) (C := RX7) (T := TX7) (N := 9) hx hb hts hinX7 hown hK hP 17 rfl rfl 6 (by decide) k_43_2 (fun _ h9 => h9) rfl dX4_tellEqual_28 ?_
  refine m_if_eq (X := v_s_lookedTooOften_20.toInt) (tgt := 39) hx hb dX4_tellEqual_31 (by decide) rfl (fun c31 => ?_) (fun c31 => ?_)
  · skip
    refine lv_aload_n hx hb dX4_tellEqual_39 rfl (lv_at hl 1 rfl) ?_
    refine lv_aload_n hx hb dX4_tellEqual_40 rfl (lv_at hl 2 rfl) ?_
    refine lv_iload_n hx hb dX4_tellEqual_41 rfl (lv_at hl 0 rfl) ?_
    refine call_i (As := [.ref s9, .int r20]) (rest := []) ⟨hx, hb, hml, hown, hts⟩ (tX4_tellTruth (l := l) s9 h_s9 r20 (by first | assumption | omega | (intros; omega) | decide)) (cwV 2 hts (gV (wr44 _ (List.mem_of_getElem? (i := 14) rfl)) (wr44 _ (List.mem_of_getElem? (i := 15) rfl)) (wr44 _ (List.mem_of_getElem? (i := 16) rfl)) (wr2 _ (List.mem_of_getElem? (i := 10) rfl)) (wr44 _ (List.mem_of_getElem? (i := 17) rfl))) rfl rfl rfl (by decide +kernel) ⟨Nat.le_of_ble_eq_true rfl, Nat.le_of_ble_eq_true rfl⟩) (va_recv hK hP (ci := 3) (q0 := 12) rfl rfl) hK hP hD hE hS hA rfl hl.1 rfl (Nat.le_of_ble_eq_true rfl) dX4_tellEqual_42 ⟨Nat.le_of_ble_eq_true rfl, Nat.le_of_ble_eq_true rfl⟩ (fun r42 w9 H locs hw42 hP hD hS => ?_)
    obtain ⟨a_vc_42, a_vd_42, rfl, hw42_0⟩ := hw42
    have b_r42 := iB r42
    subst hAe
    rw [hQ]
    exact W.iret (v := r42) hx hb hr (fun t ht hW => ⟨⟨r42, _, rfl, ⟨v_s_looked_20, v_s_lookedTooOften_20, a_vc_42, a_vd_42, rfl⟩, by rw [ht]; exact hP, va_K.moved hW.alike hK, hD⟩, hS.F ht⟩) hS.2.2 dX4_tellEqual_45
  · skip
    refine lv_bipush (v := 7) hx hb dX4_tellEqual_34 (by decide) ?_
    refine lv_goto (tgt := 45) hx hb dX4_tellEqual_36 (by decide) ?_
    subst hAe
    rw [hQ]
    exact W.iret (v := 7) hx hb hr (fun t ht hW => ⟨⟨7, _, rfl, ⟨v_s_looked_20, v_s_lookedTooOften_20, a_vc, a_vd, rfl⟩, by rw [ht]; exact hP, va_K.moved hW.alike hK, hD⟩, hS.F ht⟩) hS.2.2 dX4_tellEqual_45

def rmX4_copyCells : Room := { frames := 80, cells := 0, slots := 0, locals := 1600 }
set_option maxHeartbeats 4000000 in
set_option maxRecDepth 100000 in
theorem tX4_copyCells {l : Launch} {D : va_G} {K : Nat → Nat → Nat} {cs : Nat → ClassId} {q : Nat → Nat} {v_t_tapeSize v_t_textSize v_t_faultKind v_g_size v_h_size v_r_takes v_r_negative v_r_namePlace v_r_faultKind v_r_faultPlace v_a_size v_a_limit v_a_digits v_a_kind v_a_from v_a_to v_o_size v_b_size v_b_limit v_b_digits v_b_kind v_b_from v_b_to v_u_marksMade v_u_came v_u_guesses v_u_right v_u_taken v_s_things v_s_looked v_s_lookedTooOften v_s_arraysMade v_s_cellsMade : Int32} {a_t_tape a_t_text a_o_out a_u_outcomes a_u_indexes a_s_classes a_s_starts a_s_lengths a_vc : Nat → Int32} {a_g_beyond a_h_beyond a_r_scratch a_r_now a_u_atom a_u_other a_u_hand : Nat} {a_g_steps a_h_steps a_u_vars a_u_marks : Nat → Option Nat} {a_s_cells a_vd a_sj : Nat → Int64} {a_L : List Nat} {a_K a_iv a_inn : Nat → Nat} {a_si a_ac : Nat → Nat → Int32} (s9 : Nat) (h_s9 : aS a_L a_K s9) (p_0 : RF a_L a_K a_g_beyond a_h_beyond a_r_scratch a_g_steps a_h_steps a_u_atom a_u_other a_u_hand a_u_vars a_u_marks) (p_1 : STO v_s_things v_s_cellsMade a_s_starts a_s_lengths) (p_2 : PI a_L a_K a_si a_iv a_inn) : CtI l yX4_copyCells (wG yX4_copyCells cX4_copyCells 4 (some .int)) rmX4_copyCells D (twT cs) K [.ref (q 12), .ref s9] (tw cs q v_t_tapeSize v_t_textSize v_t_faultKind a_t_tape a_t_text a_g_beyond v_g_size a_g_steps a_h_beyond v_h_size a_h_steps a_r_scratch a_r_now v_r_takes v_r_negative v_r_namePlace v_r_faultKind v_r_faultPlace v_a_size v_a_limit v_a_digits v_a_kind v_a_from v_a_to v_o_size a_o_out v_b_size v_b_limit v_b_digits v_b_kind v_b_from v_b_to a_u_atom a_u_other a_u_hand v_u_marksMade v_u_came v_u_guesses v_u_right v_u_taken a_u_vars a_u_marks a_u_outcomes a_u_indexes v_s_things v_s_looked v_s_lookedTooOften v_s_arraysMade v_s_cellsMade a_s_classes a_s_starts a_s_lengths a_s_cells a_L a_K a_vc a_vd a_si a_sj a_iv a_inn a_ac) (fun r w1 => ∃ (a_s_cells' : Nat → Int64), w1 = (tw cs q v_t_tapeSize v_t_textSize v_t_faultKind a_t_tape a_t_text a_g_beyond v_g_size a_g_steps a_h_beyond v_h_size a_h_steps a_r_scratch a_r_now v_r_takes v_r_negative v_r_namePlace v_r_faultKind v_r_faultPlace v_a_size v_a_limit v_a_digits v_a_kind v_a_from v_a_to v_o_size a_o_out v_b_size v_b_limit v_b_digits v_b_kind v_b_from v_b_to a_u_atom a_u_other a_u_hand v_u_marksMade v_u_came v_u_guesses v_u_right v_u_taken a_u_vars a_u_marks a_u_outcomes a_u_indexes v_s_things v_s_looked v_s_lookedTooOften v_s_arraysMade v_s_cellsMade a_s_classes a_s_starts a_s_lengths a_s_cells' a_L a_K a_vc a_vd a_si a_sj a_iv a_inn a_ac)) 0 0 := by
  intro sz
  refine Met.ofW (cc := cX4_copyCells) (maxL := 4) (ret := (some .int)) (by decide) rfl ?_
  intro p e s m args below meth c s₁ B hml hv
  obtain ⟨rfl, hsz, hP, hK, hD0, hE⟩ := hv
  have hx := B.exec
  have hb := B.bytes
  have hr := B.returns
  have hts := atoms_spec (ws := (wG yX4_copyCells cX4_copyCells 4 (some .int))) B.pre
  have hown : s.vm.findClass RX4 = some m.cls := findClass_of_methodNamed B.named
  have hlocks := B.notSynchronized
  subst hsz
  have hD := hD0.self (sz := s.heap.size)
  obtain ⟨A, hAe⟩ : ∃ A : Nat → Prop, A = va_A (tw cs q v_t_tapeSize v_t_textSize v_t_faultKind a_t_tape a_t_text a_g_beyond v_g_size a_g_steps a_h_beyond v_h_size a_h_steps a_r_scratch a_r_now v_r_takes v_r_negative v_r_namePlace v_r_faultKind v_r_faultPlace v_a_size v_a_limit v_a_digits v_a_kind v_a_from v_a_to v_o_size a_o_out v_b_size v_b_limit v_b_digits v_b_kind v_b_from v_b_to a_u_atom a_u_other a_u_hand v_u_marksMade v_u_came v_u_guesses v_u_right v_u_taken a_u_vars a_u_marks a_u_outcomes a_u_indexes v_s_things v_s_looked v_s_lookedTooOften v_s_arraysMade v_s_cellsMade a_s_classes a_s_starts a_s_lengths a_s_cells a_L a_K a_vc a_vd a_si a_sj a_iv a_inn a_ac) s.heap.size := ⟨_, rfl⟩
  rw [← hAe] at hD hE
  have hA : ∀ q : Nat, s.heap.size ≤ q → A q := fun q h => by rw [hAe]; exact Or.inr h
  have hS : va_S A s.heap s.heap [] := va_S.rf
  have hl := lv_entry ([.ref (q 12), .ref s9]) (n := 4) (Nat.le_of_ble_eq_true rfl)
  rw [lg_entry_eq]
  generalize (lg_sl ([.ref (q 12), .ref s9]) ++ List.replicate (4 - (lg_sl ([.ref (q 12), .ref s9])).length) Slot.unset).toArray = ls at hl ⊢
  have hl : lv_has ls 4 [(0, .ref (q 12)), (1, .ref s9)] := hl
  refine wq (fun Q hQ => ?_)
  have hinX4 : ∀ w ∈ wsX40, w ∈ (wG yX4_copyCells cX4_copyCells 4 (some .int)) := fun w h => List.mem_cons_of_mem _ (inlX4 w h)
  have hinX6 : ∀ w ∈ wsX60, w ∈ (wG yX4_copyCells cX4_copyCells 4 (some .int)) := fun w h => List.mem_cons_of_mem _ (inlX6 w h)
  have hinX8 : ∀ w ∈ wsX80, w ∈ (wG yX4_copyCells cX4_copyCells 4 (some .int)) := fun w h => List.mem_cons_of_mem _ (inlX8 w h)
  have kc0 : (0 : Int32).toInt = 0 := by decide
  have kc1 : (1 : Int32).toInt = 1 := by decide
  have kc2 : (2 : Int32).toInt = 2 := by decide
  have kc3 : (6 : Int32).toInt = 6 := by decide
  have k_38_0 := hts (.fieldLink RX4 266 "ArrayTrainer$Step" "first" "I") (List.mem_cons_of_mem _ (wr38 _ (List.mem_of_getElem? (i := 0) rfl)))
  have k_44_5 := hts (.fieldLink RX4 298 "ArrayTrainer$Step" "second" "I") (List.mem_cons_of_mem _ (wr44 _ (List.mem_of_getElem? (i := 5) rfl)))
  have k_36_5 := hts (.fieldLink RX4 152 "ArrayTrainer$Value" "cls" "I") (List.mem_cons_of_mem _ (wr36 _ (List.mem_of_getElem? (i := 5) rfl)))
  have k_4_4 := hts (.fieldLink RX4 12 "ArrayTrainer$Runner" "store" "LArrayTrainer$Store;") (List.mem_cons_of_mem _ (wr4 _ (List.mem_of_getElem? (i := 4) rfl)))
  have k_4_9 := hts (.fieldLink RX4 33 "ArrayTrainer$Runner" "indexes" "[I") (List.mem_cons_of_mem _ (wr4 _ (List.mem_of_getElem? (i := 9) rfl)))
  obtain ⟨H, hH⟩ : ∃ H : Heap, H = s.heap := ⟨_, rfl⟩
  obtain ⟨locs, hlc⟩ : ∃ L : List Loc, L = [] := ⟨_, rfl⟩
  have hP : va_P D vwCl (tw cs q v_t_tapeSize v_t_textSize v_t_faultKind a_t_tape a_t_text a_g_beyond v_g_size a_g_steps a_h_beyond v_h_size a_h_steps a_r_scratch a_r_now v_r_takes v_r_negative v_r_namePlace v_r_faultKind v_r_faultPlace v_a_size v_a_limit v_a_digits v_a_kind v_a_from v_a_to v_o_size a_o_out v_b_size v_b_limit v_b_digits v_b_kind v_b_from v_b_to a_u_atom a_u_other a_u_hand v_u_marksMade v_u_came v_u_guesses v_u_right v_u_taken a_u_vars a_u_marks a_u_outcomes a_u_indexes v_s_things v_s_looked v_s_lookedTooOften v_s_arraysMade v_s_cellsMade a_s_classes a_s_starts a_s_lengths a_s_cells a_L a_K a_vc a_vd a_si a_sj a_iv a_inn a_ac) H := by rw [hH]; exact hP
  have hS : va_S A s.heap H locs := by rw [hH, hlc]; exact hS
  refine wHL hH hlc ?_
  refine lv_aload_n hx hb dX4_copyCells_0 rfl (lv_at hl 0 rfl) ?_
  refine lv_aload_n hx hb dX4_copyCells_1 rfl (lv_at hl 1 rfl) ?_
  obtain ⟨k2_, hk2_⟩ := pl_S (X := (twX cs q v_t_tapeSize v_t_textSize v_t_faultKind a_t_tape a_t_text a_g_beyond v_g_size a_g_steps a_h_beyond v_h_size a_h_steps a_r_scratch a_r_now v_r_takes v_r_negative v_r_namePlace v_r_faultKind v_r_faultPlace v_a_size v_a_limit v_a_digits v_a_kind v_a_from v_a_to v_o_size a_o_out v_b_size v_b_limit v_b_digits v_b_kind v_b_from v_b_to a_u_atom a_u_other a_u_hand v_u_marksMade v_u_came v_u_guesses v_u_right v_u_taken a_u_vars a_u_marks a_u_outcomes a_u_indexes v_s_things v_s_looked v_s_lookedTooOften v_s_arraysMade v_s_cellsMade a_s_classes a_s_starts a_s_lengths a_s_cells)) (cI := cs 0) (vc := a_vc) (vd := a_vd) (si := a_si) (sj := a_sj) (iv := a_iv) (inn := a_inn) (ac := a_ac) h_s9
  refine va_get (D := D) (ci := 5) (v := .int (a_si s9 5)) (C := RX6) (T := TX6) (N := 15) hx hb hts hinX6 hown hK hP k2_ hk2_ rfl 5 (by decide) k_38_0 (fun _ h9 => h9) rfl dX4_copyCells_2 ?_
  refine lv_topi (fun x2 e_x2 => ?_)
  have b_x2 := iB x2
  refine call_r (As := [.int x2]) (rest := []) ⟨hx, hb, hml, hown, hts⟩ (tX4_variable (l := l) x2 (by first | assumption | omega | (intros; omega) | decide)) (cwV 1 hts (gV (wr21 _ (List.mem_of_getElem? (i := 22) rfl)) (wr21 _ (List.mem_of_getElem? (i := 23) rfl)) (wr22 _ (List.mem_of_getElem? (i := 0) rfl)) (wr2 _ (List.mem_of_getElem? (i := 10) rfl)) (wr22 _ (List.mem_of_getElem? (i := 1) rfl))) rfl rfl rfl (by decide +kernel) ⟨Nat.le_of_ble_eq_true rfl, Nat.le_of_ble_eq_true rfl⟩) (va_recv hK hP (ci := 3) (q0 := 12) rfl rfl) hK hP hD hE hS hA rfl hl.1 rfl (Nat.le_of_ble_eq_true rfl) dX4_copyCells_5 ⟨Nat.le_of_ble_eq_true rfl, Nat.le_of_ble_eq_true rfl⟩ (fun r5 w9 H locs hw5 hP hD hS => ?_)
  obtain ⟨rfl, hw5_0⟩ := hw5
  refine lv_astore_n (lv' := [(2, .ref r5), (0, .ref (q 12)), (1, .ref s9)]) hx hb dX4_copyCells_8 rfl hl (by decide) rfl (fun ls hl => ?_)
  refine lv_aload_n hx hb dX4_copyCells_9 rfl (lv_at hl 1 rfl) ?_
  refine lv_aload_n hx hb dX4_copyCells_10 rfl (lv_at hl 2 rfl) ?_
  obtain ⟨k11_, hk11_⟩ := pl_S (X := (twX cs q v_t_tapeSize v_t_textSize v_t_faultKind a_t_tape a_t_text a_g_beyond v_g_size a_g_steps a_h_beyond v_h_size a_h_steps a_r_scratch a_r_now v_r_takes v_r_negative v_r_namePlace v_r_faultKind v_r_faultPlace v_a_size v_a_limit v_a_digits v_a_kind v_a_from v_a_to v_o_size a_o_out v_b_size v_b_limit v_b_digits v_b_kind v_b_from v_b_to a_u_atom a_u_other a_u_hand v_u_marksMade v_u_came v_u_guesses v_u_right v_u_taken a_u_vars a_u_marks a_u_outcomes a_u_indexes v_s_things v_s_looked v_s_lookedTooOften v_s_arraysMade v_s_cellsMade a_s_classes a_s_starts a_s_lengths a_s_cells)) (cI := cs 0) (vc := a_vc) (vd := a_vd) (si := a_si) (sj := a_sj) (iv := a_iv) (inn := a_inn) (ac := a_ac) h_s9
  refine va_get (D := D) (ci := 5) (v := .int (a_si s9 6)) (C := RX6) (T := TX6) (N := 15) hx hb hts hinX6 hown hK hP k11_ hk11_ rfl 6 (by decide) k_44_5 (fun _ h9 => h9) rfl dX4_copyCells_11 ?_
  refine lv_topi (fun x11 e_x11 => ?_)
  have b_x11 := iB x11
  refine call_r (As := [.int x11]) (rest := []) ⟨hx, hb, hml, hown, hts⟩ (tX4_variable (l := l) x11 (by first | assumption | omega | (intros; omega) | decide)) (cwV 1 hts (gV (wr21 _ (List.mem_of_getElem? (i := 22) rfl)) (wr21 _ (List.mem_of_getElem? (i := 23) rfl)) (wr22 _ (List.mem_of_getElem? (i := 0) rfl)) (wr2 _ (List.mem_of_getElem? (i := 10) rfl)) (wr22 _ (List.mem_of_getElem? (i := 1) rfl))) rfl rfl rfl (by decide +kernel) ⟨Nat.le_of_ble_eq_true rfl, Nat.le_of_ble_eq_true rfl⟩) (va_recv hK hP (ci := 3) (q0 := 12) rfl rfl) hK hP hD hE hS hA rfl hl.1 rfl (Nat.le_of_ble_eq_true rfl) dX4_copyCells_14 ⟨Nat.le_of_ble_eq_true rfl, Nat.le_of_ble_eq_true rfl⟩ (fun r14 w9 H locs hw14 hP hD hS => ?_)
  obtain ⟨rfl, hw14_0⟩ := hw14
  refine lv_astore_n (lv' := [(3, .ref r14), (2, .ref r5), (0, .ref (q 12)), (1, .ref s9)]) hx hb dX4_copyCells_17 rfl hl (by decide) rfl (fun ls hl => ?_)
  refine lv_aload_n hx hb dX4_copyCells_18 rfl (lv_at hl 1 rfl) ?_
  obtain ⟨k19_, hk19_⟩ := pl_V (X := (twX cs q v_t_tapeSize v_t_textSize v_t_faultKind a_t_tape a_t_text a_g_beyond v_g_size a_g_steps a_h_beyond v_h_size a_h_steps a_r_scratch a_r_now v_r_takes v_r_negative v_r_namePlace v_r_faultKind v_r_faultPlace v_a_size v_a_limit v_a_digits v_a_kind v_a_from v_a_to v_o_size a_o_out v_b_size v_b_limit v_b_digits v_b_kind v_b_from v_b_to a_u_atom a_u_other a_u_hand v_u_marksMade v_u_came v_u_guesses v_u_right v_u_taken a_u_vars a_u_marks a_u_outcomes a_u_indexes v_s_things v_s_looked v_s_lookedTooOften v_s_arraysMade v_s_cellsMade a_s_classes a_s_starts a_s_lengths a_s_cells)) (cI := cs 0) (vc := a_vc) (vd := a_vd) (si := a_si) (sj := a_sj) (iv := a_iv) (inn := a_inn) (ac := a_ac) hw5_0
  refine call_i (As := []) (rest := []) ⟨hx, hb, hml, hown, hts⟩ (tX8_isNone (l := l) r5 hw5_0 ) (cwV 0 hts (gV (wr36 _ (List.mem_of_getElem? (i := 14) rfl)) (wr36 _ (List.mem_of_getElem? (i := 15) rfl)) (wr36 _ (List.mem_of_getElem? (i := 16) rfl)) (wr4 _ (List.mem_of_getElem? (i := 11) rfl)) (wr36 _ (List.mem_of_getElem? (i := 17) rfl))) rfl rfl rfl (by decide +kernel) ⟨Nat.le_of_ble_eq_true rfl, Nat.le_of_ble_eq_true rfl⟩) (va_recv hK hP (ci := 7) (q0 := k19_) rfl hk19_) hK hP hD hE hS hA rfl hl.1 rfl (Nat.le_of_ble_eq_true rfl) dX4_copyCells_19 ⟨Nat.le_of_ble_eq_true rfl, Nat.le_of_ble_eq_true rfl⟩ (fun r19 w9 H locs hw19 hP hD hS => ?_)
  obtain ⟨rfl, hw19_0⟩ := hw19
  have b_r19 := iB r19
  refine m_if_ne (X := r19.toInt) (tgt := 32) hx hb dX4_copyCells_22 (by decide) rfl (fun c22 => ?_) (fun c22 => ?_)
  · skip
    refine lv_iconst (v := 1) hx hb dX4_copyCells_32 (by decide) ?_
    subst hAe
    rw [hQ]
    exact W.iret (v := 1) hx hb hr (fun t ht hW => ⟨⟨1, _, rfl, ⟨a_s_cells, rfl⟩, by rw [ht]; exact hP, va_K.moved hW.alike hK, hD⟩, hS.F ht⟩) hS.2.2 dX4_copyCells_33
  · skip
    refine lv_aload_n hx hb dX4_copyCells_25 rfl (lv_at hl 0 rfl) ?_
    obtain ⟨k26_, hk26_⟩ := pl_V (X := (twX cs q v_t_tapeSize v_t_textSize v_t_faultKind a_t_tape a_t_text a_g_beyond v_g_size a_g_steps a_h_beyond v_h_size a_h_steps a_r_scratch a_r_now v_r_takes v_r_negative v_r_namePlace v_r_faultKind v_r_faultPlace v_a_size v_a_limit v_a_digits v_a_kind v_a_from v_a_to v_o_size a_o_out v_b_size v_b_limit v_b_digits v_b_kind v_b_from v_b_to a_u_atom a_u_other a_u_hand v_u_marksMade v_u_came v_u_guesses v_u_right v_u_taken a_u_vars a_u_marks a_u_outcomes a_u_indexes v_s_things v_s_looked v_s_lookedTooOften v_s_arraysMade v_s_cellsMade a_s_classes a_s_starts a_s_lengths a_s_cells)) (cI := cs 0) (vc := a_vc) (vd := a_vd) (si := a_si) (sj := a_sj) (iv := a_iv) (inn := a_inn) (ac := a_ac) hw14_0
    refine call_i (As := []) (rest := []) ⟨hx, hb, hml, hown, hts⟩ (tX8_isNone (l := l) r14 hw14_0 ) (cwV 0 hts (gV (wr36 _ (List.mem_of_getElem? (i := 14) rfl)) (wr36 _ (List.mem_of_getElem? (i := 15) rfl)) (wr36 _ (List.mem_of_getElem? (i := 16) rfl)) (wr4 _ (List.mem_of_getElem? (i := 11) rfl)) (wr36 _ (List.mem_of_getElem? (i := 17) rfl))) rfl rfl rfl (by decide +kernel) ⟨Nat.le_of_ble_eq_true rfl, Nat.le_of_ble_eq_true rfl⟩) (va_recv hK hP (ci := 7) (q0 := k26_) rfl hk26_) hK hP hD hE hS hA rfl hl.1 rfl (Nat.le_of_ble_eq_true rfl) dX4_copyCells_26 ⟨Nat.le_of_ble_eq_true rfl, Nat.le_of_ble_eq_true rfl⟩ (fun r26 w9 H locs hw26 hP hD hS => ?_)
    obtain ⟨rfl, hw26_0⟩ := hw26
    have b_r26 := iB r26
    refine m_if_eq (X := r26.toInt) (tgt := 34) hx hb dX4_copyCells_29 (by decide) rfl (fun c29 => ?_) (fun c29 => ?_)
    · skip
      refine lv_aload_n hx hb dX4_copyCells_34 rfl (lv_at hl 1 rfl) ?_
      obtain ⟨k35_, hk35_⟩ := pl_V (X := (twX cs q v_t_tapeSize v_t_textSize v_t_faultKind a_t_tape a_t_text a_g_beyond v_g_size a_g_steps a_h_beyond v_h_size a_h_steps a_r_scratch a_r_now v_r_takes v_r_negative v_r_namePlace v_r_faultKind v_r_faultPlace v_a_size v_a_limit v_a_digits v_a_kind v_a_from v_a_to v_o_size a_o_out v_b_size v_b_limit v_b_digits v_b_kind v_b_from v_b_to a_u_atom a_u_other a_u_hand v_u_marksMade v_u_came v_u_guesses v_u_right v_u_taken a_u_vars a_u_marks a_u_outcomes a_u_indexes v_s_things v_s_looked v_s_lookedTooOften v_s_arraysMade v_s_cellsMade a_s_classes a_s_starts a_s_lengths a_s_cells)) (cI := cs 0) (vc := a_vc) (vd := a_vd) (si := a_si) (sj := a_sj) (iv := a_iv) (inn := a_inn) (ac := a_ac) hw5_0
      refine call_i (As := []) (rest := []) ⟨hx, hb, hml, hown, hts⟩ (tX8_isArray (l := l) r5 hw5_0 ) (cwV 0 hts (gV (wr38 _ (List.mem_of_getElem? (i := 4) rfl)) (wr38 _ (List.mem_of_getElem? (i := 5) rfl)) (wr38 _ (List.mem_of_getElem? (i := 6) rfl)) (wr4 _ (List.mem_of_getElem? (i := 11) rfl)) (wr38 _ (List.mem_of_getElem? (i := 7) rfl))) rfl rfl rfl (by decide +kernel) ⟨Nat.le_of_ble_eq_true rfl, Nat.le_of_ble_eq_true rfl⟩) (va_recv hK hP (ci := 7) (q0 := k35_) rfl hk35_) hK hP hD hE hS hA rfl hl.1 rfl (Nat.le_of_ble_eq_true rfl) dX4_copyCells_35 ⟨Nat.le_of_ble_eq_true rfl, Nat.le_of_ble_eq_true rfl⟩ (fun r35 w9 H locs hw35 hP hD hS => ?_)
      obtain ⟨rfl, hw35_0⟩ := hw35
      have b_r35 := iB r35
      refine m_if_eq (X := r35.toInt) (tgt := 62) hx hb dX4_copyCells_38 (by decide) rfl (fun c38 => ?_) (fun c38 => ?_)
      · skip
        refine lv_bipush (v := 6) hx hb dX4_copyCells_62 (by decide) ?_
        subst hAe
        rw [hQ]
        exact W.iret (v := 6) hx hb hr (fun t ht hW => ⟨⟨6, _, rfl, ⟨a_s_cells, rfl⟩, by rw [ht]; exact hP, va_K.moved hW.alike hK, hD⟩, hS.F ht⟩) hS.2.2 dX4_copyCells_64
      · skip
        refine lv_aload_n hx hb dX4_copyCells_41 rfl (lv_at hl 0 rfl) ?_
        obtain ⟨k42_, hk42_⟩ := pl_V (X := (twX cs q v_t_tapeSize v_t_textSize v_t_faultKind a_t_tape a_t_text a_g_beyond v_g_size a_g_steps a_h_beyond v_h_size a_h_steps a_r_scratch a_r_now v_r_takes v_r_negative v_r_namePlace v_r_faultKind v_r_faultPlace v_a_size v_a_limit v_a_digits v_a_kind v_a_from v_a_to v_o_size a_o_out v_b_size v_b_limit v_b_digits v_b_kind v_b_from v_b_to a_u_atom a_u_other a_u_hand v_u_marksMade v_u_came v_u_guesses v_u_right v_u_taken a_u_vars a_u_marks a_u_outcomes a_u_indexes v_s_things v_s_looked v_s_lookedTooOften v_s_arraysMade v_s_cellsMade a_s_classes a_s_starts a_s_lengths a_s_cells)) (cI := cs 0) (vc := a_vc) (vd := a_vd) (si := a_si) (sj := a_sj) (iv := a_iv) (inn := a_inn) (ac := a_ac) hw14_0
        refine call_i (As := []) (rest := []) ⟨hx, hb, hml, hown, hts⟩ (tX8_isArray (l := l) r14 hw14_0 ) (cwV 0 hts (gV (wr38 _ (List.mem_of_getElem? (i := 4) rfl)) (wr38 _ (List.mem_of_getElem? (i := 5) rfl)) (wr38 _ (List.mem_of_getElem? (i := 6) rfl)) (wr4 _ (List.mem_of_getElem? (i := 11) rfl)) (wr38 _ (List.mem_of_getElem? (i := 7) rfl))) rfl rfl rfl (by decide +kernel) ⟨Nat.le_of_ble_eq_true rfl, Nat.le_of_ble_eq_true rfl⟩) (va_recv hK hP (ci := 7) (q0 := k42_) rfl hk42_) hK hP hD hE hS hA rfl hl.1 rfl (Nat.le_of_ble_eq_true rfl) dX4_copyCells_42 ⟨Nat.le_of_ble_eq_true rfl, Nat.le_of_ble_eq_true rfl⟩ (fun r42 w9 H locs hw42 hP hD hS => ?_)
        obtain ⟨rfl, hw42_0⟩ := hw42
        have b_r42 := iB r42
        refine m_if_eq (X := r42.toInt) (tgt := 62) hx hb dX4_copyCells_45 (by decide) rfl (fun c45 => ?_) (fun c45 => ?_)
        · skip
          refine lv_bipush (v := 6) hx hb dX4_copyCells_62 (by decide) ?_
          subst hAe
          rw [hQ]
          exact W.iret (v := 6) hx hb hr (fun t ht hW => ⟨⟨6, _, rfl, ⟨a_s_cells, rfl⟩, by rw [ht]; exact hP, va_K.moved hW.alike hK, hD⟩, hS.F ht⟩) hS.2.2 dX4_copyCells_64
        · skip
          refine lv_aload_n hx hb dX4_copyCells_48 rfl (lv_at hl 1 rfl) ?_
          obtain ⟨k49_, hk49_⟩ := pl_V (X := (twX cs q v_t_tapeSize v_t_textSize v_t_faultKind a_t_tape a_t_text a_g_beyond v_g_size a_g_steps a_h_beyond v_h_size a_h_steps a_r_scratch a_r_now v_r_takes v_r_negative v_r_namePlace v_r_faultKind v_r_faultPlace v_a_size v_a_limit v_a_digits v_a_kind v_a_from v_a_to v_o_size a_o_out v_b_size v_b_limit v_b_digits v_b_kind v_b_from v_b_to a_u_atom a_u_other a_u_hand v_u_marksMade v_u_came v_u_guesses v_u_right v_u_taken a_u_vars a_u_marks a_u_outcomes a_u_indexes v_s_things v_s_looked v_s_lookedTooOften v_s_arraysMade v_s_cellsMade a_s_classes a_s_starts a_s_lengths a_s_cells)) (cI := cs 0) (vc := a_vc) (vd := a_vd) (si := a_si) (sj := a_sj) (iv := a_iv) (inn := a_inn) (ac := a_ac) hw5_0
          refine va_get (D := D) (ci := 7) (v := .int (a_vc r5)) (C := RX8) (T := TX8) (N := 2) hx hb hts hinX8 hown hK hP k49_ hk49_ rfl 0 (by decide) k_36_5 (fun _ h9 => h9) rfl dX4_copyCells_49 ?_
          refine lv_topi (fun x49 e_x49 => ?_)
          have b_x49 := iB x49
          refine lv_aload_n hx hb dX4_copyCells_52 rfl (lv_at hl 0 rfl) ?_
          obtain ⟨k53_, hk53_⟩ := pl_V (X := (twX cs q v_t_tapeSize v_t_textSize v_t_faultKind a_t_tape a_t_text a_g_beyond v_g_size a_g_steps a_h_beyond v_h_size a_h_steps a_r_scratch a_r_now v_r_takes v_r_negative v_r_namePlace v_r_faultKind v_r_faultPlace v_a_size v_a_limit v_a_digits v_a_kind v_a_from v_a_to v_o_size a_o_out v_b_size v_b_limit v_b_digits v_b_kind v_b_from v_b_to a_u_atom a_u_other a_u_hand v_u_marksMade v_u_came v_u_guesses v_u_right v_u_taken a_u_vars a_u_marks a_u_outcomes a_u_indexes v_s_things v_s_looked v_s_lookedTooOften v_s_arraysMade v_s_cellsMade a_s_classes a_s_starts a_s_lengths a_s_cells)) (cI := cs 0) (vc := a_vc) (vd := a_vd) (si := a_si) (sj := a_sj) (iv := a_iv) (inn := a_inn) (ac := a_ac) hw14_0
          refine va_get (D := D) (ci := 7) (v := .int (a_vc r14)) (C := RX8) (T := TX8) (N := 2) hx hb hts hinX8 hown hK hP k53_ hk53_ rfl 0 (by decide) k_36_5 (fun _ h9 => h9) rfl dX4_copyCells_53 ?_
          refine lv_topi (fun x53 e_x53 => ?_)
          have b_x53 := iB x53
          refine call_iSP (As := [.int x49, .int x53]) (rest := []) ⟨hx, hb, hml, hown, hts⟩ (tX0_areUnlike (l := l) x49 x53) (va_cwS 2 hts (gS (wr44 _ (List.mem_of_getElem? (i := 22) rfl)) (wr44 _ (List.mem_of_getElem? (i := 23) rfl)) (wr19 _ (List.mem_of_getElem? (i := 5) rfl)) (wr45 _ (List.mem_of_getElem? (i := 0) rfl))) rfl rfl rfl (by decide +kernel) ⟨Nat.le_of_ble_eq_true rfl, Nat.le_of_ble_eq_true rfl⟩) (hK.sub [] rfl) hP hD hE hS hA rfl hl.1 rfl (Nat.le_of_ble_eq_true rfl) dX4_copyCells_56 ⟨Nat.le_of_ble_eq_true rfl, Nat.le_of_ble_eq_true rfl⟩ (fun r56 w9 H locs hw56 hP hD hS => ?_)
          obtain ⟨rfl, hw56_0, hw56_1⟩ := hw56
          have b_r56 := iB r56
          refine m_if_eq (X := r56.toInt) (tgt := 65) hx hb dX4_copyCells_59 (by decide) rfl (fun c59 => ?_) (fun c59 => ?_)
          · skip
            refine lv_aload_n hx hb dX4_copyCells_65 rfl (lv_at hl 2 rfl) ?_
            refine va_get (D := D) (ci := 3) (v := .ref (q 17)) (C := RX4) (T := TX4) (N := 13) hx hb hts hinX4 hown hK hP 12 rfl rfl 0 (by decide) k_4_4 (fun _ h9 => h9) rfl dX4_copyCells_66 ?_
            refine lv_aload_n hx hb dX4_copyCells_69 rfl (lv_at hl 1 rfl) ?_
            obtain ⟨k70_, hk70_⟩ := pl_V (X := (twX cs q v_t_tapeSize v_t_textSize v_t_faultKind a_t_tape a_t_text a_g_beyond v_g_size a_g_steps a_h_beyond v_h_size a_h_steps a_r_scratch a_r_now v_r_takes v_r_negative v_r_namePlace v_r_faultKind v_r_faultPlace v_a_size v_a_limit v_a_digits v_a_kind v_a_from v_a_to v_o_size a_o_out v_b_size v_b_limit v_b_digits v_b_kind v_b_from v_b_to a_u_atom a_u_other a_u_hand v_u_marksMade v_u_came v_u_guesses v_u_right v_u_taken a_u_vars a_u_marks a_u_outcomes a_u_indexes v_s_things v_s_looked v_s_lookedTooOften v_s_arraysMade v_s_cellsMade a_s_classes a_s_starts a_s_lengths a_s_cells)) (cI := cs 0) (vc := a_vc) (vd := a_vd) (si := a_si) (sj := a_sj) (iv := a_iv) (inn := a_inn) (ac := a_ac) hw5_0
            refine call_i (As := []) (rest := [.ref (q 17)]) ⟨hx, hb, hml, hown, hts⟩ (tX8_array (l := l) r5 hw5_0 ) (cwV 0 hts (gV (wr39 _ (List.mem_of_getElem? (i := 22) rfl)) (wr38 _ (List.mem_of_getElem? (i := 13) rfl)) (wr38 _ (List.mem_of_getElem? (i := 14) rfl)) (wr4 _ (List.mem_of_getElem? (i := 11) rfl)) (wr38 _ (List.mem_of_getElem? (i := 15) rfl))) rfl rfl rfl (by decide +kernel) ⟨Nat.le_of_ble_eq_true rfl, Nat.le_of_ble_eq_true rfl⟩) (va_recv hK hP (ci := 7) (q0 := k70_) rfl hk70_) hK hP hD hE hS hA rfl hl.1 rfl (Nat.le_of_ble_eq_true rfl) dX4_copyCells_70 ⟨Nat.le_of_ble_eq_true rfl, Nat.le_of_ble_eq_true rfl⟩ (fun r70 w9 H locs hw70 hP hD hS => ?_)
            obtain ⟨rfl⟩ := hw70
            have b_r70 := iB r70
            refine lv_aload_n hx hb dX4_copyCells_73 rfl (lv_at hl 2 rfl) ?_
            refine va_get (D := D) (ci := 3) (v := .ref (q 16)) (C := RX4) (T := TX4) (N := 13) hx hb hts hinX4 hown hK hP 12 rfl rfl 4 (by decide) k_4_9 (fun _ h9 => h9) rfl dX4_copyCells_74 ?_
            refine lv_iconst (v := 0) hx hb dX4_copyCells_77 (by decide) ?_
            refine m_iald hx hb hK hP 16 0 rfl rfl (ix (by decide) (by decide)) dX4_copyCells_78 (fun x78 e_x78 => ?_)
            have b_x78 := iB x78
            refine lv_aload_n hx hb dX4_copyCells_79 rfl (lv_at hl 0 rfl) ?_
            obtain ⟨k80_, hk80_⟩ := pl_V (X := (twX cs q v_t_tapeSize v_t_textSize v_t_faultKind a_t_tape a_t_text a_g_beyond v_g_size a_g_steps a_h_beyond v_h_size a_h_steps a_r_scratch a_r_now v_r_takes v_r_negative v_r_namePlace v_r_faultKind v_r_faultPlace v_a_size v_a_limit v_a_digits v_a_kind v_a_from v_a_to v_o_size a_o_out v_b_size v_b_limit v_b_digits v_b_kind v_b_from v_b_to a_u_atom a_u_other a_u_hand v_u_marksMade v_u_came v_u_guesses v_u_right v_u_taken a_u_vars a_u_marks a_u_outcomes a_u_indexes v_s_things v_s_looked v_s_lookedTooOften v_s_arraysMade v_s_cellsMade a_s_classes a_s_starts a_s_lengths a_s_cells)) (cI := cs 0) (vc := a_vc) (vd := a_vd) (si := a_si) (sj := a_sj) (iv := a_iv) (inn := a_inn) (ac := a_ac) hw14_0
            refine call_i (As := []) (rest := [.int x78, .int r70, .ref (q 17)]) ⟨hx, hb, hml, hown, hts⟩ (tX8_array (l := l) r14 hw14_0 ) (cwV 0 hts (gV (wr39 _ (List.mem_of_getElem? (i := 22) rfl)) (wr38 _ (List.mem_of_getElem? (i := 13) rfl)) (wr38 _ (List.mem_of_getElem? (i := 14) rfl)) (wr4 _ (List.mem_of_getElem? (i := 11) rfl)) (wr38 _ (List.mem_of_getElem? (i := 15) rfl))) rfl rfl rfl (by decide +kernel) ⟨Nat.le_of_ble_eq_true rfl, Nat.le_of_ble_eq_true rfl⟩) (va_recv hK hP (ci := 7) (q0 := k80_) rfl hk80_) hK hP hD hE hS hA rfl hl.1 rfl (Nat.le_of_ble_eq_true rfl) dX4_copyCells_80 ⟨Nat.le_of_ble_eq_true rfl, Nat.le_of_ble_eq_true rfl⟩ (fun r80 w9 H locs hw80 hP hD hS => ?_)
            obtain ⟨rfl⟩ := hw80
            have b_r80 := iB r80
            refine lv_aload_n hx hb dX4_copyCells_83 rfl (lv_at hl 2 rfl) ?_
            refine va_get (D := D) (ci := 3) (v := .ref (q 16)) (C := RX4) (T := TX4) (N := 13) hx hb hts hinX4 hown hK hP 12 rfl rfl 4 (by decide) k_4_9 (fun _ h9 => h9) rfl dX4_copyCells_84 ?_
            refine lv_iconst (v := 1) hx hb dX4_copyCells_87 (by decide) ?_
            refine m_iald hx hb hK hP 16 0 rfl rfl (ix (by decide) (by decide)) dX4_copyCells_88 (fun x88 e_x88 => ?_)
            have b_x88 := iB x88
            refine lv_aload_n hx hb dX4_copyCells_89 rfl (lv_at hl 2 rfl) ?_
            refine va_get (D := D) (ci := 3) (v := .ref (q 16)) (C := RX4) (T := TX4) (N := 13) hx hb hts hinX4 hown hK hP 12 rfl rfl 4 (by decide) k_4_9 (fun _ h9 => h9) rfl dX4_copyCells_90 ?_
            refine lv_iconst (v := 2) hx hb dX4_copyCells_93 (by decide) ?_
            refine m_iald hx hb hK hP 16 0 rfl rfl (ix (by decide) (by decide)) dX4_copyCells_94 (fun x94 e_x94 => ?_)
            have b_x94 := iB x94
            refine call_i (As := [.int r70, .int x78, .int r80, .int x88, .int x94]) (rest := []) ⟨hx, hb, hml, hown, hts⟩ (tX7_copyCells (l := l) r70 x78 r80 x88 x94 (by first | assumption | omega | (intros; omega) | decide)) (cwV 5 hts (gV (wr45 _ (List.mem_of_getElem? (i := 4) rfl)) (wr45 _ (List.mem_of_getElem? (i := 5) rfl)) (wr45 _ (List.mem_of_getElem? (i := 6) rfl)) (wr4 _ (List.mem_of_getElem? (i := 3) rfl)) (wr45 _ (List.mem_of_getElem? (i := 7) rfl))) rfl rfl rfl (by decide +kernel) ⟨Nat.le_of_ble_eq_true rfl, Nat.le_of_ble_eq_true rfl⟩) (va_recv hK hP (ci := 6) (q0 := 17) rfl rfl) hK hP hD hE hS hA rfl hl.1 rfl (Nat.le_of_ble_eq_true rfl) dX4_copyCells_95 ⟨Nat.le_of_ble_eq_true rfl, Nat.le_of_ble_eq_true rfl⟩ (fun r95 w9 H locs hw95 hP hD hS => ?_)
            obtain ⟨a_s_cells_95, rfl⟩ := hw95
            have b_r95 := iB r95
            subst hAe
            rw [hQ]
            exact W.iret (v := r95) hx hb hr (fun t ht hW => ⟨⟨r95, _, rfl, ⟨a_s_cells_95, rfl⟩, by rw [ht]; exact hP, va_K.moved hW.alike hK, hD⟩, hS.F ht⟩) hS.2.2 dX4_copyCells_98
          · skip
            refine lv_bipush (v := 6) hx hb dX4_copyCells_62 (by decide) ?_
            subst hAe
            rw [hQ]
            exact W.iret (v := 6) hx hb hr (fun t ht hW => ⟨⟨6, _, rfl, ⟨a_s_cells, rfl⟩, by rw [ht]; exact hP, va_K.moved hW.alike hK, hD⟩, hS.F ht⟩) hS.2.2 dX4_copyCells_64
    · skip
      refine lv_iconst (v := 1) hx hb dX4_copyCells_32 (by decide) ?_
      subst hAe
      rw [hQ]
      exact W.iret (v := 1) hx hb hr (fun t ht hW => ⟨⟨1, _, rfl, ⟨a_s_cells, rfl⟩, by rw [ht]; exact hP, va_K.moved hW.alike hK, hD⟩, hS.F ht⟩) hS.2.2 dX4_copyCells_33

def rmX4_fillCells : Room := { frames := 80, cells := 0, slots := 0, locals := 1600 }
set_option maxHeartbeats 4000000 in
set_option maxRecDepth 100000 in
theorem tX4_fillCells {l : Launch} {D : va_G} {K : Nat → Nat → Nat} {cs : Nat → ClassId} {q : Nat → Nat} {v_t_tapeSize v_t_textSize v_t_faultKind v_g_size v_h_size v_r_takes v_r_negative v_r_namePlace v_r_faultKind v_r_faultPlace v_a_size v_a_limit v_a_digits v_a_kind v_a_from v_a_to v_o_size v_b_size v_b_limit v_b_digits v_b_kind v_b_from v_b_to v_u_marksMade v_u_came v_u_guesses v_u_right v_u_taken v_s_things v_s_looked v_s_lookedTooOften v_s_arraysMade v_s_cellsMade : Int32} {a_t_tape a_t_text a_o_out a_u_outcomes a_u_indexes a_s_classes a_s_starts a_s_lengths a_vc : Nat → Int32} {a_g_beyond a_h_beyond a_r_scratch a_r_now a_u_atom a_u_other a_u_hand : Nat} {a_g_steps a_h_steps a_u_vars a_u_marks : Nat → Option Nat} {a_s_cells a_vd a_sj : Nat → Int64} {a_L : List Nat} {a_K a_iv a_inn : Nat → Nat} {a_si a_ac : Nat → Nat → Int32} (s9 : Nat) (h_s9 : aS a_L a_K s9) (p_0 : RF a_L a_K a_g_beyond a_h_beyond a_r_scratch a_g_steps a_h_steps a_u_atom a_u_other a_u_hand a_u_vars a_u_marks) (p_1 : STO v_s_things v_s_cellsMade a_s_starts a_s_lengths) (p_2 : PI a_L a_K a_si a_iv a_inn) : CtI l yX4_fillCells (wG yX4_fillCells cX4_fillCells 6 (some .int)) rmX4_fillCells D (twT cs) K [.ref (q 12), .ref s9] (tw cs q v_t_tapeSize v_t_textSize v_t_faultKind a_t_tape a_t_text a_g_beyond v_g_size a_g_steps a_h_beyond v_h_size a_h_steps a_r_scratch a_r_now v_r_takes v_r_negative v_r_namePlace v_r_faultKind v_r_faultPlace v_a_size v_a_limit v_a_digits v_a_kind v_a_from v_a_to v_o_size a_o_out v_b_size v_b_limit v_b_digits v_b_kind v_b_from v_b_to a_u_atom a_u_other a_u_hand v_u_marksMade v_u_came v_u_guesses v_u_right v_u_taken a_u_vars a_u_marks a_u_outcomes a_u_indexes v_s_things v_s_looked v_s_lookedTooOften v_s_arraysMade v_s_cellsMade a_s_classes a_s_starts a_s_lengths a_s_cells a_L a_K a_vc a_vd a_si a_sj a_iv a_inn a_ac) (fun r w1 => ∃ (a_s_cells' : Nat → Int64), w1 = (tw cs q v_t_tapeSize v_t_textSize v_t_faultKind a_t_tape a_t_text a_g_beyond v_g_size a_g_steps a_h_beyond v_h_size a_h_steps a_r_scratch a_r_now v_r_takes v_r_negative v_r_namePlace v_r_faultKind v_r_faultPlace v_a_size v_a_limit v_a_digits v_a_kind v_a_from v_a_to v_o_size a_o_out v_b_size v_b_limit v_b_digits v_b_kind v_b_from v_b_to a_u_atom a_u_other a_u_hand v_u_marksMade v_u_came v_u_guesses v_u_right v_u_taken a_u_vars a_u_marks a_u_outcomes a_u_indexes v_s_things v_s_looked v_s_lookedTooOften v_s_arraysMade v_s_cellsMade a_s_classes a_s_starts a_s_lengths a_s_cells' a_L a_K a_vc a_vd a_si a_sj a_iv a_inn a_ac)) 0 0 := by
  intro sz
  refine Met.ofW (cc := cX4_fillCells) (maxL := 6) (ret := (some .int)) (by decide) rfl ?_
  intro p e s m args below meth c s₁ B hml hv
  obtain ⟨rfl, hsz, hP, hK, hD0, hE⟩ := hv
  have hx := B.exec
  have hb := B.bytes
  have hr := B.returns
  have hts := atoms_spec (ws := (wG yX4_fillCells cX4_fillCells 6 (some .int))) B.pre
  have hown : s.vm.findClass RX4 = some m.cls := findClass_of_methodNamed B.named
  have hlocks := B.notSynchronized
  subst hsz
  have hD := hD0.self (sz := s.heap.size)
  obtain ⟨A, hAe⟩ : ∃ A : Nat → Prop, A = va_A (tw cs q v_t_tapeSize v_t_textSize v_t_faultKind a_t_tape a_t_text a_g_beyond v_g_size a_g_steps a_h_beyond v_h_size a_h_steps a_r_scratch a_r_now v_r_takes v_r_negative v_r_namePlace v_r_faultKind v_r_faultPlace v_a_size v_a_limit v_a_digits v_a_kind v_a_from v_a_to v_o_size a_o_out v_b_size v_b_limit v_b_digits v_b_kind v_b_from v_b_to a_u_atom a_u_other a_u_hand v_u_marksMade v_u_came v_u_guesses v_u_right v_u_taken a_u_vars a_u_marks a_u_outcomes a_u_indexes v_s_things v_s_looked v_s_lookedTooOften v_s_arraysMade v_s_cellsMade a_s_classes a_s_starts a_s_lengths a_s_cells a_L a_K a_vc a_vd a_si a_sj a_iv a_inn a_ac) s.heap.size := ⟨_, rfl⟩
  rw [← hAe] at hD hE
  have hA : ∀ q : Nat, s.heap.size ≤ q → A q := fun q h => by rw [hAe]; exact Or.inr h
  have hS : va_S A s.heap s.heap [] := va_S.rf
  have hl := lv_entry ([.ref (q 12), .ref s9]) (n := 6) (Nat.le_of_ble_eq_true rfl)
  rw [lg_entry_eq]
  generalize (lg_sl ([.ref (q 12), .ref s9]) ++ List.replicate (6 - (lg_sl ([.ref (q 12), .ref s9])).length) Slot.unset).toArray = ls at hl ⊢
  have hl : lv_has ls 6 [(0, .ref (q 12)), (1, .ref s9)] := hl
  refine wq (fun Q hQ => ?_)
  have hinX4 : ∀ w ∈ wsX40, w ∈ (wG yX4_fillCells cX4_fillCells 6 (some .int)) := fun w h => List.mem_cons_of_mem _ (inlX4 w h)
  have hinX6 : ∀ w ∈ wsX60, w ∈ (wG yX4_fillCells cX4_fillCells 6 (some .int)) := fun w h => List.mem_cons_of_mem _ (inlX6 w h)
  have hinX8 : ∀ w ∈ wsX80, w ∈ (wG yX4_fillCells cX4_fillCells 6 (some .int)) := fun w h => List.mem_cons_of_mem _ (inlX8 w h)
  have kc0 : (0 : Int32).toInt = 0 := by decide
  have k_38_0 := hts (.fieldLink RX4 266 "ArrayTrainer$Step" "first" "I") (List.mem_cons_of_mem _ (wr38 _ (List.mem_of_getElem? (i := 0) rfl)))
  have k_4_4 := hts (.fieldLink RX4 12 "ArrayTrainer$Runner" "store" "LArrayTrainer$Store;") (List.mem_cons_of_mem _ (wr4 _ (List.mem_of_getElem? (i := 4) rfl)))
  have k_36_5 := hts (.fieldLink RX4 152 "ArrayTrainer$Value" "cls" "I") (List.mem_cons_of_mem _ (wr36 _ (List.mem_of_getElem? (i := 5) rfl)))
  have k_4_12 := hts (.fieldLink RX4 37 "ArrayTrainer$Runner" "atom" "LArrayTrainer$Value;") (List.mem_cons_of_mem _ (wr4 _ (List.mem_of_getElem? (i := 12) rfl)))
  obtain ⟨H, hH⟩ : ∃ H : Heap, H = s.heap := ⟨_, rfl⟩
  obtain ⟨locs, hlc⟩ : ∃ L : List Loc, L = [] := ⟨_, rfl⟩
  have hP : va_P D vwCl (tw cs q v_t_tapeSize v_t_textSize v_t_faultKind a_t_tape a_t_text a_g_beyond v_g_size a_g_steps a_h_beyond v_h_size a_h_steps a_r_scratch a_r_now v_r_takes v_r_negative v_r_namePlace v_r_faultKind v_r_faultPlace v_a_size v_a_limit v_a_digits v_a_kind v_a_from v_a_to v_o_size a_o_out v_b_size v_b_limit v_b_digits v_b_kind v_b_from v_b_to a_u_atom a_u_other a_u_hand v_u_marksMade v_u_came v_u_guesses v_u_right v_u_taken a_u_vars a_u_marks a_u_outcomes a_u_indexes v_s_things v_s_looked v_s_lookedTooOften v_s_arraysMade v_s_cellsMade a_s_classes a_s_starts a_s_lengths a_s_cells a_L a_K a_vc a_vd a_si a_sj a_iv a_inn a_ac) H := by rw [hH]; exact hP
  have hS : va_S A s.heap H locs := by rw [hH, hlc]; exact hS
  refine wHL hH hlc ?_
  refine lv_aload_n hx hb dX4_fillCells_0 rfl (lv_at hl 0 rfl) ?_
  refine lv_aload_n hx hb dX4_fillCells_1 rfl (lv_at hl 1 rfl) ?_
  obtain ⟨k2_, hk2_⟩ := pl_S (X := (twX cs q v_t_tapeSize v_t_textSize v_t_faultKind a_t_tape a_t_text a_g_beyond v_g_size a_g_steps a_h_beyond v_h_size a_h_steps a_r_scratch a_r_now v_r_takes v_r_negative v_r_namePlace v_r_faultKind v_r_faultPlace v_a_size v_a_limit v_a_digits v_a_kind v_a_from v_a_to v_o_size a_o_out v_b_size v_b_limit v_b_digits v_b_kind v_b_from v_b_to a_u_atom a_u_other a_u_hand v_u_marksMade v_u_came v_u_guesses v_u_right v_u_taken a_u_vars a_u_marks a_u_outcomes a_u_indexes v_s_things v_s_looked v_s_lookedTooOften v_s_arraysMade v_s_cellsMade a_s_classes a_s_starts a_s_lengths a_s_cells)) (cI := cs 0) (vc := a_vc) (vd := a_vd) (si := a_si) (sj := a_sj) (iv := a_iv) (inn := a_inn) (ac := a_ac) h_s9
  refine va_get (D := D) (ci := 5) (v := .int (a_si s9 5)) (C := RX6) (T := TX6) (N := 15) hx hb hts hinX6 hown hK hP k2_ hk2_ rfl 5 (by decide) k_38_0 (fun _ h9 => h9) rfl dX4_fillCells_2 ?_
  refine lv_topi (fun x2 e_x2 => ?_)
  have b_x2 := iB x2
  refine call_r (As := [.int x2]) (rest := []) ⟨hx, hb, hml, hown, hts⟩ (tX4_variable (l := l) x2 (by first | assumption | omega | (intros; omega) | decide)) (cwV 1 hts (gV (wr21 _ (List.mem_of_getElem? (i := 22) rfl)) (wr21 _ (List.mem_of_getElem? (i := 23) rfl)) (wr22 _ (List.mem_of_getElem? (i := 0) rfl)) (wr2 _ (List.mem_of_getElem? (i := 10) rfl)) (wr22 _ (List.mem_of_getElem? (i := 1) rfl))) rfl rfl rfl (by decide +kernel) ⟨Nat.le_of_ble_eq_true rfl, Nat.le_of_ble_eq_true rfl⟩) (va_recv hK hP (ci := 3) (q0 := 12) rfl rfl) hK hP hD hE hS hA rfl hl.1 rfl (Nat.le_of_ble_eq_true rfl) dX4_fillCells_5 ⟨Nat.le_of_ble_eq_true rfl, Nat.le_of_ble_eq_true rfl⟩ (fun r5 w9 H locs hw5 hP hD hS => ?_)
  obtain ⟨rfl, hw5_0⟩ := hw5
  refine lv_astore_n (lv' := [(2, .ref r5), (0, .ref (q 12)), (1, .ref s9)]) hx hb dX4_fillCells_8 rfl hl (by decide) rfl (fun ls hl => ?_)
  refine lv_aload_n hx hb dX4_fillCells_9 rfl (lv_at hl 0 rfl) ?_
  refine call_iS (As := [.ref r5]) (rest := []) ⟨hx, hb, hml, hown, hts⟩ (tX4_needArray (l := l) r5 hw5_0) (va_cwS 1 hts (gS (wr38 _ (List.mem_of_getElem? (i := 1) rfl)) (wr38 _ (List.mem_of_getElem? (i := 2) rfl)) (wr2 _ (List.mem_of_getElem? (i := 10) rfl)) (wr38 _ (List.mem_of_getElem? (i := 3) rfl))) rfl rfl rfl (by decide +kernel) ⟨Nat.le_of_ble_eq_true rfl, Nat.le_of_ble_eq_true rfl⟩) hK hP hD hE hS hA rfl hl.1 rfl (Nat.le_of_ble_eq_true rfl) dX4_fillCells_10 ⟨Nat.le_of_ble_eq_true rfl, Nat.le_of_ble_eq_true rfl⟩ (fun r10 w9 H locs hw10 hP hD hS => ?_)
  obtain ⟨rfl⟩ := hw10
  have b_r10 := iB r10
  refine lv_istore_n (lv' := [(3, .int r10), (2, .ref r5), (0, .ref (q 12)), (1, .ref s9)]) hx hb dX4_fillCells_13 rfl hl (by decide) rfl (fun ls hl => ?_)
  refine lv_aload_n hx hb dX4_fillCells_14 rfl (lv_at hl 2 rfl) ?_
  refine va_get (D := D) (ci := 3) (v := .ref (q 17)) (C := RX4) (T := TX4) (N := 13) hx hb hts hinX4 hown hK hP 12 rfl rfl 0 (by decide) k_4_4 (fun _ h9 => h9) rfl dX4_fillCells_15 ?_
  refine lv_aload_n hx hb dX4_fillCells_18 rfl (lv_at hl 1 rfl) ?_
  obtain ⟨k19_, hk19_⟩ := pl_V (X := (twX cs q v_t_tapeSize v_t_textSize v_t_faultKind a_t_tape a_t_text a_g_beyond v_g_size a_g_steps a_h_beyond v_h_size a_h_steps a_r_scratch a_r_now v_r_takes v_r_negative v_r_namePlace v_r_faultKind v_r_faultPlace v_a_size v_a_limit v_a_digits v_a_kind v_a_from v_a_to v_o_size a_o_out v_b_size v_b_limit v_b_digits v_b_kind v_b_from v_b_to a_u_atom a_u_other a_u_hand v_u_marksMade v_u_came v_u_guesses v_u_right v_u_taken a_u_vars a_u_marks a_u_outcomes a_u_indexes v_s_things v_s_looked v_s_lookedTooOften v_s_arraysMade v_s_cellsMade a_s_classes a_s_starts a_s_lengths a_s_cells)) (cI := cs 0) (vc := a_vc) (vd := a_vd) (si := a_si) (sj := a_sj) (iv := a_iv) (inn := a_inn) (ac := a_ac) hw5_0
  refine call_i (As := []) (rest := [.ref (q 17)]) ⟨hx, hb, hml, hown, hts⟩ (tX8_array (l := l) r5 hw5_0 ) (cwV 0 hts (gV (wr39 _ (List.mem_of_getElem? (i := 22) rfl)) (wr38 _ (List.mem_of_getElem? (i := 13) rfl)) (wr38 _ (List.mem_of_getElem? (i := 14) rfl)) (wr4 _ (List.mem_of_getElem? (i := 11) rfl)) (wr38 _ (List.mem_of_getElem? (i := 15) rfl))) rfl rfl rfl (by decide +kernel) ⟨Nat.le_of_ble_eq_true rfl, Nat.le_of_ble_eq_true rfl⟩) (va_recv hK hP (ci := 7) (q0 := k19_) rfl hk19_) hK hP hD hE hS hA rfl hl.1 rfl (Nat.le_of_ble_eq_true rfl) dX4_fillCells_19 ⟨Nat.le_of_ble_eq_true rfl, Nat.le_of_ble_eq_true rfl⟩ (fun r19 w9 H locs hw19 hP hD hS => ?_)
  obtain ⟨rfl⟩ := hw19
  have b_r19 := iB r19
  refine call_i (As := [.int r19]) (rest := []) ⟨hx, hb, hml, hown, hts⟩ (tX7_lengthOf (l := l) r19 (by first | assumption | omega | (intros; omega) | decide)) (cwV 1 hts (gV (wr41 _ (List.mem_of_getElem? (i := 19) rfl)) (wr41 _ (List.mem_of_getElem? (i := 20) rfl)) (wr41 _ (List.mem_of_getElem? (i := 21) rfl)) (wr4 _ (List.mem_of_getElem? (i := 3) rfl)) (wr41 _ (List.mem_of_getElem? (i := 22) rfl))) rfl rfl rfl (by decide +kernel) ⟨Nat.le_of_ble_eq_true rfl, Nat.le_of_ble_eq_true rfl⟩) (va_recv hK hP (ci := 6) (q0 := 17) rfl rfl) hK hP hD hE hS hA rfl hl.1 rfl (Nat.le_of_ble_eq_true rfl) dX4_fillCells_22 ⟨Nat.le_of_ble_eq_true rfl, Nat.le_of_ble_eq_true rfl⟩ (fun r22 w9 H locs hw22 hP hD hS => ?_)
  obtain ⟨rfl, hw22_0, hw22_1, hw22_2⟩ := hw22
  have b_r22 := iB r22
  refine lv_istore (lv' := [(4, .int r22), (3, .int r10), (2, .ref r5), (0, .ref (q 12)), (1, .ref s9)]) hx hb dX4_fillCells_25 hl (by decide) rfl (fun ls hl => ?_)
  refine lv_iload_n hx hb dX4_fillCells_27 rfl (lv_at hl 1 rfl) ?_
  have J54 : ∀ (l3_54 : Int32) (H : Heap) (locs : List Loc) (ls : Array Slot), va_P D vwCl (tw cs q v_t_tapeSize v_t_textSize v_t_faultKind a_t_tape a_t_text a_g_beyond v_g_size a_g_steps a_h_beyond v_h_size a_h_steps a_r_scratch a_r_now v_r_takes v_r_negative v_r_namePlace v_r_faultKind v_r_faultPlace v_a_size v_a_limit v_a_digits v_a_kind v_a_from v_a_to v_o_size a_o_out v_b_size v_b_limit v_b_digits v_b_kind v_b_from v_b_to a_u_atom a_u_other a_u_hand v_u_marksMade v_u_came v_u_guesses v_u_right v_u_taken a_u_vars a_u_marks a_u_outcomes a_u_indexes v_s_things v_s_looked v_s_lookedTooOften v_s_arraysMade v_s_cellsMade a_s_classes a_s_starts a_s_lengths a_s_cells a_L a_K a_vc a_vd a_si a_sj a_iv a_inn a_ac) H → va_D A (tw cs q v_t_tapeSize v_t_textSize v_t_faultKind a_t_tape a_t_text a_g_beyond v_g_size a_g_steps a_h_beyond v_h_size a_h_steps a_r_scratch a_r_now v_r_takes v_r_negative v_r_namePlace v_r_faultKind v_r_faultPlace v_a_size v_a_limit v_a_digits v_a_kind v_a_from v_a_to v_o_size a_o_out v_b_size v_b_limit v_b_digits v_b_kind v_b_from v_b_to a_u_atom a_u_other a_u_hand v_u_marksMade v_u_came v_u_guesses v_u_right v_u_taken a_u_vars a_u_marks a_u_outcomes a_u_indexes v_s_things v_s_looked v_s_lookedTooOften v_s_arraysMade v_s_cellsMade a_s_classes a_s_starts a_s_lengths a_s_cells a_L a_K a_vc a_vd a_si a_sj a_iv a_inn a_ac) → va_S A s.heap H locs → lv_has ls 6 [(0, .ref (q 12)), (2, .ref r5), (3, .int l3_54), (4, .int r22)] → W p l e (headSpec (wG yX4_fillCells cX4_fillCells 6 (some .int)) rmX4_fillCells).room s m ([.ref (q 12), .ref s9] : List Value).toArray below meth c H locs 0 0 Q (F0 m 54 ls []) := by
    intro l3_54 H locs ls hP hD hS hl
    refine lv_iload_n hx hb dX4_fillCells_54 rfl (lv_at hl 2 rfl) ?_
    refine m_if_eq (X := l3_54.toInt) (tgt := 60) hx hb dX4_fillCells_55 (by decide) rfl (fun c55 => ?_) (fun c55 => ?_)
    · skip
      refine lv_iconst (v := 0) hx hb dX4_fillCells_60 (by decide) ?_
      refine lv_istore (lv' := [(5, .int 0), (0, .ref (q 12)), (2, .ref r5), (3, .int l3_54), (4, .int r22)]) hx hb dX4_fillCells_61 hl (by decide) rfl (fun ls hl => ?_)
      have J63 : ∀ (n63 : Nat) (l5_63 : Int32) (a_s_cells_63 : Nat → Int64) (H : Heap) (locs : List Loc) (ls : Array Slot), (0 ≤ l5_63.toInt) → (l5_63.toInt ≤ 4000) → (4000 - l5_63.toInt < (n63 : Int)) → va_P D vwCl (tw cs q v_t_tapeSize v_t_textSize v_t_faultKind a_t_tape a_t_text a_g_beyond v_g_size a_g_steps a_h_beyond v_h_size a_h_steps a_r_scratch a_r_now v_r_takes v_r_negative v_r_namePlace v_r_faultKind v_r_faultPlace v_a_size v_a_limit v_a_digits v_a_kind v_a_from v_a_to v_o_size a_o_out v_b_size v_b_limit v_b_digits v_b_kind v_b_from v_b_to a_u_atom a_u_other a_u_hand v_u_marksMade v_u_came v_u_guesses v_u_right v_u_taken a_u_vars a_u_marks a_u_outcomes a_u_indexes v_s_things v_s_looked v_s_lookedTooOften v_s_arraysMade v_s_cellsMade a_s_classes a_s_starts a_s_lengths a_s_cells_63 a_L a_K a_vc a_vd a_si a_sj a_iv a_inn a_ac) H → va_D A (tw cs q v_t_tapeSize v_t_textSize v_t_faultKind a_t_tape a_t_text a_g_beyond v_g_size a_g_steps a_h_beyond v_h_size a_h_steps a_r_scratch a_r_now v_r_takes v_r_negative v_r_namePlace v_r_faultKind v_r_faultPlace v_a_size v_a_limit v_a_digits v_a_kind v_a_from v_a_to v_o_size a_o_out v_b_size v_b_limit v_b_digits v_b_kind v_b_from v_b_to a_u_atom a_u_other a_u_hand v_u_marksMade v_u_came v_u_guesses v_u_right v_u_taken a_u_vars a_u_marks a_u_outcomes a_u_indexes v_s_things v_s_looked v_s_lookedTooOften v_s_arraysMade v_s_cellsMade a_s_classes a_s_starts a_s_lengths a_s_cells_63 a_L a_K a_vc a_vd a_si a_sj a_iv a_inn a_ac) → va_S A s.heap H locs → lv_has ls 6 [(0, .ref (q 12)), (2, .ref r5), (4, .int r22), (5, .int l5_63)] → W p l e (headSpec (wG yX4_fillCells cX4_fillCells 6 (some .int)) rmX4_fillCells).room s m ([.ref (q 12), .ref s9] : List Value).toArray below meth c H locs 0 0 Q (F0 m 63 ls []) := by
        intro n63
        induction n63 with
        | zero =>
          intro l5_63 a_s_cells_63 H locs ls f63_0 f63_1 hm63
          exfalso
          omega
        | succ n63 ih63 =>
          intro l5_63 a_s_cells_63 H locs ls f63_0 f63_1 hm63 hP hD hS hl
          refine lv_iload hx hb dX4_fillCells_63 (lv_at hl 3 rfl) ?_
          refine lv_iload hx hb dX4_fillCells_65 (lv_at hl 2 rfl) ?_
          refine m_icmp_ge (X := l5_63.toInt) (Y := r22.toInt) (tgt := 83) hx hb dX4_fillCells_67 (by decide) rfl rfl (fun c67 => ?_) (fun c67 => ?_)
          · skip
            refine lv_iconst (v := 0) hx hb dX4_fillCells_83 (by decide) ?_
            subst hAe
            rw [hQ]
            exact W.iret (v := 0) hx hb hr (fun t ht hW => ⟨⟨0, _, rfl, ⟨a_s_cells_63, rfl⟩, by rw [ht]; exact hP, va_K.moved hW.alike hK, hD⟩, hS.F ht⟩) hS.2.2 dX4_fillCells_84
          · skip
            refine lv_aload_n hx hb dX4_fillCells_70 rfl (lv_at hl 0 rfl) ?_
            refine lv_aload_n hx hb dX4_fillCells_71 rfl (lv_at hl 1 rfl) ?_
            refine lv_iload hx hb dX4_fillCells_72 (lv_at hl 3 rfl) ?_
            refine call_v (As := [.ref r5, .int l5_63]) (rest := []) ⟨hx, hb, hml, hown, hts⟩ (tX4_writeAtom (l := l) r5 hw5_0 l5_63 (by first | assumption | omega | (intros; omega) | decide) (by first | assumption | omega | (intros; omega) | decide)) (cwV 2 hts (gV (wr40 _ (List.mem_of_getElem? (i := 18) rfl)) (wr40 _ (List.mem_of_getElem? (i := 19) rfl)) (wr40 _ (List.mem_of_getElem? (i := 20) rfl)) (wr2 _ (List.mem_of_getElem? (i := 10) rfl)) (wr40 _ (List.mem_of_getElem? (i := 21) rfl))) rfl rfl rfl (by decide +kernel) ⟨Nat.le_of_ble_eq_true rfl, Nat.le_of_ble_eq_true rfl⟩) (va_recv hK hP (ci := 3) (q0 := 12) rfl rfl) hK hP hD hE hS hA rfl hl.1 rfl (Nat.le_of_ble_eq_true rfl) dX4_fillCells_74 ⟨Nat.le_of_ble_eq_true rfl, Nat.le_of_ble_eq_true rfl⟩ (fun w9 H locs hw74 hP hD hS => ?_)
            obtain ⟨a_s_cells_74, rfl⟩ := hw74
            obtain ⟨x77, e_x77⟩ : ∃ z : Int32, z = l5_63 + (1 : Int32) := ⟨_, rfl⟩
            obtain ⟨k_x77, g_x77⟩ : ∃ k : Int, x77.toInt = l5_63.toInt + (1) + k * 4294967296 := by rw [e_x77]; exact iAdd l5_63 (1)
            have b_x77 := iB x77
            try (have q_x77 : x77.toInt = l5_63.toInt + (1) := (by omega); clear g_x77 k_x77)
            refine lv_iinc (v := x77) (lv' := [(5, .int x77), (0, .ref (q 12)), (2, .ref r5), (4, .int r22)]) hx hb dX4_fillCells_77 hl (k := 3) rfl (by rw [e_x77]; rfl) (by decide) rfl (fun ls hl => ?_)
            refine lv_goto (tgt := 63) hx hb dX4_fillCells_80 (by decide) ?_
            exact ih63 x77 a_s_cells_74 H locs ls (by first | assumption | omega | (intros; omega) | decide) (by first | assumption | omega | (intros; omega) | decide) (by omega) hP hD hS (lv_sub hl [1, 2, 3, 0] rfl)
      exact J63 ((4000 - (0 : Int32).toInt).toNat + 1) (0 : Int32) a_s_cells H locs ls (by first | assumption | omega | (intros; omega) | decide) (by first | assumption | omega | (intros; omega) | decide) (by omega) hP hD hS (lv_sub hl [1, 2, 4, 0] rfl)
    · skip
      refine lv_iload_n hx hb dX4_fillCells_58 rfl (lv_at hl 2 rfl) ?_
      subst hAe
      rw [hQ]
      exact W.iret (v := l3_54) hx hb hr (fun t ht hW => ⟨⟨l3_54, _, rfl, ⟨a_s_cells, rfl⟩, by rw [ht]; exact hP, va_K.moved hW.alike hK, hD⟩, hS.F ht⟩) hS.2.2 dX4_fillCells_59
  refine m_if_ne (X := r10.toInt) (tgt := 54) hx hb dX4_fillCells_28 (by decide) rfl (fun c28 => ?_) (fun c28 => ?_)
  · skip
    exact J54 r10 H locs ls hP hD hS (lv_sub hl [3, 2, 1, 0] rfl)
  · skip
    refine lv_iload hx hb dX4_fillCells_31 (lv_at hl 0 rfl) ?_
    refine m_if_le (X := r22.toInt) (tgt := 54) hx hb dX4_fillCells_33 (by decide) rfl (fun c33 => ?_) (fun c33 => ?_)
    · skip
      exact J54 r10 H locs ls hP hD hS (lv_sub hl [3, 2, 1, 0] rfl)
    · skip
      refine lv_aload_n hx hb dX4_fillCells_36 rfl (lv_at hl 2 rfl) ?_
      obtain ⟨k37_, hk37_⟩ := pl_V (X := (twX cs q v_t_tapeSize v_t_textSize v_t_faultKind a_t_tape a_t_text a_g_beyond v_g_size a_g_steps a_h_beyond v_h_size a_h_steps a_r_scratch a_r_now v_r_takes v_r_negative v_r_namePlace v_r_faultKind v_r_faultPlace v_a_size v_a_limit v_a_digits v_a_kind v_a_from v_a_to v_o_size a_o_out v_b_size v_b_limit v_b_digits v_b_kind v_b_from v_b_to a_u_atom a_u_other a_u_hand v_u_marksMade v_u_came v_u_guesses v_u_right v_u_taken a_u_vars a_u_marks a_u_outcomes a_u_indexes v_s_things v_s_looked v_s_lookedTooOften v_s_arraysMade v_s_cellsMade a_s_classes a_s_starts a_s_lengths a_s_cells)) (cI := cs 0) (vc := a_vc) (vd := a_vd) (si := a_si) (sj := a_sj) (iv := a_iv) (inn := a_inn) (ac := a_ac) hw5_0
      refine va_get (D := D) (ci := 7) (v := .int (a_vc r5)) (C := RX8) (T := TX8) (N := 2) hx hb hts hinX8 hown hK hP k37_ hk37_ rfl 0 (by decide) k_36_5 (fun _ h9 => h9) rfl dX4_fillCells_37 ?_
      refine lv_topi (fun x37 e_x37 => ?_)
      have b_x37 := iB x37
      refine call_iSP (As := [.int x37]) (rest := []) ⟨hx, hb, hml, hown, hts⟩ (tX0_elementsOf (l := l) x37) (va_cwS 1 hts (gS (wr39 _ (List.mem_of_getElem? (i := 13) rfl)) (wr39 _ (List.mem_of_getElem? (i := 14) rfl)) (wr19 _ (List.mem_of_getElem? (i := 5) rfl)) (wr39 _ (List.mem_of_getElem? (i := 15) rfl))) rfl rfl rfl (by decide +kernel) ⟨Nat.le_of_ble_eq_true rfl, Nat.le_of_ble_eq_true rfl⟩) (hK.sub [] rfl) hP hD hE hS hA rfl hl.1 rfl (Nat.le_of_ble_eq_true rfl) dX4_fillCells_40 ⟨Nat.le_of_ble_eq_true rfl, Nat.le_of_ble_eq_true rfl⟩ (fun r40 w9 H locs hw40 hP hD hS => ?_)
      obtain ⟨rfl, hw40_0⟩ := hw40
      have b_r40 := iB r40
      refine lv_aload_n hx hb dX4_fillCells_43 rfl (lv_at hl 3 rfl) ?_
      have hf44 : aV a_L a_K a_u_atom := by first | assumption | exact RF.z_uA (by assumption)
      refine va_get (D := D) (ci := 3) (v := .ref a_u_atom) (C := RX4) (T := TX4) (N := 13) hx hb hts hinX4 hown hK hP 12 rfl rfl 5 (by decide) k_4_12 (fun _ h9 => h9) rfl dX4_fillCells_44 ?_
      obtain ⟨k47_, hk47_⟩ := pl_V (X := (twX cs q v_t_tapeSize v_t_textSize v_t_faultKind a_t_tape a_t_text a_g_beyond v_g_size a_g_steps a_h_beyond v_h_size a_h_steps a_r_scratch a_r_now v_r_takes v_r_negative v_r_namePlace v_r_faultKind v_r_faultPlace v_a_size v_a_limit v_a_digits v_a_kind v_a_from v_a_to v_o_size a_o_out v_b_size v_b_limit v_b_digits v_b_kind v_b_from v_b_to a_u_atom a_u_other a_u_hand v_u_marksMade v_u_came v_u_guesses v_u_right v_u_taken a_u_vars a_u_marks a_u_outcomes a_u_indexes v_s_things v_s_looked v_s_lookedTooOften v_s_arraysMade v_s_cellsMade a_s_classes a_s_starts a_s_lengths a_s_cells)) (cI := cs 0) (vc := a_vc) (vd := a_vd) (si := a_si) (sj := a_sj) (iv := a_iv) (inn := a_inn) (ac := a_ac) hf44
      refine va_get (D := D) (ci := 7) (v := .int (a_vc a_u_atom)) (C := RX8) (T := TX8) (N := 2) hx hb hts hinX8 hown hK hP k47_ hk47_ rfl 0 (by decide) k_36_5 (fun _ h9 => h9) rfl dX4_fillCells_47 ?_
      refine lv_topi (fun x47 e_x47 => ?_)
      have b_x47 := iB x47
      refine call_iSP (As := [.int r40, .int x47]) (rest := []) ⟨hx, hb, hml, hown, hts⟩ (tX0_writeRefusal (l := l) r40 x47) (va_cwS 2 hts (gS (wr40 _ (List.mem_of_getElem? (i := 0) rfl)) (wr40 _ (List.mem_of_getElem? (i := 1) rfl)) (wr19 _ (List.mem_of_getElem? (i := 5) rfl)) (wr40 _ (List.mem_of_getElem? (i := 2) rfl))) rfl rfl rfl (by decide +kernel) ⟨Nat.le_of_ble_eq_true rfl, Nat.le_of_ble_eq_true rfl⟩) (hK.sub [] rfl) hP hD hE hS hA rfl hl.1 rfl (Nat.le_of_ble_eq_true rfl) dX4_fillCells_50 ⟨Nat.le_of_ble_eq_true rfl, Nat.le_of_ble_eq_true rfl⟩ (fun r50 w9 H locs hw50 hP hD hS => ?_)
      obtain ⟨rfl, hw50_0⟩ := hw50
      have b_r50 := iB r50
      refine lv_istore_n (lv' := [(3, .int r50), (4, .int r22), (2, .ref r5), (0, .ref (q 12)), (1, .ref s9)]) hx hb dX4_fillCells_53 rfl hl (by decide) rfl (fun ls hl => ?_)
      exact J54 r50 H locs ls hP hD hS (lv_sub hl [3, 2, 0, 1] rfl)

def rmX4_swapCells : Room := { frames := 80, cells := 0, slots := 0, locals := 1600 }
set_option maxHeartbeats 4000000 in
set_option maxRecDepth 100000 in
theorem tX4_swapCells {l : Launch} {D : va_G} {K : Nat → Nat → Nat} {cs : Nat → ClassId} {q : Nat → Nat} {v_t_tapeSize v_t_textSize v_t_faultKind v_g_size v_h_size v_r_takes v_r_negative v_r_namePlace v_r_faultKind v_r_faultPlace v_a_size v_a_limit v_a_digits v_a_kind v_a_from v_a_to v_o_size v_b_size v_b_limit v_b_digits v_b_kind v_b_from v_b_to v_u_marksMade v_u_came v_u_guesses v_u_right v_u_taken v_s_things v_s_looked v_s_lookedTooOften v_s_arraysMade v_s_cellsMade : Int32} {a_t_tape a_t_text a_o_out a_u_outcomes a_u_indexes a_s_classes a_s_starts a_s_lengths a_vc : Nat → Int32} {a_g_beyond a_h_beyond a_r_scratch a_r_now a_u_atom a_u_other a_u_hand : Nat} {a_g_steps a_h_steps a_u_vars a_u_marks : Nat → Option Nat} {a_s_cells a_vd a_sj : Nat → Int64} {a_L : List Nat} {a_K a_iv a_inn : Nat → Nat} {a_si a_ac : Nat → Nat → Int32} (s9 : Nat) (h_s9 : aS a_L a_K s9) (p_0 : RF a_L a_K a_g_beyond a_h_beyond a_r_scratch a_g_steps a_h_steps a_u_atom a_u_other a_u_hand a_u_vars a_u_marks) (p_1 : STO v_s_things v_s_cellsMade a_s_starts a_s_lengths) (p_2 : PI a_L a_K a_si a_iv a_inn) : CtI l yX4_swapCells (wG yX4_swapCells cX4_swapCells 4 (some .int)) rmX4_swapCells D (twT cs) K [.ref (q 12), .ref s9] (tw cs q v_t_tapeSize v_t_textSize v_t_faultKind a_t_tape a_t_text a_g_beyond v_g_size a_g_steps a_h_beyond v_h_size a_h_steps a_r_scratch a_r_now v_r_takes v_r_negative v_r_namePlace v_r_faultKind v_r_faultPlace v_a_size v_a_limit v_a_digits v_a_kind v_a_from v_a_to v_o_size a_o_out v_b_size v_b_limit v_b_digits v_b_kind v_b_from v_b_to a_u_atom a_u_other a_u_hand v_u_marksMade v_u_came v_u_guesses v_u_right v_u_taken a_u_vars a_u_marks a_u_outcomes a_u_indexes v_s_things v_s_looked v_s_lookedTooOften v_s_arraysMade v_s_cellsMade a_s_classes a_s_starts a_s_lengths a_s_cells a_L a_K a_vc a_vd a_si a_sj a_iv a_inn a_ac) (fun r w1 => ∃ (a_s_cells' : Nat → Int64), w1 = (tw cs q v_t_tapeSize v_t_textSize v_t_faultKind a_t_tape a_t_text a_g_beyond v_g_size a_g_steps a_h_beyond v_h_size a_h_steps a_r_scratch a_r_now v_r_takes v_r_negative v_r_namePlace v_r_faultKind v_r_faultPlace v_a_size v_a_limit v_a_digits v_a_kind v_a_from v_a_to v_o_size a_o_out v_b_size v_b_limit v_b_digits v_b_kind v_b_from v_b_to a_u_atom a_u_other a_u_hand v_u_marksMade v_u_came v_u_guesses v_u_right v_u_taken a_u_vars a_u_marks a_u_outcomes a_u_indexes v_s_things v_s_looked v_s_lookedTooOften v_s_arraysMade v_s_cellsMade a_s_classes a_s_starts a_s_lengths a_s_cells' a_L a_K a_vc a_vd a_si a_sj a_iv a_inn a_ac)) 0 0 := by
  intro sz
  refine Met.ofW (cc := cX4_swapCells) (maxL := 4) (ret := (some .int)) (by decide) rfl ?_
  intro p e s m args below meth c s₁ B hml hv
  obtain ⟨rfl, hsz, hP, hK, hD0, hE⟩ := hv
  have hx := B.exec
  have hb := B.bytes
  have hr := B.returns
  have hts := atoms_spec (ws := (wG yX4_swapCells cX4_swapCells 4 (some .int))) B.pre
  have hown : s.vm.findClass RX4 = some m.cls := findClass_of_methodNamed B.named
  have hlocks := B.notSynchronized
  subst hsz
  have hD := hD0.self (sz := s.heap.size)
  obtain ⟨A, hAe⟩ : ∃ A : Nat → Prop, A = va_A (tw cs q v_t_tapeSize v_t_textSize v_t_faultKind a_t_tape a_t_text a_g_beyond v_g_size a_g_steps a_h_beyond v_h_size a_h_steps a_r_scratch a_r_now v_r_takes v_r_negative v_r_namePlace v_r_faultKind v_r_faultPlace v_a_size v_a_limit v_a_digits v_a_kind v_a_from v_a_to v_o_size a_o_out v_b_size v_b_limit v_b_digits v_b_kind v_b_from v_b_to a_u_atom a_u_other a_u_hand v_u_marksMade v_u_came v_u_guesses v_u_right v_u_taken a_u_vars a_u_marks a_u_outcomes a_u_indexes v_s_things v_s_looked v_s_lookedTooOften v_s_arraysMade v_s_cellsMade a_s_classes a_s_starts a_s_lengths a_s_cells a_L a_K a_vc a_vd a_si a_sj a_iv a_inn a_ac) s.heap.size := ⟨_, rfl⟩
  rw [← hAe] at hD hE
  have hA : ∀ q : Nat, s.heap.size ≤ q → A q := fun q h => by rw [hAe]; exact Or.inr h
  have hS : va_S A s.heap s.heap [] := va_S.rf
  have hl := lv_entry ([.ref (q 12), .ref s9]) (n := 4) (Nat.le_of_ble_eq_true rfl)
  rw [lg_entry_eq]
  generalize (lg_sl ([.ref (q 12), .ref s9]) ++ List.replicate (4 - (lg_sl ([.ref (q 12), .ref s9])).length) Slot.unset).toArray = ls at hl ⊢
  have hl : lv_has ls 4 [(0, .ref (q 12)), (1, .ref s9)] := hl
  refine wq (fun Q hQ => ?_)
  have hinX4 : ∀ w ∈ wsX40, w ∈ (wG yX4_swapCells cX4_swapCells 4 (some .int)) := fun w h => List.mem_cons_of_mem _ (inlX4 w h)
  have hinX6 : ∀ w ∈ wsX60, w ∈ (wG yX4_swapCells cX4_swapCells 4 (some .int)) := fun w h => List.mem_cons_of_mem _ (inlX6 w h)
  have kc0 : (0 : Int32).toInt = 0 := by decide
  have kc1 : (1 : Int32).toInt = 1 := by decide
  have kc2 : (2 : Int32).toInt = 2 := by decide
  have k_38_0 := hts (.fieldLink RX4 266 "ArrayTrainer$Step" "first" "I") (List.mem_cons_of_mem _ (wr38 _ (List.mem_of_getElem? (i := 0) rfl)))
  have k_4_4 := hts (.fieldLink RX4 12 "ArrayTrainer$Runner" "store" "LArrayTrainer$Store;") (List.mem_cons_of_mem _ (wr4 _ (List.mem_of_getElem? (i := 4) rfl)))
  have k_4_9 := hts (.fieldLink RX4 33 "ArrayTrainer$Runner" "indexes" "[I") (List.mem_cons_of_mem _ (wr4 _ (List.mem_of_getElem? (i := 9) rfl)))
  obtain ⟨H, hH⟩ : ∃ H : Heap, H = s.heap := ⟨_, rfl⟩
  obtain ⟨locs, hlc⟩ : ∃ L : List Loc, L = [] := ⟨_, rfl⟩
  have hP : va_P D vwCl (tw cs q v_t_tapeSize v_t_textSize v_t_faultKind a_t_tape a_t_text a_g_beyond v_g_size a_g_steps a_h_beyond v_h_size a_h_steps a_r_scratch a_r_now v_r_takes v_r_negative v_r_namePlace v_r_faultKind v_r_faultPlace v_a_size v_a_limit v_a_digits v_a_kind v_a_from v_a_to v_o_size a_o_out v_b_size v_b_limit v_b_digits v_b_kind v_b_from v_b_to a_u_atom a_u_other a_u_hand v_u_marksMade v_u_came v_u_guesses v_u_right v_u_taken a_u_vars a_u_marks a_u_outcomes a_u_indexes v_s_things v_s_looked v_s_lookedTooOften v_s_arraysMade v_s_cellsMade a_s_classes a_s_starts a_s_lengths a_s_cells a_L a_K a_vc a_vd a_si a_sj a_iv a_inn a_ac) H := by rw [hH]; exact hP
  have hS : va_S A s.heap H locs := by rw [hH, hlc]; exact hS
  refine wHL hH hlc ?_
  refine lv_aload_n hx hb dX4_swapCells_0 rfl (lv_at hl 0 rfl) ?_
  refine lv_aload_n hx hb dX4_swapCells_1 rfl (lv_at hl 1 rfl) ?_
  obtain ⟨k2_, hk2_⟩ := pl_S (X := (twX cs q v_t_tapeSize v_t_textSize v_t_faultKind a_t_tape a_t_text a_g_beyond v_g_size a_g_steps a_h_beyond v_h_size a_h_steps a_r_scratch a_r_now v_r_takes v_r_negative v_r_namePlace v_r_faultKind v_r_faultPlace v_a_size v_a_limit v_a_digits v_a_kind v_a_from v_a_to v_o_size a_o_out v_b_size v_b_limit v_b_digits v_b_kind v_b_from v_b_to a_u_atom a_u_other a_u_hand v_u_marksMade v_u_came v_u_guesses v_u_right v_u_taken a_u_vars a_u_marks a_u_outcomes a_u_indexes v_s_things v_s_looked v_s_lookedTooOften v_s_arraysMade v_s_cellsMade a_s_classes a_s_starts a_s_lengths a_s_cells)) (cI := cs 0) (vc := a_vc) (vd := a_vd) (si := a_si) (sj := a_sj) (iv := a_iv) (inn := a_inn) (ac := a_ac) h_s9
  refine va_get (D := D) (ci := 5) (v := .int (a_si s9 5)) (C := RX6) (T := TX6) (N := 15) hx hb hts hinX6 hown hK hP k2_ hk2_ rfl 5 (by decide) k_38_0 (fun _ h9 => h9) rfl dX4_swapCells_2 ?_
  refine lv_topi (fun x2 e_x2 => ?_)
  have b_x2 := iB x2
  refine call_r (As := [.int x2]) (rest := []) ⟨hx, hb, hml, hown, hts⟩ (tX4_variable (l := l) x2 (by first | assumption | omega | (intros; omega) | decide)) (cwV 1 hts (gV (wr21 _ (List.mem_of_getElem? (i := 22) rfl)) (wr21 _ (List.mem_of_getElem? (i := 23) rfl)) (wr22 _ (List.mem_of_getElem? (i := 0) rfl)) (wr2 _ (List.mem_of_getElem? (i := 10) rfl)) (wr22 _ (List.mem_of_getElem? (i := 1) rfl))) rfl rfl rfl (by decide +kernel) ⟨Nat.le_of_ble_eq_true rfl, Nat.le_of_ble_eq_true rfl⟩) (va_recv hK hP (ci := 3) (q0 := 12) rfl rfl) hK hP hD hE hS hA rfl hl.1 rfl (Nat.le_of_ble_eq_true rfl) dX4_swapCells_5 ⟨Nat.le_of_ble_eq_true rfl, Nat.le_of_ble_eq_true rfl⟩ (fun r5 w9 H locs hw5 hP hD hS => ?_)
  obtain ⟨rfl, hw5_0⟩ := hw5
  refine lv_astore_n (lv' := [(2, .ref r5), (0, .ref (q 12)), (1, .ref s9)]) hx hb dX4_swapCells_8 rfl hl (by decide) rfl (fun ls hl => ?_)
  refine lv_aload_n hx hb dX4_swapCells_9 rfl (lv_at hl 0 rfl) ?_
  refine call_iS (As := [.ref r5]) (rest := []) ⟨hx, hb, hml, hown, hts⟩ (tX4_needArray (l := l) r5 hw5_0) (va_cwS 1 hts (gS (wr38 _ (List.mem_of_getElem? (i := 1) rfl)) (wr38 _ (List.mem_of_getElem? (i := 2) rfl)) (wr2 _ (List.mem_of_getElem? (i := 10) rfl)) (wr38 _ (List.mem_of_getElem? (i := 3) rfl))) rfl rfl rfl (by decide +kernel) ⟨Nat.le_of_ble_eq_true rfl, Nat.le_of_ble_eq_true rfl⟩) hK hP hD hE hS hA rfl hl.1 rfl (Nat.le_of_ble_eq_true rfl) dX4_swapCells_10 ⟨Nat.le_of_ble_eq_true rfl, Nat.le_of_ble_eq_true rfl⟩ (fun r10 w9 H locs hw10 hP hD hS => ?_)
  obtain ⟨rfl⟩ := hw10
  have b_r10 := iB r10
  refine lv_istore_n (lv' := [(3, .int r10), (2, .ref r5), (0, .ref (q 12)), (1, .ref s9)]) hx hb dX4_swapCells_13 rfl hl (by decide) rfl (fun ls hl => ?_)
  refine lv_iload_n hx hb dX4_swapCells_14 rfl (lv_at hl 0 rfl) ?_
  refine m_if_eq (X := r10.toInt) (tgt := 20) hx hb dX4_swapCells_15 (by decide) rfl (fun c15 => ?_) (fun c15 => ?_)
  · skip
    refine lv_aload_n hx hb dX4_swapCells_20 rfl (lv_at hl 2 rfl) ?_
    refine va_get (D := D) (ci := 3) (v := .ref (q 17)) (C := RX4) (T := TX4) (N := 13) hx hb hts hinX4 hown hK hP 12 rfl rfl 0 (by decide) k_4_4 (fun _ h9 => h9) rfl dX4_swapCells_21 ?_
    refine lv_aload_n hx hb dX4_swapCells_24 rfl (lv_at hl 1 rfl) ?_
    obtain ⟨k25_, hk25_⟩ := pl_V (X := (twX cs q v_t_tapeSize v_t_textSize v_t_faultKind a_t_tape a_t_text a_g_beyond v_g_size a_g_steps a_h_beyond v_h_size a_h_steps a_r_scratch a_r_now v_r_takes v_r_negative v_r_namePlace v_r_faultKind v_r_faultPlace v_a_size v_a_limit v_a_digits v_a_kind v_a_from v_a_to v_o_size a_o_out v_b_size v_b_limit v_b_digits v_b_kind v_b_from v_b_to a_u_atom a_u_other a_u_hand v_u_marksMade v_u_came v_u_guesses v_u_right v_u_taken a_u_vars a_u_marks a_u_outcomes a_u_indexes v_s_things v_s_looked v_s_lookedTooOften v_s_arraysMade v_s_cellsMade a_s_classes a_s_starts a_s_lengths a_s_cells)) (cI := cs 0) (vc := a_vc) (vd := a_vd) (si := a_si) (sj := a_sj) (iv := a_iv) (inn := a_inn) (ac := a_ac) hw5_0
    refine call_i (As := []) (rest := [.ref (q 17)]) ⟨hx, hb, hml, hown, hts⟩ (tX8_array (l := l) r5 hw5_0 ) (cwV 0 hts (gV (wr39 _ (List.mem_of_getElem? (i := 22) rfl)) (wr38 _ (List.mem_of_getElem? (i := 13) rfl)) (wr38 _ (List.mem_of_getElem? (i := 14) rfl)) (wr4 _ (List.mem_of_getElem? (i := 11) rfl)) (wr38 _ (List.mem_of_getElem? (i := 15) rfl))) rfl rfl rfl (by decide +kernel) ⟨Nat.le_of_ble_eq_true rfl, Nat.le_of_ble_eq_true rfl⟩) (va_recv hK hP (ci := 7) (q0 := k25_) rfl hk25_) hK hP hD hE hS hA rfl hl.1 rfl (Nat.le_of_ble_eq_true rfl) dX4_swapCells_25 ⟨Nat.le_of_ble_eq_true rfl, Nat.le_of_ble_eq_true rfl⟩ (fun r25 w9 H locs hw25 hP hD hS => ?_)
    obtain ⟨rfl⟩ := hw25
    have b_r25 := iB r25
    refine lv_aload_n hx hb dX4_swapCells_28 rfl (lv_at hl 2 rfl) ?_
    refine va_get (D := D) (ci := 3) (v := .ref (q 16)) (C := RX4) (T := TX4) (N := 13) hx hb hts hinX4 hown hK hP 12 rfl rfl 4 (by decide) k_4_9 (fun _ h9 => h9) rfl dX4_swapCells_29 ?_
    refine lv_iconst (v := 0) hx hb dX4_swapCells_32 (by decide) ?_
    refine m_iald hx hb hK hP 16 0 rfl rfl (ix (by decide) (by decide)) dX4_swapCells_33 (fun x33 e_x33 => ?_)
    have b_x33 := iB x33
    refine call_i (As := [.int r25, .int x33]) (rest := []) ⟨hx, hb, hml, hown, hts⟩ (tX7_hasCell (l := l) r25 x33 (by first | assumption | omega | (intros; omega) | decide)) (cwV 2 hts (gV (wr39 _ (List.mem_of_getElem? (i := 23) rfl)) (wr38 _ (List.mem_of_getElem? (i := 17) rfl)) (wr38 _ (List.mem_of_getElem? (i := 18) rfl)) (wr4 _ (List.mem_of_getElem? (i := 3) rfl)) (wr38 _ (List.mem_of_getElem? (i := 19) rfl))) rfl rfl rfl (by decide +kernel) ⟨Nat.le_of_ble_eq_true rfl, Nat.le_of_ble_eq_true rfl⟩) (va_recv hK hP (ci := 6) (q0 := 17) rfl rfl) hK hP hD hE hS hA rfl hl.1 rfl (Nat.le_of_ble_eq_true rfl) dX4_swapCells_34 ⟨Nat.le_of_ble_eq_true rfl, Nat.le_of_ble_eq_true rfl⟩ (fun r34 w9 H locs hw34 hP hD hS => ?_)
    obtain ⟨rfl, hw34_0⟩ := hw34
    have b_r34 := iB r34
    refine m_if_eq (X := r34.toInt) (tgt := 60) hx hb dX4_swapCells_37 (by decide) rfl (fun c37 => ?_) (fun c37 => ?_)
    · skip
      refine lv_iconst (v := 2) hx hb dX4_swapCells_60 (by decide) ?_
      subst hAe
      rw [hQ]
      exact W.iret (v := 2) hx hb hr (fun t ht hW => ⟨⟨2, _, rfl, ⟨a_s_cells, rfl⟩, by rw [ht]; exact hP, va_K.moved hW.alike hK, hD⟩, hS.F ht⟩) hS.2.2 dX4_swapCells_61
    · skip
      refine lv_aload_n hx hb dX4_swapCells_40 rfl (lv_at hl 2 rfl) ?_
      refine va_get (D := D) (ci := 3) (v := .ref (q 17)) (C := RX4) (T := TX4) (N := 13) hx hb hts hinX4 hown hK hP 12 rfl rfl 0 (by decide) k_4_4 (fun _ h9 => h9) rfl dX4_swapCells_41 ?_
      refine lv_aload_n hx hb dX4_swapCells_44 rfl (lv_at hl 1 rfl) ?_
      obtain ⟨k45_, hk45_⟩ := pl_V (X := (twX cs q v_t_tapeSize v_t_textSize v_t_faultKind a_t_tape a_t_text a_g_beyond v_g_size a_g_steps a_h_beyond v_h_size a_h_steps a_r_scratch a_r_now v_r_takes v_r_negative v_r_namePlace v_r_faultKind v_r_faultPlace v_a_size v_a_limit v_a_digits v_a_kind v_a_from v_a_to v_o_size a_o_out v_b_size v_b_limit v_b_digits v_b_kind v_b_from v_b_to a_u_atom a_u_other a_u_hand v_u_marksMade v_u_came v_u_guesses v_u_right v_u_taken a_u_vars a_u_marks a_u_outcomes a_u_indexes v_s_things v_s_looked v_s_lookedTooOften v_s_arraysMade v_s_cellsMade a_s_classes a_s_starts a_s_lengths a_s_cells)) (cI := cs 0) (vc := a_vc) (vd := a_vd) (si := a_si) (sj := a_sj) (iv := a_iv) (inn := a_inn) (ac := a_ac) hw5_0
      refine call_i (As := []) (rest := [.ref (q 17)]) ⟨hx, hb, hml, hown, hts⟩ (tX8_array (l := l) r5 hw5_0 ) (cwV 0 hts (gV (wr39 _ (List.mem_of_getElem? (i := 22) rfl)) (wr38 _ (List.mem_of_getElem? (i := 13) rfl)) (wr38 _ (List.mem_of_getElem? (i := 14) rfl)) (wr4 _ (List.mem_of_getElem? (i := 11) rfl)) (wr38 _ (List.mem_of_getElem? (i := 15) rfl))) rfl rfl rfl (by decide +kernel) ⟨Nat.le_of_ble_eq_true rfl, Nat.le_of_ble_eq_true rfl⟩) (va_recv hK hP (ci := 7) (q0 := k45_) rfl hk45_) hK hP hD hE hS hA rfl hl.1 rfl (Nat.le_of_ble_eq_true rfl) dX4_swapCells_45 ⟨Nat.le_of_ble_eq_true rfl, Nat.le_of_ble_eq_true rfl⟩ (fun r45 w9 H locs hw45 hP hD hS => ?_)
      obtain ⟨rfl⟩ := hw45
      have b_r45 := iB r45
      refine lv_aload_n hx hb dX4_swapCells_48 rfl (lv_at hl 2 rfl) ?_
      refine va_get (D := D) (ci := 3) (v := .ref (q 16)) (C := RX4) (T := TX4) (N := 13) hx hb hts hinX4 hown hK hP 12 rfl rfl 4 (by decide) k_4_9 (fun _ h9 => h9) rfl dX4_swapCells_49 ?_
      refine lv_iconst (v := 1) hx hb dX4_swapCells_52 (by decide) ?_
      refine m_iald hx hb hK hP 16 0 rfl rfl (ix (by decide) (by decide)) dX4_swapCells_53 (fun x53 e_x53 => ?_)
      have b_x53 := iB x53
      refine call_i (As := [.int r45, .int x53]) (rest := []) ⟨hx, hb, hml, hown, hts⟩ (tX7_hasCell (l := l) r45 x53 (by first | assumption | omega | (intros; omega) | decide)) (cwV 2 hts (gV (wr39 _ (List.mem_of_getElem? (i := 23) rfl)) (wr38 _ (List.mem_of_getElem? (i := 17) rfl)) (wr38 _ (List.mem_of_getElem? (i := 18) rfl)) (wr4 _ (List.mem_of_getElem? (i := 3) rfl)) (wr38 _ (List.mem_of_getElem? (i := 19) rfl))) rfl rfl rfl (by decide +kernel) ⟨Nat.le_of_ble_eq_true rfl, Nat.le_of_ble_eq_true rfl⟩) (va_recv hK hP (ci := 6) (q0 := 17) rfl rfl) hK hP hD hE hS hA rfl hl.1 rfl (Nat.le_of_ble_eq_true rfl) dX4_swapCells_54 ⟨Nat.le_of_ble_eq_true rfl, Nat.le_of_ble_eq_true rfl⟩ (fun r54 w9 H locs hw54 hP hD hS => ?_)
      obtain ⟨rfl, hw54_0⟩ := hw54
      have b_r54 := iB r54
      refine m_if_ne (X := r54.toInt) (tgt := 62) hx hb dX4_swapCells_57 (by decide) rfl (fun c57 => ?_) (fun c57 => ?_)
      · skip
        refine lv_aload_n hx hb dX4_swapCells_62 rfl (lv_at hl 2 rfl) ?_
        refine va_get (D := D) (ci := 3) (v := .ref (q 17)) (C := RX4) (T := TX4) (N := 13) hx hb hts hinX4 hown hK hP 12 rfl rfl 0 (by decide) k_4_4 (fun _ h9 => h9) rfl dX4_swapCells_63 ?_
        refine lv_aload_n hx hb dX4_swapCells_66 rfl (lv_at hl 1 rfl) ?_
        obtain ⟨k67_, hk67_⟩ := pl_V (X := (twX cs q v_t_tapeSize v_t_textSize v_t_faultKind a_t_tape a_t_text a_g_beyond v_g_size a_g_steps a_h_beyond v_h_size a_h_steps a_r_scratch a_r_now v_r_takes v_r_negative v_r_namePlace v_r_faultKind v_r_faultPlace v_a_size v_a_limit v_a_digits v_a_kind v_a_from v_a_to v_o_size a_o_out v_b_size v_b_limit v_b_digits v_b_kind v_b_from v_b_to a_u_atom a_u_other a_u_hand v_u_marksMade v_u_came v_u_guesses v_u_right v_u_taken a_u_vars a_u_marks a_u_outcomes a_u_indexes v_s_things v_s_looked v_s_lookedTooOften v_s_arraysMade v_s_cellsMade a_s_classes a_s_starts a_s_lengths a_s_cells)) (cI := cs 0) (vc := a_vc) (vd := a_vd) (si := a_si) (sj := a_sj) (iv := a_iv) (inn := a_inn) (ac := a_ac) hw5_0
        refine call_i (As := []) (rest := [.ref (q 17)]) ⟨hx, hb, hml, hown, hts⟩ (tX8_array (l := l) r5 hw5_0 ) (cwV 0 hts (gV (wr39 _ (List.mem_of_getElem? (i := 22) rfl)) (wr38 _ (List.mem_of_getElem? (i := 13) rfl)) (wr38 _ (List.mem_of_getElem? (i := 14) rfl)) (wr4 _ (List.mem_of_getElem? (i := 11) rfl)) (wr38 _ (List.mem_of_getElem? (i := 15) rfl))) rfl rfl rfl (by decide +kernel) ⟨Nat.le_of_ble_eq_true rfl, Nat.le_of_ble_eq_true rfl⟩) (va_recv hK hP (ci := 7) (q0 := k67_) rfl hk67_) hK hP hD hE hS hA rfl hl.1 rfl (Nat.le_of_ble_eq_true rfl) dX4_swapCells_67 ⟨Nat.le_of_ble_eq_true rfl, Nat.le_of_ble_eq_true rfl⟩ (fun r67 w9 H locs hw67 hP hD hS => ?_)
        obtain ⟨rfl⟩ := hw67
        have b_r67 := iB r67
        refine lv_aload_n hx hb dX4_swapCells_70 rfl (lv_at hl 2 rfl) ?_
        refine va_get (D := D) (ci := 3) (v := .ref (q 16)) (C := RX4) (T := TX4) (N := 13) hx hb hts hinX4 hown hK hP 12 rfl rfl 4 (by decide) k_4_9 (fun _ h9 => h9) rfl dX4_swapCells_71 ?_
        refine lv_iconst (v := 0) hx hb dX4_swapCells_74 (by decide) ?_
        refine m_iald hx hb hK hP 16 0 rfl rfl (ix (by decide) (by decide)) dX4_swapCells_75 (fun x75 e_x75 => ?_)
        have b_x75 := iB x75
        refine lv_aload_n hx hb dX4_swapCells_76 rfl (lv_at hl 2 rfl) ?_
        refine va_get (D := D) (ci := 3) (v := .ref (q 16)) (C := RX4) (T := TX4) (N := 13) hx hb hts hinX4 hown hK hP 12 rfl rfl 4 (by decide) k_4_9 (fun _ h9 => h9) rfl dX4_swapCells_77 ?_
        refine lv_iconst (v := 1) hx hb dX4_swapCells_80 (by decide) ?_
        refine m_iald hx hb hK hP 16 0 rfl rfl (ix (by decide) (by decide)) dX4_swapCells_81 (fun x81 e_x81 => ?_)
        have b_x81 := iB x81
        refine call_v (As := [.int r67, .int x75, .int x81]) (rest := []) ⟨hx, hb, hml, hown, hts⟩ (tX7_swap (l := l) r67 x75 x81 (by first | assumption | omega | (intros; omega) | decide)) (cwV 3 hts (gV (wr46 _ (List.mem_of_getElem? (i := 0) rfl)) (wr46 _ (List.mem_of_getElem? (i := 1) rfl)) (wr46 _ (List.mem_of_getElem? (i := 2) rfl)) (wr4 _ (List.mem_of_getElem? (i := 3) rfl)) (wr46 _ (List.mem_of_getElem? (i := 3) rfl))) rfl rfl rfl (by decide +kernel) ⟨Nat.le_of_ble_eq_true rfl, Nat.le_of_ble_eq_true rfl⟩) (va_recv hK hP (ci := 6) (q0 := 17) rfl rfl) hK hP hD hE hS hA rfl hl.1 rfl (Nat.le_of_ble_eq_true rfl) dX4_swapCells_82 ⟨Nat.le_of_ble_eq_true rfl, Nat.le_of_ble_eq_true rfl⟩ (fun w9 H locs hw82 hP hD hS => ?_)
        obtain ⟨a_s_cells_82, rfl⟩ := hw82
        refine lv_iconst (v := 0) hx hb dX4_swapCells_85 (by decide) ?_
        subst hAe
        rw [hQ]
        exact W.iret (v := 0) hx hb hr (fun t ht hW => ⟨⟨0, _, rfl, ⟨a_s_cells_82, rfl⟩, by rw [ht]; exact hP, va_K.moved hW.alike hK, hD⟩, hS.F ht⟩) hS.2.2 dX4_swapCells_86
      · skip
        refine lv_iconst (v := 2) hx hb dX4_swapCells_60 (by decide) ?_
        subst hAe
        rw [hQ]
        exact W.iret (v := 2) hx hb hr (fun t ht hW => ⟨⟨2, _, rfl, ⟨a_s_cells, rfl⟩, by rw [ht]; exact hP, va_K.moved hW.alike hK, hD⟩, hS.F ht⟩) hS.2.2 dX4_swapCells_61
  · skip
    refine lv_iload_n hx hb dX4_swapCells_18 rfl (lv_at hl 0 rfl) ?_
    subst hAe
    rw [hQ]
    exact W.iret (v := r10) hx hb hr (fun t ht hW => ⟨⟨r10, _, rfl, ⟨a_s_cells, rfl⟩, by rw [ht]; exact hP, va_K.moved hW.alike hK, hD⟩, hS.F ht⟩) hS.2.2 dX4_swapCells_19

def rmX4_turnCells : Room := { frames := 80, cells := 0, slots := 0, locals := 1600 }
set_option maxHeartbeats 4000000 in
set_option maxRecDepth 100000 in
theorem tX4_turnCells {l : Launch} {D : va_G} {K : Nat → Nat → Nat} {cs : Nat → ClassId} {q : Nat → Nat} {v_t_tapeSize v_t_textSize v_t_faultKind v_g_size v_h_size v_r_takes v_r_negative v_r_namePlace v_r_faultKind v_r_faultPlace v_a_size v_a_limit v_a_digits v_a_kind v_a_from v_a_to v_o_size v_b_size v_b_limit v_b_digits v_b_kind v_b_from v_b_to v_u_marksMade v_u_came v_u_guesses v_u_right v_u_taken v_s_things v_s_looked v_s_lookedTooOften v_s_arraysMade v_s_cellsMade : Int32} {a_t_tape a_t_text a_o_out a_u_outcomes a_u_indexes a_s_classes a_s_starts a_s_lengths a_vc : Nat → Int32} {a_g_beyond a_h_beyond a_r_scratch a_r_now a_u_atom a_u_other a_u_hand : Nat} {a_g_steps a_h_steps a_u_vars a_u_marks : Nat → Option Nat} {a_s_cells a_vd a_sj : Nat → Int64} {a_L : List Nat} {a_K a_iv a_inn : Nat → Nat} {a_si a_ac : Nat → Nat → Int32} (s9 : Nat) (h_s9 : aS a_L a_K s9) (p_0 : RF a_L a_K a_g_beyond a_h_beyond a_r_scratch a_g_steps a_h_steps a_u_atom a_u_other a_u_hand a_u_vars a_u_marks) (p_1 : STO v_s_things v_s_cellsMade a_s_starts a_s_lengths) (p_2 : PI a_L a_K a_si a_iv a_inn) : CtI l yX4_turnCells (wG yX4_turnCells cX4_turnCells 6 (some .int)) rmX4_turnCells D (twT cs) K [.ref (q 12), .ref s9] (tw cs q v_t_tapeSize v_t_textSize v_t_faultKind a_t_tape a_t_text a_g_beyond v_g_size a_g_steps a_h_beyond v_h_size a_h_steps a_r_scratch a_r_now v_r_takes v_r_negative v_r_namePlace v_r_faultKind v_r_faultPlace v_a_size v_a_limit v_a_digits v_a_kind v_a_from v_a_to v_o_size a_o_out v_b_size v_b_limit v_b_digits v_b_kind v_b_from v_b_to a_u_atom a_u_other a_u_hand v_u_marksMade v_u_came v_u_guesses v_u_right v_u_taken a_u_vars a_u_marks a_u_outcomes a_u_indexes v_s_things v_s_looked v_s_lookedTooOften v_s_arraysMade v_s_cellsMade a_s_classes a_s_starts a_s_lengths a_s_cells a_L a_K a_vc a_vd a_si a_sj a_iv a_inn a_ac) (fun r w1 => ∃ (a_s_cells' : Nat → Int64), w1 = (tw cs q v_t_tapeSize v_t_textSize v_t_faultKind a_t_tape a_t_text a_g_beyond v_g_size a_g_steps a_h_beyond v_h_size a_h_steps a_r_scratch a_r_now v_r_takes v_r_negative v_r_namePlace v_r_faultKind v_r_faultPlace v_a_size v_a_limit v_a_digits v_a_kind v_a_from v_a_to v_o_size a_o_out v_b_size v_b_limit v_b_digits v_b_kind v_b_from v_b_to a_u_atom a_u_other a_u_hand v_u_marksMade v_u_came v_u_guesses v_u_right v_u_taken a_u_vars a_u_marks a_u_outcomes a_u_indexes v_s_things v_s_looked v_s_lookedTooOften v_s_arraysMade v_s_cellsMade a_s_classes a_s_starts a_s_lengths a_s_cells' a_L a_K a_vc a_vd a_si a_sj a_iv a_inn a_ac)) 0 0 := by
  intro sz
  refine Met.ofW (cc := cX4_turnCells) (maxL := 6) (ret := (some .int)) (by decide) rfl ?_
  intro p e s m args below meth c s₁ B hml hv
  obtain ⟨rfl, hsz, hP, hK, hD0, hE⟩ := hv
  have hx := B.exec
  have hb := B.bytes
  have hr := B.returns
  have hts := atoms_spec (ws := (wG yX4_turnCells cX4_turnCells 6 (some .int))) B.pre
  have hown : s.vm.findClass RX4 = some m.cls := findClass_of_methodNamed B.named
  have hlocks := B.notSynchronized
  subst hsz
  have hD := hD0.self (sz := s.heap.size)
  obtain ⟨A, hAe⟩ : ∃ A : Nat → Prop, A = va_A (tw cs q v_t_tapeSize v_t_textSize v_t_faultKind a_t_tape a_t_text a_g_beyond v_g_size a_g_steps a_h_beyond v_h_size a_h_steps a_r_scratch a_r_now v_r_takes v_r_negative v_r_namePlace v_r_faultKind v_r_faultPlace v_a_size v_a_limit v_a_digits v_a_kind v_a_from v_a_to v_o_size a_o_out v_b_size v_b_limit v_b_digits v_b_kind v_b_from v_b_to a_u_atom a_u_other a_u_hand v_u_marksMade v_u_came v_u_guesses v_u_right v_u_taken a_u_vars a_u_marks a_u_outcomes a_u_indexes v_s_things v_s_looked v_s_lookedTooOften v_s_arraysMade v_s_cellsMade a_s_classes a_s_starts a_s_lengths a_s_cells a_L a_K a_vc a_vd a_si a_sj a_iv a_inn a_ac) s.heap.size := ⟨_, rfl⟩
  rw [← hAe] at hD hE
  have hA : ∀ q : Nat, s.heap.size ≤ q → A q := fun q h => by rw [hAe]; exact Or.inr h
  have hS : va_S A s.heap s.heap [] := va_S.rf
  have hl := lv_entry ([.ref (q 12), .ref s9]) (n := 6) (Nat.le_of_ble_eq_true rfl)
  rw [lg_entry_eq]
  generalize (lg_sl ([.ref (q 12), .ref s9]) ++ List.replicate (6 - (lg_sl ([.ref (q 12), .ref s9])).length) Slot.unset).toArray = ls at hl ⊢
  have hl : lv_has ls 6 [(0, .ref (q 12)), (1, .ref s9)] := hl
  refine wq (fun Q hQ => ?_)
  have hinX4 : ∀ w ∈ wsX40, w ∈ (wG yX4_turnCells cX4_turnCells 6 (some .int)) := fun w h => List.mem_cons_of_mem _ (inlX4 w h)
  have hinX6 : ∀ w ∈ wsX60, w ∈ (wG yX4_turnCells cX4_turnCells 6 (some .int)) := fun w h => List.mem_cons_of_mem _ (inlX6 w h)
  have kc0 : (0 : Int32).toInt = 0 := by decide
  have kc1 : (1 : Int32).toInt = 1 := by decide
  have k_38_0 := hts (.fieldLink RX4 266 "ArrayTrainer$Step" "first" "I") (List.mem_cons_of_mem _ (wr38 _ (List.mem_of_getElem? (i := 0) rfl)))
  have k_4_4 := hts (.fieldLink RX4 12 "ArrayTrainer$Runner" "store" "LArrayTrainer$Store;") (List.mem_cons_of_mem _ (wr4 _ (List.mem_of_getElem? (i := 4) rfl)))
  obtain ⟨H, hH⟩ : ∃ H : Heap, H = s.heap := ⟨_, rfl⟩
  obtain ⟨locs, hlc⟩ : ∃ L : List Loc, L = [] := ⟨_, rfl⟩
  have hP : va_P D vwCl (tw cs q v_t_tapeSize v_t_textSize v_t_faultKind a_t_tape a_t_text a_g_beyond v_g_size a_g_steps a_h_beyond v_h_size a_h_steps a_r_scratch a_r_now v_r_takes v_r_negative v_r_namePlace v_r_faultKind v_r_faultPlace v_a_size v_a_limit v_a_digits v_a_kind v_a_from v_a_to v_o_size a_o_out v_b_size v_b_limit v_b_digits v_b_kind v_b_from v_b_to a_u_atom a_u_other a_u_hand v_u_marksMade v_u_came v_u_guesses v_u_right v_u_taken a_u_vars a_u_marks a_u_outcomes a_u_indexes v_s_things v_s_looked v_s_lookedTooOften v_s_arraysMade v_s_cellsMade a_s_classes a_s_starts a_s_lengths a_s_cells a_L a_K a_vc a_vd a_si a_sj a_iv a_inn a_ac) H := by rw [hH]; exact hP
  have hS : va_S A s.heap H locs := by rw [hH, hlc]; exact hS
  refine wHL hH hlc ?_
  refine lv_aload_n hx hb dX4_turnCells_0 rfl (lv_at hl 0 rfl) ?_
  refine lv_aload_n hx hb dX4_turnCells_1 rfl (lv_at hl 1 rfl) ?_
  obtain ⟨k2_, hk2_⟩ := pl_S (X := (twX cs q v_t_tapeSize v_t_textSize v_t_faultKind a_t_tape a_t_text a_g_beyond v_g_size a_g_steps a_h_beyond v_h_size a_h_steps a_r_scratch a_r_now v_r_takes v_r_negative v_r_namePlace v_r_faultKind v_r_faultPlace v_a_size v_a_limit v_a_digits v_a_kind v_a_from v_a_to v_o_size a_o_out v_b_size v_b_limit v_b_digits v_b_kind v_b_from v_b_to a_u_atom a_u_other a_u_hand v_u_marksMade v_u_came v_u_guesses v_u_right v_u_taken a_u_vars a_u_marks a_u_outcomes a_u_indexes v_s_things v_s_looked v_s_lookedTooOften v_s_arraysMade v_s_cellsMade a_s_classes a_s_starts a_s_lengths a_s_cells)) (cI := cs 0) (vc := a_vc) (vd := a_vd) (si := a_si) (sj := a_sj) (iv := a_iv) (inn := a_inn) (ac := a_ac) h_s9
  refine va_get (D := D) (ci := 5) (v := .int (a_si s9 5)) (C := RX6) (T := TX6) (N := 15) hx hb hts hinX6 hown hK hP k2_ hk2_ rfl 5 (by decide) k_38_0 (fun _ h9 => h9) rfl dX4_turnCells_2 ?_
  refine lv_topi (fun x2 e_x2 => ?_)
  have b_x2 := iB x2
  refine call_r (As := [.int x2]) (rest := []) ⟨hx, hb, hml, hown, hts⟩ (tX4_variable (l := l) x2 (by first | assumption | omega | (intros; omega) | decide)) (cwV 1 hts (gV (wr21 _ (List.mem_of_getElem? (i := 22) rfl)) (wr21 _ (List.mem_of_getElem? (i := 23) rfl)) (wr22 _ (List.mem_of_getElem? (i := 0) rfl)) (wr2 _ (List.mem_of_getElem? (i := 10) rfl)) (wr22 _ (List.mem_of_getElem? (i := 1) rfl))) rfl rfl rfl (by decide +kernel) ⟨Nat.le_of_ble_eq_true rfl, Nat.le_of_ble_eq_true rfl⟩) (va_recv hK hP (ci := 3) (q0 := 12) rfl rfl) hK hP hD hE hS hA rfl hl.1 rfl (Nat.le_of_ble_eq_true rfl) dX4_turnCells_5 ⟨Nat.le_of_ble_eq_true rfl, Nat.le_of_ble_eq_true rfl⟩ (fun r5 w9 H locs hw5 hP hD hS => ?_)
  obtain ⟨rfl, hw5_0⟩ := hw5
  refine lv_astore_n (lv' := [(2, .ref r5), (0, .ref (q 12)), (1, .ref s9)]) hx hb dX4_turnCells_8 rfl hl (by decide) rfl (fun ls hl => ?_)
  refine lv_aload_n hx hb dX4_turnCells_9 rfl (lv_at hl 0 rfl) ?_
  refine call_iS (As := [.ref r5]) (rest := []) ⟨hx, hb, hml, hown, hts⟩ (tX4_needArray (l := l) r5 hw5_0) (va_cwS 1 hts (gS (wr38 _ (List.mem_of_getElem? (i := 1) rfl)) (wr38 _ (List.mem_of_getElem? (i := 2) rfl)) (wr2 _ (List.mem_of_getElem? (i := 10) rfl)) (wr38 _ (List.mem_of_getElem? (i := 3) rfl))) rfl rfl rfl (by decide +kernel) ⟨Nat.le_of_ble_eq_true rfl, Nat.le_of_ble_eq_true rfl⟩) hK hP hD hE hS hA rfl hl.1 rfl (Nat.le_of_ble_eq_true rfl) dX4_turnCells_10 ⟨Nat.le_of_ble_eq_true rfl, Nat.le_of_ble_eq_true rfl⟩ (fun r10 w9 H locs hw10 hP hD hS => ?_)
  obtain ⟨rfl⟩ := hw10
  have b_r10 := iB r10
  refine lv_istore_n (lv' := [(3, .int r10), (2, .ref r5), (0, .ref (q 12)), (1, .ref s9)]) hx hb dX4_turnCells_13 rfl hl (by decide) rfl (fun ls hl => ?_)
  refine lv_iload_n hx hb dX4_turnCells_14 rfl (lv_at hl 0 rfl) ?_
  refine m_if_eq (X := r10.toInt) (tgt := 20) hx hb dX4_turnCells_15 (by decide) rfl (fun c15 => ?_) (fun c15 => ?_)
  · skip
    refine lv_aload_n hx hb dX4_turnCells_20 rfl (lv_at hl 2 rfl) ?_
    refine va_get (D := D) (ci := 3) (v := .ref (q 17)) (C := RX4) (T := TX4) (N := 13) hx hb hts hinX4 hown hK hP 12 rfl rfl 0 (by decide) k_4_4 (fun _ h9 => h9) rfl dX4_turnCells_21 ?_
    refine lv_aload_n hx hb dX4_turnCells_24 rfl (lv_at hl 1 rfl) ?_
    obtain ⟨k25_, hk25_⟩ := pl_V (X := (twX cs q v_t_tapeSize v_t_textSize v_t_faultKind a_t_tape a_t_text a_g_beyond v_g_size a_g_steps a_h_beyond v_h_size a_h_steps a_r_scratch a_r_now v_r_takes v_r_negative v_r_namePlace v_r_faultKind v_r_faultPlace v_a_size v_a_limit v_a_digits v_a_kind v_a_from v_a_to v_o_size a_o_out v_b_size v_b_limit v_b_digits v_b_kind v_b_from v_b_to a_u_atom a_u_other a_u_hand v_u_marksMade v_u_came v_u_guesses v_u_right v_u_taken a_u_vars a_u_marks a_u_outcomes a_u_indexes v_s_things v_s_looked v_s_lookedTooOften v_s_arraysMade v_s_cellsMade a_s_classes a_s_starts a_s_lengths a_s_cells)) (cI := cs 0) (vc := a_vc) (vd := a_vd) (si := a_si) (sj := a_sj) (iv := a_iv) (inn := a_inn) (ac := a_ac) hw5_0
    refine call_i (As := []) (rest := [.ref (q 17)]) ⟨hx, hb, hml, hown, hts⟩ (tX8_array (l := l) r5 hw5_0 ) (cwV 0 hts (gV (wr39 _ (List.mem_of_getElem? (i := 22) rfl)) (wr38 _ (List.mem_of_getElem? (i := 13) rfl)) (wr38 _ (List.mem_of_getElem? (i := 14) rfl)) (wr4 _ (List.mem_of_getElem? (i := 11) rfl)) (wr38 _ (List.mem_of_getElem? (i := 15) rfl))) rfl rfl rfl (by decide +kernel) ⟨Nat.le_of_ble_eq_true rfl, Nat.le_of_ble_eq_true rfl⟩) (va_recv hK hP (ci := 7) (q0 := k25_) rfl hk25_) hK hP hD hE hS hA rfl hl.1 rfl (Nat.le_of_ble_eq_true rfl) dX4_turnCells_25 ⟨Nat.le_of_ble_eq_true rfl, Nat.le_of_ble_eq_true rfl⟩ (fun r25 w9 H locs hw25 hP hD hS => ?_)
    obtain ⟨rfl⟩ := hw25
    have b_r25 := iB r25
    refine call_i (As := [.int r25]) (rest := []) ⟨hx, hb, hml, hown, hts⟩ (tX7_lengthOf (l := l) r25 (by first | assumption | omega | (intros; omega) | decide)) (cwV 1 hts (gV (wr41 _ (List.mem_of_getElem? (i := 19) rfl)) (wr41 _ (List.mem_of_getElem? (i := 20) rfl)) (wr41 _ (List.mem_of_getElem? (i := 21) rfl)) (wr4 _ (List.mem_of_getElem? (i := 3) rfl)) (wr41 _ (List.mem_of_getElem? (i := 22) rfl))) rfl rfl rfl (by decide +kernel) ⟨Nat.le_of_ble_eq_true rfl, Nat.le_of_ble_eq_true rfl⟩) (va_recv hK hP (ci := 6) (q0 := 17) rfl rfl) hK hP hD hE hS hA rfl hl.1 rfl (Nat.le_of_ble_eq_true rfl) dX4_turnCells_28 ⟨Nat.le_of_ble_eq_true rfl, Nat.le_of_ble_eq_true rfl⟩ (fun r28 w9 H locs hw28 hP hD hS => ?_)
    obtain ⟨rfl, hw28_0, hw28_1, hw28_2⟩ := hw28
    have b_r28 := iB r28
    refine lv_iconst (v := 1) hx hb dX4_turnCells_31 (by decide) ?_
    refine m_isub (X := r28.toInt) (Y := 1) hx hb dX4_turnCells_32 rfl (by decide) (fun x32 e_x32 g9 => ?_)
    obtain ⟨k_x32, g_x32⟩ := g9
    have b_x32 := iB x32
    try (have q_x32 : x32.toInt = r28.toInt - 1 := (by omega); clear g_x32 k_x32)
    refine lv_istore (lv' := [(4, .int x32), (3, .int r10), (2, .ref r5), (0, .ref (q 12)), (1, .ref s9)]) hx hb dX4_turnCells_33 hl (by decide) rfl (fun ls hl => ?_)
    refine lv_iconst (v := 0) hx hb dX4_turnCells_35 (by decide) ?_
    refine lv_istore (lv' := [(5, .int 0), (4, .int x32), (3, .int r10), (2, .ref r5), (0, .ref (q 12)), (1, .ref s9)]) hx hb dX4_turnCells_36 hl (by decide) rfl (fun ls hl => ?_)
    have J38 : ∀ (n38 : Nat) (l5_38 : Int32) (a_s_cells_38 : Nat → Int64) (H : Heap) (locs : List Loc) (ls : Array Slot), (0 ≤ l5_38.toInt) → (l5_38.toInt ≤ 4000) → (4000 - l5_38.toInt < (n38 : Int)) → va_P D vwCl (tw cs q v_t_tapeSize v_t_textSize v_t_faultKind a_t_tape a_t_text a_g_beyond v_g_size a_g_steps a_h_beyond v_h_size a_h_steps a_r_scratch a_r_now v_r_takes v_r_negative v_r_namePlace v_r_faultKind v_r_faultPlace v_a_size v_a_limit v_a_digits v_a_kind v_a_from v_a_to v_o_size a_o_out v_b_size v_b_limit v_b_digits v_b_kind v_b_from v_b_to a_u_atom a_u_other a_u_hand v_u_marksMade v_u_came v_u_guesses v_u_right v_u_taken a_u_vars a_u_marks a_u_outcomes a_u_indexes v_s_things v_s_looked v_s_lookedTooOften v_s_arraysMade v_s_cellsMade a_s_classes a_s_starts a_s_lengths a_s_cells_38 a_L a_K a_vc a_vd a_si a_sj a_iv a_inn a_ac) H → va_D A (tw cs q v_t_tapeSize v_t_textSize v_t_faultKind a_t_tape a_t_text a_g_beyond v_g_size a_g_steps a_h_beyond v_h_size a_h_steps a_r_scratch a_r_now v_r_takes v_r_negative v_r_namePlace v_r_faultKind v_r_faultPlace v_a_size v_a_limit v_a_digits v_a_kind v_a_from v_a_to v_o_size a_o_out v_b_size v_b_limit v_b_digits v_b_kind v_b_from v_b_to a_u_atom a_u_other a_u_hand v_u_marksMade v_u_came v_u_guesses v_u_right v_u_taken a_u_vars a_u_marks a_u_outcomes a_u_indexes v_s_things v_s_looked v_s_lookedTooOften v_s_arraysMade v_s_cellsMade a_s_classes a_s_starts a_s_lengths a_s_cells_38 a_L a_K a_vc a_vd a_si a_sj a_iv a_inn a_ac) → va_S A s.heap H locs → lv_has ls 6 [(0, .ref (q 12)), (2, .ref r5), (4, .int x32), (5, .int l5_38)] → W p l e (headSpec (wG yX4_turnCells cX4_turnCells 6 (some .int)) rmX4_turnCells).room s m ([.ref (q 12), .ref s9] : List Value).toArray below meth c H locs 0 0 Q (F0 m 38 ls []) := by
      intro n38
      induction n38 with
      | zero =>
        intro l5_38 a_s_cells_38 H locs ls f38_0 f38_1 hm38
        exfalso
        omega
      | succ n38 ih38 =>
        intro l5_38 a_s_cells_38 H locs ls f38_0 f38_1 hm38 hP hD hS hl
        refine lv_iload hx hb dX4_turnCells_38 (lv_at hl 3 rfl) ?_
        refine lv_iload hx hb dX4_turnCells_40 (lv_at hl 2 rfl) ?_
        refine lv_iload hx hb dX4_turnCells_42 (lv_at hl 3 rfl) ?_
        refine m_isub (X := x32.toInt) (Y := l5_38.toInt) hx hb dX4_turnCells_44 rfl rfl (fun x44 e_x44 g9 => ?_)
        obtain ⟨k_x44, g_x44⟩ := g9
        have b_x44 := iB x44
        try (have q_x44 : x44.toInt = x32.toInt - l5_38.toInt := (by omega); clear g_x44 k_x44)
        refine m_icmp_ge (X := l5_38.toInt) (Y := x44.toInt) (tgt := 72) hx hb dX4_turnCells_45 (by decide) rfl rfl (fun c45 => ?_) (fun c45 => ?_)
        · skip
          refine lv_iconst (v := 0) hx hb dX4_turnCells_72 (by decide) ?_
          subst hAe
          rw [hQ]
          exact W.iret (v := 0) hx hb hr (fun t ht hW => ⟨⟨0, _, rfl, ⟨a_s_cells_38, rfl⟩, by rw [ht]; exact hP, va_K.moved hW.alike hK, hD⟩, hS.F ht⟩) hS.2.2 dX4_turnCells_73
        · skip
          refine lv_aload_n hx hb dX4_turnCells_48 rfl (lv_at hl 0 rfl) ?_
          refine va_get (D := D) (ci := 3) (v := .ref (q 17)) (C := RX4) (T := TX4) (N := 13) hx hb hts hinX4 hown hK hP 12 rfl rfl 0 (by decide) k_4_4 (fun _ h9 => h9) rfl dX4_turnCells_49 ?_
          refine lv_aload_n hx hb dX4_turnCells_52 rfl (lv_at hl 1 rfl) ?_
          obtain ⟨k53_, hk53_⟩ := pl_V (X := (twX cs q v_t_tapeSize v_t_textSize v_t_faultKind a_t_tape a_t_text a_g_beyond v_g_size a_g_steps a_h_beyond v_h_size a_h_steps a_r_scratch a_r_now v_r_takes v_r_negative v_r_namePlace v_r_faultKind v_r_faultPlace v_a_size v_a_limit v_a_digits v_a_kind v_a_from v_a_to v_o_size a_o_out v_b_size v_b_limit v_b_digits v_b_kind v_b_from v_b_to a_u_atom a_u_other a_u_hand v_u_marksMade v_u_came v_u_guesses v_u_right v_u_taken a_u_vars a_u_marks a_u_outcomes a_u_indexes v_s_things v_s_looked v_s_lookedTooOften v_s_arraysMade v_s_cellsMade a_s_classes a_s_starts a_s_lengths a_s_cells_38)) (cI := cs 0) (vc := a_vc) (vd := a_vd) (si := a_si) (sj := a_sj) (iv := a_iv) (inn := a_inn) (ac := a_ac) hw5_0
          refine call_i (As := []) (rest := [.ref (q 17)]) ⟨hx, hb, hml, hown, hts⟩ (tX8_array (l := l) r5 hw5_0 ) (cwV 0 hts (gV (wr39 _ (List.mem_of_getElem? (i := 22) rfl)) (wr38 _ (List.mem_of_getElem? (i := 13) rfl)) (wr38 _ (List.mem_of_getElem? (i := 14) rfl)) (wr4 _ (List.mem_of_getElem? (i := 11) rfl)) (wr38 _ (List.mem_of_getElem? (i := 15) rfl))) rfl rfl rfl (by decide +kernel) ⟨Nat.le_of_ble_eq_true rfl, Nat.le_of_ble_eq_true rfl⟩) (va_recv hK hP (ci := 7) (q0 := k53_) rfl hk53_) hK hP hD hE hS hA rfl hl.1 rfl (Nat.le_of_ble_eq_true rfl) dX4_turnCells_53 ⟨Nat.le_of_ble_eq_true rfl, Nat.le_of_ble_eq_true rfl⟩ (fun r53 w9 H locs hw53 hP hD hS => ?_)
          obtain ⟨rfl⟩ := hw53
          have b_r53 := iB r53
          refine lv_iload hx hb dX4_turnCells_56 (lv_at hl 3 rfl) ?_
          refine lv_iload hx hb dX4_turnCells_58 (lv_at hl 2 rfl) ?_
          refine lv_iload hx hb dX4_turnCells_60 (lv_at hl 3 rfl) ?_
          refine m_isub (X := x32.toInt) (Y := l5_38.toInt) hx hb dX4_turnCells_62 rfl rfl (fun x62 e_x62 g9 => ?_)
          obtain ⟨k_x62, g_x62⟩ := g9
          have b_x62 := iB x62
          try (have q_x62 : x62.toInt = x32.toInt - l5_38.toInt := (by omega); clear g_x62 k_x62)
          refine call_v (As := [.int r53, .int l5_38, .int x62]) (rest := []) ⟨hx, hb, hml, hown, hts⟩ (tX7_swap (l := l) r53 l5_38 x62 (by first | assumption | omega | (intros; omega) | decide)) (cwV 3 hts (gV (wr46 _ (List.mem_of_getElem? (i := 0) rfl)) (wr46 _ (List.mem_of_getElem? (i := 1) rfl)) (wr46 _ (List.mem_of_getElem? (i := 2) rfl)) (wr4 _ (List.mem_of_getElem? (i := 3) rfl)) (wr46 _ (List.mem_of_getElem? (i := 3) rfl))) rfl rfl rfl (by decide +kernel) ⟨Nat.le_of_ble_eq_true rfl, Nat.le_of_ble_eq_true rfl⟩) (va_recv hK hP (ci := 6) (q0 := 17) rfl rfl) hK hP hD hE hS hA rfl hl.1 rfl (Nat.le_of_ble_eq_true rfl) dX4_turnCells_63 ⟨Nat.le_of_ble_eq_true rfl, Nat.le_of_ble_eq_true rfl⟩ (fun w9 H locs hw63 hP hD hS => ?_)
          obtain ⟨a_s_cells_63, rfl⟩ := hw63
          obtain ⟨x66, e_x66⟩ : ∃ z : Int32, z = l5_38 + (1 : Int32) := ⟨_, rfl⟩
          obtain ⟨k_x66, g_x66⟩ : ∃ k : Int, x66.toInt = l5_38.toInt + (1) + k * 4294967296 := by rw [e_x66]; exact iAdd l5_38 (1)
          have b_x66 := iB x66
          try (have q_x66 : x66.toInt = l5_38.toInt + (1) := (by omega); clear g_x66 k_x66)
          refine lv_iinc (v := x66) (lv' := [(5, .int x66), (0, .ref (q 12)), (2, .ref r5), (4, .int x32)]) hx hb dX4_turnCells_66 hl (k := 3) rfl (by rw [e_x66]; rfl) (by decide) rfl (fun ls hl => ?_)
          refine lv_goto (tgt := 38) hx hb dX4_turnCells_69 (by decide) ?_
          exact ih38 x66 a_s_cells_63 H locs ls (by first | assumption | omega | (intros; omega) | decide) (by first | assumption | omega | (intros; omega) | decide) (by omega) hP hD hS (lv_sub hl [1, 2, 3, 0] rfl)
    exact J38 ((4000 - (0 : Int32).toInt).toNat + 1) (0 : Int32) a_s_cells H locs ls (by first | assumption | omega | (intros; omega) | decide) (by first | assumption | omega | (intros; omega) | decide) (by omega) hP hD hS (lv_sub hl [4, 3, 1, 0] rfl)
  · skip
    refine lv_iload_n hx hb dX4_turnCells_18 rfl (lv_at hl 0 rfl) ?_
    subst hAe
    rw [hQ]
    exact W.iret (v := r10) hx hb hr (fun t ht hW => ⟨⟨r10, _, rfl, ⟨a_s_cells, rfl⟩, by rw [ht]; exact hP, va_K.moved hW.alike hK, hD⟩, hS.F ht⟩) hS.2.2 dX4_turnCells_19

def rmX4_keepMark : Room := { frames := 60, cells := 0, slots := 0, locals := 1200 }
set_option maxHeartbeats 4000000 in
set_option maxRecDepth 100000 in
theorem tX4_keepMark {l : Launch} {D : va_G} {K : Nat → Nat → Nat} {cs : Nat → ClassId} {q : Nat → Nat} {v_t_tapeSize v_t_textSize v_t_faultKind v_g_size v_h_size v_r_takes v_r_negative v_r_namePlace v_r_faultKind v_r_faultPlace v_a_size v_a_limit v_a_digits v_a_kind v_a_from v_a_to v_o_size v_b_size v_b_limit v_b_digits v_b_kind v_b_from v_b_to v_u_marksMade v_u_came v_u_guesses v_u_right v_u_taken v_s_things v_s_looked v_s_lookedTooOften v_s_arraysMade v_s_cellsMade : Int32} {a_t_tape a_t_text a_o_out a_u_outcomes a_u_indexes a_s_classes a_s_starts a_s_lengths a_vc : Nat → Int32} {a_g_beyond a_h_beyond a_r_scratch a_r_now a_u_atom a_u_other a_u_hand : Nat} {a_g_steps a_h_steps a_u_vars a_u_marks : Nat → Option Nat} {a_s_cells a_vd a_sj : Nat → Int64} {a_L : List Nat} {a_K a_iv a_inn : Nat → Nat} {a_si a_ac : Nat → Nat → Int32} (p_0 : RF a_L a_K a_g_beyond a_h_beyond a_r_scratch a_g_steps a_h_steps a_u_atom a_u_other a_u_hand a_u_vars a_u_marks) (p_1 : STO v_s_things v_s_cellsMade a_s_starts a_s_lengths) (p_2 : 0 ≤ v_u_marksMade.toInt) (p_3 : v_u_marksMade.toInt ≤ 1000) : CtI l yX4_keepMark (wG yX4_keepMark cX4_keepMark 1 (some .int)) rmX4_keepMark D (twT cs) K [.ref (q 12)] (tw cs q v_t_tapeSize v_t_textSize v_t_faultKind a_t_tape a_t_text a_g_beyond v_g_size a_g_steps a_h_beyond v_h_size a_h_steps a_r_scratch a_r_now v_r_takes v_r_negative v_r_namePlace v_r_faultKind v_r_faultPlace v_a_size v_a_limit v_a_digits v_a_kind v_a_from v_a_to v_o_size a_o_out v_b_size v_b_limit v_b_digits v_b_kind v_b_from v_b_to a_u_atom a_u_other a_u_hand v_u_marksMade v_u_came v_u_guesses v_u_right v_u_taken a_u_vars a_u_marks a_u_outcomes a_u_indexes v_s_things v_s_looked v_s_lookedTooOften v_s_arraysMade v_s_cellsMade a_s_classes a_s_starts a_s_lengths a_s_cells a_L a_K a_vc a_vd a_si a_sj a_iv a_inn a_ac) (fun r w1 => ∃ (v_u_marksMade' : Int32) (a_vc' : Nat → Int32) (a_vd' : Nat → Int64), w1 = (tw cs q v_t_tapeSize v_t_textSize v_t_faultKind a_t_tape a_t_text a_g_beyond v_g_size a_g_steps a_h_beyond v_h_size a_h_steps a_r_scratch a_r_now v_r_takes v_r_negative v_r_namePlace v_r_faultKind v_r_faultPlace v_a_size v_a_limit v_a_digits v_a_kind v_a_from v_a_to v_o_size a_o_out v_b_size v_b_limit v_b_digits v_b_kind v_b_from v_b_to a_u_atom a_u_other a_u_hand v_u_marksMade' v_u_came v_u_guesses v_u_right v_u_taken a_u_vars a_u_marks a_u_outcomes a_u_indexes v_s_things v_s_looked v_s_lookedTooOften v_s_arraysMade v_s_cellsMade a_s_classes a_s_starts a_s_lengths a_s_cells a_L a_K a_vc' a_vd' a_si a_sj a_iv a_inn a_ac) ∧ (0 ≤ v_u_marksMade'.toInt) ∧ (v_u_marksMade'.toInt ≤ v_u_marksMade.toInt + 1)) 0 0 := by
  intro sz
  refine Met.ofW (cc := cX4_keepMark) (maxL := 1) (ret := (some .int)) (by decide) rfl ?_
  intro p e s m args below meth c s₁ B hml hv
  obtain ⟨rfl, hsz, hP, hK, hD0, hE⟩ := hv
  have hx := B.exec
  have hb := B.bytes
  have hr := B.returns
  have hts := atoms_spec (ws := (wG yX4_keepMark cX4_keepMark 1 (some .int))) B.pre
  have hown : s.vm.findClass RX4 = some m.cls := findClass_of_methodNamed B.named
  have hlocks := B.notSynchronized
  subst hsz
  have hD := hD0.self (sz := s.heap.size)
  obtain ⟨A, hAe⟩ : ∃ A : Nat → Prop, A = va_A (tw cs q v_t_tapeSize v_t_textSize v_t_faultKind a_t_tape a_t_text a_g_beyond v_g_size a_g_steps a_h_beyond v_h_size a_h_steps a_r_scratch a_r_now v_r_takes v_r_negative v_r_namePlace v_r_faultKind v_r_faultPlace v_a_size v_a_limit v_a_digits v_a_kind v_a_from v_a_to v_o_size a_o_out v_b_size v_b_limit v_b_digits v_b_kind v_b_from v_b_to a_u_atom a_u_other a_u_hand v_u_marksMade v_u_came v_u_guesses v_u_right v_u_taken a_u_vars a_u_marks a_u_outcomes a_u_indexes v_s_things v_s_looked v_s_lookedTooOften v_s_arraysMade v_s_cellsMade a_s_classes a_s_starts a_s_lengths a_s_cells a_L a_K a_vc a_vd a_si a_sj a_iv a_inn a_ac) s.heap.size := ⟨_, rfl⟩
  rw [← hAe] at hD hE
  have hA : ∀ q : Nat, s.heap.size ≤ q → A q := fun q h => by rw [hAe]; exact Or.inr h
  have hS : va_S A s.heap s.heap [] := va_S.rf
  have hl := lv_entry ([.ref (q 12)]) (n := 1) (Nat.le_of_ble_eq_true rfl)
  rw [lg_entry_eq]
  generalize (lg_sl ([.ref (q 12)]) ++ List.replicate (1 - (lg_sl ([.ref (q 12)])).length) Slot.unset).toArray = ls at hl ⊢
  have hl : lv_has ls 1 [(0, .ref (q 12))] := hl
  refine wq (fun Q hQ => ?_)
  have hinX4 : ∀ w ∈ wsX40, w ∈ (wG yX4_keepMark cX4_keepMark 1 (some .int)) := fun w h => List.mem_cons_of_mem _ (inlX4 w h)
  have kc0 : (0 : Int32).toInt = 0 := by decide
  have kc1 : (1 : Int32).toInt = 1 := by decide
  have kc2 : (50 : Int32).toInt = 50 := by decide
  have k_21_11 := hts (.fieldLink RX4 58 "ArrayTrainer$Runner" "marksMade" "I") (List.mem_cons_of_mem _ (wr21 _ (List.mem_of_getElem? (i := 11) rfl)))
  have k_4_7 := hts (.fieldLink RX4 24 "ArrayTrainer$Runner" "marks" "[LArrayTrainer$Value;") (List.mem_cons_of_mem _ (wr4 _ (List.mem_of_getElem? (i := 7) rfl)))
  have k_4_12 := hts (.fieldLink RX4 37 "ArrayTrainer$Runner" "atom" "LArrayTrainer$Value;") (List.mem_cons_of_mem _ (wr4 _ (List.mem_of_getElem? (i := 12) rfl)))
  obtain ⟨H, hH⟩ : ∃ H : Heap, H = s.heap := ⟨_, rfl⟩
  obtain ⟨locs, hlc⟩ : ∃ L : List Loc, L = [] := ⟨_, rfl⟩
  have hP : va_P D vwCl (tw cs q v_t_tapeSize v_t_textSize v_t_faultKind a_t_tape a_t_text a_g_beyond v_g_size a_g_steps a_h_beyond v_h_size a_h_steps a_r_scratch a_r_now v_r_takes v_r_negative v_r_namePlace v_r_faultKind v_r_faultPlace v_a_size v_a_limit v_a_digits v_a_kind v_a_from v_a_to v_o_size a_o_out v_b_size v_b_limit v_b_digits v_b_kind v_b_from v_b_to a_u_atom a_u_other a_u_hand v_u_marksMade v_u_came v_u_guesses v_u_right v_u_taken a_u_vars a_u_marks a_u_outcomes a_u_indexes v_s_things v_s_looked v_s_lookedTooOften v_s_arraysMade v_s_cellsMade a_s_classes a_s_starts a_s_lengths a_s_cells a_L a_K a_vc a_vd a_si a_sj a_iv a_inn a_ac) H := by rw [hH]; exact hP
  have hS : va_S A s.heap H locs := by rw [hH, hlc]; exact hS
  refine wHL hH hlc ?_
  refine lv_aload_n hx hb dX4_keepMark_0 rfl (lv_at hl 0 rfl) ?_
  refine va_get (D := D) (ci := 3) (v := .int v_u_marksMade) (C := RX4) (T := TX4) (N := 13) hx hb hts hinX4 hown hK hP 12 rfl rfl 8 (by decide) k_21_11 (fun _ h9 => h9) rfl dX4_keepMark_1 ?_
  refine lv_bipush (v := 50) hx hb dX4_keepMark_4 (by decide) ?_
  have J25 : ∀ (a_vc_25 : Nat → Int32) (a_vd_25 : Nat → Int64) (H : Heap) (locs : List Loc) (ls : Array Slot), va_P D vwCl (tw cs q v_t_tapeSize v_t_textSize v_t_faultKind a_t_tape a_t_text a_g_beyond v_g_size a_g_steps a_h_beyond v_h_size a_h_steps a_r_scratch a_r_now v_r_takes v_r_negative v_r_namePlace v_r_faultKind v_r_faultPlace v_a_size v_a_limit v_a_digits v_a_kind v_a_from v_a_to v_o_size a_o_out v_b_size v_b_limit v_b_digits v_b_kind v_b_from v_b_to a_u_atom a_u_other a_u_hand v_u_marksMade v_u_came v_u_guesses v_u_right v_u_taken a_u_vars a_u_marks a_u_outcomes a_u_indexes v_s_things v_s_looked v_s_lookedTooOften v_s_arraysMade v_s_cellsMade a_s_classes a_s_starts a_s_lengths a_s_cells a_L a_K a_vc_25 a_vd_25 a_si a_sj a_iv a_inn a_ac) H → va_D A (tw cs q v_t_tapeSize v_t_textSize v_t_faultKind a_t_tape a_t_text a_g_beyond v_g_size a_g_steps a_h_beyond v_h_size a_h_steps a_r_scratch a_r_now v_r_takes v_r_negative v_r_namePlace v_r_faultKind v_r_faultPlace v_a_size v_a_limit v_a_digits v_a_kind v_a_from v_a_to v_o_size a_o_out v_b_size v_b_limit v_b_digits v_b_kind v_b_from v_b_to a_u_atom a_u_other a_u_hand v_u_marksMade v_u_came v_u_guesses v_u_right v_u_taken a_u_vars a_u_marks a_u_outcomes a_u_indexes v_s_things v_s_looked v_s_lookedTooOften v_s_arraysMade v_s_cellsMade a_s_classes a_s_starts a_s_lengths a_s_cells a_L a_K a_vc_25 a_vd_25 a_si a_sj a_iv a_inn a_ac) → va_S A s.heap H locs → lv_has ls 1 [(0, .ref (q 12))] → W p l e (headSpec (wG yX4_keepMark cX4_keepMark 1 (some .int)) rmX4_keepMark).room s m ([.ref (q 12)] : List Value).toArray below meth c H locs 0 0 Q (F0 m 25 ls []) := by
    intro a_vc_25 a_vd_25 H locs ls hP hD hS hl
    refine lv_aload_n hx hb dX4_keepMark_25 rfl (lv_at hl 0 rfl) ?_
    refine lv_dup hx hb dX4_keepMark_26 rfl ?_
    refine va_get (D := D) (ci := 3) (v := .int v_u_marksMade) (C := RX4) (T := TX4) (N := 13) hx hb hts hinX4 hown hK hP 12 rfl rfl 8 (by decide) k_21_11 (fun _ h9 => h9) rfl dX4_keepMark_27 ?_
    refine lv_iconst (v := 1) hx hb dX4_keepMark_30 (by decide) ?_
    refine m_iadd (X := v_u_marksMade.toInt) (Y := 1) hx hb dX4_keepMark_31 rfl (by decide) (fun x31 e_x31 g9 => ?_)
    obtain ⟨k_x31, g_x31⟩ := g9
    have b_x31 := iB x31
    try (have q_x31 : x31.toInt = v_u_marksMade.toInt + 1 := (by omega); clear g_x31 k_x31)
    refine va_put (D := D) (ci := 3) (v := .int x31) (ty := .int) (C := RX4) (T := TX4) (N := 13) hx hb hts hinX4 tyX4 tyX4_ok nmX4 hown hK hP hD hS 12 rfl rfl 8 (by decide) k_21_11 (fun _ h9 => h9) rfl (by decide +kernel) rfl rfl (Nat.le_of_ble_eq_true rfl) dX4_keepMark_32 (fun H locs hP hD hS => ?_)
    have hP : va_P D vwCl (tw cs q v_t_tapeSize v_t_textSize v_t_faultKind a_t_tape a_t_text a_g_beyond v_g_size a_g_steps a_h_beyond v_h_size a_h_steps a_r_scratch a_r_now v_r_takes v_r_negative v_r_namePlace v_r_faultKind v_r_faultPlace v_a_size v_a_limit v_a_digits v_a_kind v_a_from v_a_to v_o_size a_o_out v_b_size v_b_limit v_b_digits v_b_kind v_b_from v_b_to a_u_atom a_u_other a_u_hand x31 v_u_came v_u_guesses v_u_right v_u_taken a_u_vars a_u_marks a_u_outcomes a_u_indexes v_s_things v_s_looked v_s_lookedTooOften v_s_arraysMade v_s_cellsMade a_s_classes a_s_starts a_s_lengths a_s_cells a_L a_K a_vc_25 a_vd_25 a_si a_sj a_iv a_inn a_ac) H := hP
    have hD : va_D A (tw cs q v_t_tapeSize v_t_textSize v_t_faultKind a_t_tape a_t_text a_g_beyond v_g_size a_g_steps a_h_beyond v_h_size a_h_steps a_r_scratch a_r_now v_r_takes v_r_negative v_r_namePlace v_r_faultKind v_r_faultPlace v_a_size v_a_limit v_a_digits v_a_kind v_a_from v_a_to v_o_size a_o_out v_b_size v_b_limit v_b_digits v_b_kind v_b_from v_b_to a_u_atom a_u_other a_u_hand x31 v_u_came v_u_guesses v_u_right v_u_taken a_u_vars a_u_marks a_u_outcomes a_u_indexes v_s_things v_s_looked v_s_lookedTooOften v_s_arraysMade v_s_cellsMade a_s_classes a_s_starts a_s_lengths a_s_cells a_L a_K a_vc_25 a_vd_25 a_si a_sj a_iv a_inn a_ac) := hD
    refine lv_iconst (v := 0) hx hb dX4_keepMark_35 (by decide) ?_
    subst hAe
    rw [hQ]
    exact W.iret (v := 0) hx hb hr (fun t ht hW => ⟨⟨0, _, rfl, ⟨x31, a_vc_25, a_vd_25, rfl, by first | assumption | omega | (intros; omega) | decide, by first | assumption | omega | (intros; omega) | decide⟩, by rw [ht]; exact hP, va_K.moved hW.alike hK, hD⟩, hS.F ht⟩) hS.2.2 dX4_keepMark_36
  refine m_icmp_ge (X := v_u_marksMade.toInt) (Y := 50) (tgt := 25) hx hb dX4_keepMark_6 (by decide) rfl (by decide) (fun c6 => ?_) (fun c6 => ?_)
  · skip
    exact J25 a_vc a_vd H locs ls hP hD hS (lv_sub hl [0] rfl)
  · skip
    refine lv_aload_n hx hb dX4_keepMark_9 rfl (lv_at hl 0 rfl) ?_
    refine va_get (D := D) (ci := 3) (v := .ref (q 14)) (C := RX4) (T := TX4) (N := 13) hx hb hts hinX4 hown hK hP 12 rfl rfl 2 (by decide) k_4_7 (fun _ h9 => h9) rfl dX4_keepMark_10 ?_
    refine lv_aload_n hx hb dX4_keepMark_13 rfl (lv_at hl 0 rfl) ?_
    refine va_get (D := D) (ci := 3) (v := .int v_u_marksMade) (C := RX4) (T := TX4) (N := 13) hx hb hts hinX4 hown hK hP 12 rfl rfl 8 (by decide) k_21_11 (fun _ h9 => h9) rfl dX4_keepMark_14 ?_
    obtain ⟨x17, e_x17, h_x17⟩ := RF.z_ms (by assumption) v_u_marksMade.toNatClampNeg (by have t9 := tn (i := v_u_marksMade) (by omega); omega)
    refine m_aldq hx hb hK hP 14 3 rfl rfl (ix (by omega) (by omega)) e_x17 dX4_keepMark_17 ?_
    refine lv_aload_n hx hb dX4_keepMark_18 rfl (lv_at hl 0 rfl) ?_
    have hf19 : aV a_L a_K a_u_atom := by first | assumption | exact RF.z_uA (by assumption)
    refine va_get (D := D) (ci := 3) (v := .ref a_u_atom) (C := RX4) (T := TX4) (N := 13) hx hb hts hinX4 hown hK hP 12 rfl rfl 5 (by decide) k_4_12 (fun _ h9 => h9) rfl dX4_keepMark_19 ?_
    obtain ⟨k22_, hk22_⟩ := pl_V (X := (twX cs q v_t_tapeSize v_t_textSize v_t_faultKind a_t_tape a_t_text a_g_beyond v_g_size a_g_steps a_h_beyond v_h_size a_h_steps a_r_scratch a_r_now v_r_takes v_r_negative v_r_namePlace v_r_faultKind v_r_faultPlace v_a_size v_a_limit v_a_digits v_a_kind v_a_from v_a_to v_o_size a_o_out v_b_size v_b_limit v_b_digits v_b_kind v_b_from v_b_to a_u_atom a_u_other a_u_hand v_u_marksMade v_u_came v_u_guesses v_u_right v_u_taken a_u_vars a_u_marks a_u_outcomes a_u_indexes v_s_things v_s_looked v_s_lookedTooOften v_s_arraysMade v_s_cellsMade a_s_classes a_s_starts a_s_lengths a_s_cells)) (cI := cs 0) (vc := a_vc) (vd := a_vd) (si := a_si) (sj := a_sj) (iv := a_iv) (inn := a_inn) (ac := a_ac) h_x17
    refine call_v (As := [.ref a_u_atom]) (rest := []) ⟨hx, hb, hml, hown, hts⟩ (tX8_becomeLike (l := l) x17 h_x17 a_u_atom hf19) (cwV 1 hts (gV (wr37 _ (List.mem_of_getElem? (i := 1) rfl)) (wr37 _ (List.mem_of_getElem? (i := 2) rfl)) (wr37 _ (List.mem_of_getElem? (i := 3) rfl)) (wr4 _ (List.mem_of_getElem? (i := 11) rfl)) (wr37 _ (List.mem_of_getElem? (i := 4) rfl))) rfl rfl rfl (by decide +kernel) ⟨Nat.le_of_ble_eq_true rfl, Nat.le_of_ble_eq_true rfl⟩) (va_recv hK hP (ci := 7) (q0 := k22_) rfl hk22_) hK hP hD hE hS hA rfl hl.1 rfl (Nat.le_of_ble_eq_true rfl) dX4_keepMark_22 ⟨Nat.le_of_ble_eq_true rfl, Nat.le_of_ble_eq_true rfl⟩ (fun w9 H locs hw22 hP hD hS => ?_)
    obtain ⟨a_vc_22, a_vd_22, rfl⟩ := hw22
    exact J25 a_vc_22 a_vd_22 H locs ls hP hD hS (lv_sub hl [0] rfl)

def rmX4_perform : Room := { frames := 180, cells := 0, slots := 0, locals := 3600 }
set_option maxHeartbeats 4000000 in
set_option maxRecDepth 100000 in
theorem tX4_perform {l : Launch} {D : va_G} {K : Nat → Nat → Nat} {cs : Nat → ClassId} {q : Nat → Nat} {v_t_tapeSize v_t_textSize v_t_faultKind v_g_size v_h_size v_r_takes v_r_negative v_r_namePlace v_r_faultKind v_r_faultPlace v_a_size v_a_limit v_a_digits v_a_kind v_a_from v_a_to v_o_size v_b_size v_b_limit v_b_digits v_b_kind v_b_from v_b_to v_u_marksMade v_u_came v_u_guesses v_u_right v_u_taken v_s_things v_s_looked v_s_lookedTooOften v_s_arraysMade v_s_cellsMade : Int32} {a_t_tape a_t_text a_o_out a_u_outcomes a_u_indexes a_s_classes a_s_starts a_s_lengths a_vc : Nat → Int32} {a_g_beyond a_h_beyond a_r_scratch a_r_now a_u_atom a_u_other a_u_hand : Nat} {a_g_steps a_h_steps a_u_vars a_u_marks : Nat → Option Nat} {a_s_cells a_vd a_sj : Nat → Int64} {a_L : List Nat} {a_K a_iv a_inn : Nat → Nat} {a_si a_ac : Nat → Nat → Int32} (s9 : Nat) (h_s9 : aS a_L a_K s9) (p_0 : RF a_L a_K a_g_beyond a_h_beyond a_r_scratch a_g_steps a_h_steps a_u_atom a_u_other a_u_hand a_u_vars a_u_marks) (p_1 : STO v_s_things v_s_cellsMade a_s_starts a_s_lengths) (p_2 : PI a_L a_K a_si a_iv a_inn) (p_3 : 0 ≤ v_u_marksMade.toInt) (p_4 : v_u_marksMade.toInt ≤ 1000) : CtI l yX4_perform (wG yX4_perform cX4_perform 3 (some .int)) rmX4_perform D (twT cs) K [.ref (q 12), .ref s9] (tw cs q v_t_tapeSize v_t_textSize v_t_faultKind a_t_tape a_t_text a_g_beyond v_g_size a_g_steps a_h_beyond v_h_size a_h_steps a_r_scratch a_r_now v_r_takes v_r_negative v_r_namePlace v_r_faultKind v_r_faultPlace v_a_size v_a_limit v_a_digits v_a_kind v_a_from v_a_to v_o_size a_o_out v_b_size v_b_limit v_b_digits v_b_kind v_b_from v_b_to a_u_atom a_u_other a_u_hand v_u_marksMade v_u_came v_u_guesses v_u_right v_u_taken a_u_vars a_u_marks a_u_outcomes a_u_indexes v_s_things v_s_looked v_s_lookedTooOften v_s_arraysMade v_s_cellsMade a_s_classes a_s_starts a_s_lengths a_s_cells a_L a_K a_vc a_vd a_si a_sj a_iv a_inn a_ac) (fun r w1 => ∃ (v_u_marksMade' : Int32) (a_u_indexes' : Nat → Int32) (v_s_things' : Int32) (v_s_looked' : Int32) (v_s_lookedTooOften' : Int32) (v_s_arraysMade' : Int32) (v_s_cellsMade' : Int32) (a_s_classes' : Nat → Int32) (a_s_starts' : Nat → Int32) (a_s_lengths' : Nat → Int32) (a_s_cells' : Nat → Int64) (a_vc' : Nat → Int32) (a_vd' : Nat → Int64), w1 = (tw cs q v_t_tapeSize v_t_textSize v_t_faultKind a_t_tape a_t_text a_g_beyond v_g_size a_g_steps a_h_beyond v_h_size a_h_steps a_r_scratch a_r_now v_r_takes v_r_negative v_r_namePlace v_r_faultKind v_r_faultPlace v_a_size v_a_limit v_a_digits v_a_kind v_a_from v_a_to v_o_size a_o_out v_b_size v_b_limit v_b_digits v_b_kind v_b_from v_b_to a_u_atom a_u_other a_u_hand v_u_marksMade' v_u_came v_u_guesses v_u_right v_u_taken a_u_vars a_u_marks a_u_outcomes a_u_indexes' v_s_things' v_s_looked' v_s_lookedTooOften' v_s_arraysMade' v_s_cellsMade' a_s_classes' a_s_starts' a_s_lengths' a_s_cells' a_L a_K a_vc' a_vd' a_si a_sj a_iv a_inn a_ac) ∧ (STO v_s_things' v_s_cellsMade' a_s_starts' a_s_lengths') ∧ (0 ≤ v_u_marksMade'.toInt) ∧ (v_u_marksMade'.toInt ≤ v_u_marksMade.toInt + 1)) 0 0 := by
  intro sz
  refine Met.ofW (cc := cX4_perform) (maxL := 3) (ret := (some .int)) (by decide) rfl ?_
  intro p e s m args below meth c s₁ B hml hv
  obtain ⟨rfl, hsz, hP, hK, hD0, hE⟩ := hv
  have hx := B.exec
  have hb := B.bytes
  have hr := B.returns
  have hts := atoms_spec (ws := (wG yX4_perform cX4_perform 3 (some .int))) B.pre
  have hown : s.vm.findClass RX4 = some m.cls := findClass_of_methodNamed B.named
  have hlocks := B.notSynchronized
  subst hsz
  have hD := hD0.self (sz := s.heap.size)
  obtain ⟨A, hAe⟩ : ∃ A : Nat → Prop, A = va_A (tw cs q v_t_tapeSize v_t_textSize v_t_faultKind a_t_tape a_t_text a_g_beyond v_g_size a_g_steps a_h_beyond v_h_size a_h_steps a_r_scratch a_r_now v_r_takes v_r_negative v_r_namePlace v_r_faultKind v_r_faultPlace v_a_size v_a_limit v_a_digits v_a_kind v_a_from v_a_to v_o_size a_o_out v_b_size v_b_limit v_b_digits v_b_kind v_b_from v_b_to a_u_atom a_u_other a_u_hand v_u_marksMade v_u_came v_u_guesses v_u_right v_u_taken a_u_vars a_u_marks a_u_outcomes a_u_indexes v_s_things v_s_looked v_s_lookedTooOften v_s_arraysMade v_s_cellsMade a_s_classes a_s_starts a_s_lengths a_s_cells a_L a_K a_vc a_vd a_si a_sj a_iv a_inn a_ac) s.heap.size := ⟨_, rfl⟩
  rw [← hAe] at hD hE
  have hA : ∀ q : Nat, s.heap.size ≤ q → A q := fun q h => by rw [hAe]; exact Or.inr h
  have hS : va_S A s.heap s.heap [] := va_S.rf
  have hl := lv_entry ([.ref (q 12), .ref s9]) (n := 3) (Nat.le_of_ble_eq_true rfl)
  rw [lg_entry_eq]
  generalize (lg_sl ([.ref (q 12), .ref s9]) ++ List.replicate (3 - (lg_sl ([.ref (q 12), .ref s9])).length) Slot.unset).toArray = ls at hl ⊢
  have hl : lv_has ls 3 [(0, .ref (q 12)), (1, .ref s9)] := hl
  refine wq (fun Q hQ => ?_)
  have hinX4 : ∀ w ∈ wsX40, w ∈ (wG yX4_perform cX4_perform 3 (some .int)) := fun w h => List.mem_cons_of_mem _ (inlX4 w h)
  have hinX6 : ∀ w ∈ wsX60, w ∈ (wG yX4_perform cX4_perform 3 (some .int)) := fun w h => List.mem_cons_of_mem _ (inlX6 w h)
  have hinX8 : ∀ w ∈ wsX80, w ∈ (wG yX4_perform cX4_perform 3 (some .int)) := fun w h => List.mem_cons_of_mem _ (inlX8 w h)
  have k_36_4 := hts (.fieldLink RX4 149 "ArrayTrainer$Step" "act" "I") (List.mem_cons_of_mem _ (wr36 _ (List.mem_of_getElem? (i := 4) rfl)))
  have k_4_12 := hts (.fieldLink RX4 37 "ArrayTrainer$Runner" "atom" "LArrayTrainer$Value;") (List.mem_cons_of_mem _ (wr4 _ (List.mem_of_getElem? (i := 12) rfl)))
  have k_36_5 := hts (.fieldLink RX4 152 "ArrayTrainer$Value" "cls" "I") (List.mem_cons_of_mem _ (wr36 _ (List.mem_of_getElem? (i := 5) rfl)))
  have k_36_6 := hts (.fieldLink RX4 155 "ArrayTrainer$Value" "datum" "J") (List.mem_cons_of_mem _ (wr36 _ (List.mem_of_getElem? (i := 6) rfl)))
  obtain ⟨H, hH⟩ : ∃ H : Heap, H = s.heap := ⟨_, rfl⟩
  obtain ⟨locs, hlc⟩ : ∃ L : List Loc, L = [] := ⟨_, rfl⟩
  have hP : va_P D vwCl (tw cs q v_t_tapeSize v_t_textSize v_t_faultKind a_t_tape a_t_text a_g_beyond v_g_size a_g_steps a_h_beyond v_h_size a_h_steps a_r_scratch a_r_now v_r_takes v_r_negative v_r_namePlace v_r_faultKind v_r_faultPlace v_a_size v_a_limit v_a_digits v_a_kind v_a_from v_a_to v_o_size a_o_out v_b_size v_b_limit v_b_digits v_b_kind v_b_from v_b_to a_u_atom a_u_other a_u_hand v_u_marksMade v_u_came v_u_guesses v_u_right v_u_taken a_u_vars a_u_marks a_u_outcomes a_u_indexes v_s_things v_s_looked v_s_lookedTooOften v_s_arraysMade v_s_cellsMade a_s_classes a_s_starts a_s_lengths a_s_cells a_L a_K a_vc a_vd a_si a_sj a_iv a_inn a_ac) H := by rw [hH]; exact hP
  have hS : va_S A s.heap H locs := by rw [hH, hlc]; exact hS
  refine wHL hH hlc ?_
  refine lv_aload_n hx hb dX4_perform_0 rfl (lv_at hl 0 rfl) ?_
  refine lv_aload_n hx hb dX4_perform_1 rfl (lv_at hl 1 rfl) ?_
  refine call_i (As := [.ref s9]) (rest := []) ⟨hx, hb, hml, hown, hts⟩ (tX4_readIndexes (l := l) s9 h_s9 (by first | assumption | omega | (intros; omega) | decide) (by first | assumption | omega | (intros; omega) | decide) (by first | assumption | omega | (intros; omega) | decide)) (cwV 1 hts (gV (wr36 _ (List.mem_of_getElem? (i := 7) rfl)) (wr36 _ (List.mem_of_getElem? (i := 8) rfl)) (wr36 _ (List.mem_of_getElem? (i := 9) rfl)) (wr2 _ (List.mem_of_getElem? (i := 10) rfl)) (wr36 _ (List.mem_of_getElem? (i := 10) rfl))) rfl rfl rfl (by decide +kernel) ⟨Nat.le_of_ble_eq_true rfl, Nat.le_of_ble_eq_true rfl⟩) (va_recv hK hP (ci := 3) (q0 := 12) rfl rfl) hK hP hD hE hS hA rfl hl.1 rfl (Nat.le_of_ble_eq_true rfl) dX4_perform_2 ⟨Nat.le_of_ble_eq_true rfl, Nat.le_of_ble_eq_true rfl⟩ (fun r2 w9 H locs hw2 hP hD hS => ?_)
  obtain ⟨a_u_indexes_2, rfl⟩ := hw2
  have b_r2 := iB r2
  refine lv_istore_n (lv' := [(2, .int r2), (0, .ref (q 12)), (1, .ref s9)]) hx hb dX4_perform_5 rfl hl (by decide) rfl (fun ls hl => ?_)
  refine lv_iload_n hx hb dX4_perform_6 rfl (lv_at hl 0 rfl) ?_
  refine m_if_eq (X := r2.toInt) (tgt := 12) hx hb dX4_perform_7 (by decide) rfl (fun c7 => ?_) (fun c7 => ?_)
  · skip
    refine lv_aload_n hx hb dX4_perform_12 rfl (lv_at hl 1 rfl) ?_
    refine lv_aload_n hx hb dX4_perform_13 rfl (lv_at hl 2 rfl) ?_
    refine call_v (As := [.ref s9]) (rest := []) ⟨hx, hb, hml, hown, hts⟩ (tX4_readAtom (l := l) s9 h_s9 (by first | assumption | omega | (intros; omega) | decide) (by first | assumption | omega | (intros; omega) | decide) (by first | assumption | omega | (intros; omega) | decide)) (cwV 1 hts (gV (wr36 _ (List.mem_of_getElem? (i := 18) rfl)) (wr36 _ (List.mem_of_getElem? (i := 19) rfl)) (wr36 _ (List.mem_of_getElem? (i := 20) rfl)) (wr2 _ (List.mem_of_getElem? (i := 10) rfl)) (wr36 _ (List.mem_of_getElem? (i := 21) rfl))) rfl rfl rfl (by decide +kernel) ⟨Nat.le_of_ble_eq_true rfl, Nat.le_of_ble_eq_true rfl⟩) (va_recv hK hP (ci := 3) (q0 := 12) rfl rfl) hK hP hD hE hS hA rfl hl.1 rfl (Nat.le_of_ble_eq_true rfl) dX4_perform_14 ⟨Nat.le_of_ble_eq_true rfl, Nat.le_of_ble_eq_true rfl⟩ (fun w9 H locs hw14 hP hD hS => ?_)
    obtain ⟨v_s_things_14, a_s_classes_14, a_s_starts_14, a_s_lengths_14, a_vc_14, a_vd_14, rfl, hw14_0⟩ := hw14
    have b_v_s_things_14 := iB v_s_things_14
    refine lv_aload_n hx hb dX4_perform_17 rfl (lv_at hl 2 rfl) ?_
    obtain ⟨k18_, hk18_⟩ := pl_S (X := (twX cs q v_t_tapeSize v_t_textSize v_t_faultKind a_t_tape a_t_text a_g_beyond v_g_size a_g_steps a_h_beyond v_h_size a_h_steps a_r_scratch a_r_now v_r_takes v_r_negative v_r_namePlace v_r_faultKind v_r_faultPlace v_a_size v_a_limit v_a_digits v_a_kind v_a_from v_a_to v_o_size a_o_out v_b_size v_b_limit v_b_digits v_b_kind v_b_from v_b_to a_u_atom a_u_other a_u_hand v_u_marksMade v_u_came v_u_guesses v_u_right v_u_taken a_u_vars a_u_marks a_u_outcomes a_u_indexes_2 v_s_things_14 v_s_looked v_s_lookedTooOften v_s_arraysMade v_s_cellsMade a_s_classes_14 a_s_starts_14 a_s_lengths_14 a_s_cells)) (cI := cs 0) (vc := a_vc_14) (vd := a_vd_14) (si := a_si) (sj := a_sj) (iv := a_iv) (inn := a_inn) (ac := a_ac) h_s9
    refine va_get (D := D) (ci := 5) (v := .int (a_si s9 0)) (C := RX6) (T := TX6) (N := 15) hx hb hts hinX6 hown hK hP k18_ hk18_ rfl 0 (by decide) k_36_4 (fun _ h9 => h9) rfl dX4_perform_18 ?_
    refine lv_topi (fun x18 e_x18 => ?_)
    have b_x18 := iB x18
    have J211 : ∀ (H : Heap) (locs : List Loc) (ls : Array Slot), va_P D vwCl (tw cs q v_t_tapeSize v_t_textSize v_t_faultKind a_t_tape a_t_text a_g_beyond v_g_size a_g_steps a_h_beyond v_h_size a_h_steps a_r_scratch a_r_now v_r_takes v_r_negative v_r_namePlace v_r_faultKind v_r_faultPlace v_a_size v_a_limit v_a_digits v_a_kind v_a_from v_a_to v_o_size a_o_out v_b_size v_b_limit v_b_digits v_b_kind v_b_from v_b_to a_u_atom a_u_other a_u_hand v_u_marksMade v_u_came v_u_guesses v_u_right v_u_taken a_u_vars a_u_marks a_u_outcomes a_u_indexes_2 v_s_things_14 v_s_looked v_s_lookedTooOften v_s_arraysMade v_s_cellsMade a_s_classes_14 a_s_starts_14 a_s_lengths_14 a_s_cells a_L a_K a_vc_14 a_vd_14 a_si a_sj a_iv a_inn a_ac) H → va_D A (tw cs q v_t_tapeSize v_t_textSize v_t_faultKind a_t_tape a_t_text a_g_beyond v_g_size a_g_steps a_h_beyond v_h_size a_h_steps a_r_scratch a_r_now v_r_takes v_r_negative v_r_namePlace v_r_faultKind v_r_faultPlace v_a_size v_a_limit v_a_digits v_a_kind v_a_from v_a_to v_o_size a_o_out v_b_size v_b_limit v_b_digits v_b_kind v_b_from v_b_to a_u_atom a_u_other a_u_hand v_u_marksMade v_u_came v_u_guesses v_u_right v_u_taken a_u_vars a_u_marks a_u_outcomes a_u_indexes_2 v_s_things_14 v_s_looked v_s_lookedTooOften v_s_arraysMade v_s_cellsMade a_s_classes_14 a_s_starts_14 a_s_lengths_14 a_s_cells a_L a_K a_vc_14 a_vd_14 a_si a_sj a_iv a_inn a_ac) → va_S A s.heap H locs → lv_has ls 3 [(0, .ref (q 12)), (1, .ref s9)] → W p l e (headSpec (wG yX4_perform cX4_perform 3 (some .int)) rmX4_perform).room s m ([.ref (q 12), .ref s9] : List Value).toArray below meth c H locs 0 0 Q (F0 m 211 ls []) := by
      intro H locs ls hP hD hS hl
      refine lv_aload_n hx hb dX4_perform_211 rfl (lv_at hl 0 rfl) ?_
      refine lv_aload_n hx hb dX4_perform_212 rfl (lv_at hl 1 rfl) ?_
      refine call_i (As := [.ref s9]) (rest := []) ⟨hx, hb, hml, hown, hts⟩ (tX4_tellPlainly (l := l) s9 h_s9 (by first | assumption | omega | (intros; omega) | decide) (by first | assumption | omega | (intros; omega) | decide) (by first | assumption | omega | (intros; omega) | decide)) (cwV 1 hts (gV (wr46 _ (List.mem_of_getElem? (i := 12) rfl)) (wr46 _ (List.mem_of_getElem? (i := 13) rfl)) (wr46 _ (List.mem_of_getElem? (i := 14) rfl)) (wr2 _ (List.mem_of_getElem? (i := 10) rfl)) (wr46 _ (List.mem_of_getElem? (i := 15) rfl))) rfl rfl rfl (by decide +kernel) ⟨Nat.le_of_ble_eq_true rfl, Nat.le_of_ble_eq_true rfl⟩) (va_recv hK hP (ci := 3) (q0 := 12) rfl rfl) hK hP hD hE hS hA rfl hl.1 rfl (Nat.le_of_ble_eq_true rfl) dX4_perform_213 ⟨Nat.le_of_ble_eq_true rfl, Nat.le_of_ble_eq_true rfl⟩ (fun r213 w9 H locs hw213 hP hD hS => ?_)
      obtain ⟨a_vc_213, a_vd_213, rfl⟩ := hw213
      have b_r213 := iB r213
      subst hAe
      rw [hQ]
      exact W.iret (v := r213) hx hb hr (fun t ht hW => ⟨⟨r213, _, rfl, ⟨v_u_marksMade, a_u_indexes_2, v_s_things_14, v_s_looked, v_s_lookedTooOften, v_s_arraysMade, v_s_cellsMade, a_s_classes_14, a_s_starts_14, a_s_lengths_14, a_s_cells, a_vc_213, a_vd_213, rfl, by first | assumption | omega | (intros; omega) | decide, by first | assumption | omega | (intros; omega) | decide, by first | assumption | omega | (intros; omega) | decide⟩, by rw [ht]; exact hP, va_K.moved hW.alike hK, hD⟩, hS.F ht⟩) hS.2.2 dX4_perform_216
    have J140 : ∀ (H : Heap) (locs : List Loc) (ls : Array Slot), va_P D vwCl (tw cs q v_t_tapeSize v_t_textSize v_t_faultKind a_t_tape a_t_text a_g_beyond v_g_size a_g_steps a_h_beyond v_h_size a_h_steps a_r_scratch a_r_now v_r_takes v_r_negative v_r_namePlace v_r_faultKind v_r_faultPlace v_a_size v_a_limit v_a_digits v_a_kind v_a_from v_a_to v_o_size a_o_out v_b_size v_b_limit v_b_digits v_b_kind v_b_from v_b_to a_u_atom a_u_other a_u_hand v_u_marksMade v_u_came v_u_guesses v_u_right v_u_taken a_u_vars a_u_marks a_u_outcomes a_u_indexes_2 v_s_things_14 v_s_looked v_s_lookedTooOften v_s_arraysMade v_s_cellsMade a_s_classes_14 a_s_starts_14 a_s_lengths_14 a_s_cells a_L a_K a_vc_14 a_vd_14 a_si a_sj a_iv a_inn a_ac) H → va_D A (tw cs q v_t_tapeSize v_t_textSize v_t_faultKind a_t_tape a_t_text a_g_beyond v_g_size a_g_steps a_h_beyond v_h_size a_h_steps a_r_scratch a_r_now v_r_takes v_r_negative v_r_namePlace v_r_faultKind v_r_faultPlace v_a_size v_a_limit v_a_digits v_a_kind v_a_from v_a_to v_o_size a_o_out v_b_size v_b_limit v_b_digits v_b_kind v_b_from v_b_to a_u_atom a_u_other a_u_hand v_u_marksMade v_u_came v_u_guesses v_u_right v_u_taken a_u_vars a_u_marks a_u_outcomes a_u_indexes_2 v_s_things_14 v_s_looked v_s_lookedTooOften v_s_arraysMade v_s_cellsMade a_s_classes_14 a_s_starts_14 a_s_lengths_14 a_s_cells a_L a_K a_vc_14 a_vd_14 a_si a_sj a_iv a_inn a_ac) → va_S A s.heap H locs → lv_has ls 3 [(0, .ref (q 12)), (1, .ref s9)] → W p l e (headSpec (wG yX4_perform cX4_perform 3 (some .int)) rmX4_perform).room s m ([.ref (q 12), .ref s9] : List Value).toArray below meth c H locs 0 0 Q (F0 m 140 ls []) := by
      intro H locs ls hP hD hS hl
      refine lv_aload_n hx hb dX4_perform_140 rfl (lv_at hl 0 rfl) ?_
      refine lv_aload_n hx hb dX4_perform_141 rfl (lv_at hl 1 rfl) ?_
      refine call_i (As := [.ref s9]) (rest := []) ⟨hx, hb, hml, hown, hts⟩ (tX4_usePlace (l := l) s9 h_s9 (by first | assumption | omega | (intros; omega) | decide) (by first | assumption | omega | (intros; omega) | decide) (by first | assumption | omega | (intros; omega) | decide)) (cwV 1 hts (gV (wr37 _ (List.mem_of_getElem? (i := 15) rfl)) (wr37 _ (List.mem_of_getElem? (i := 16) rfl)) (wr37 _ (List.mem_of_getElem? (i := 17) rfl)) (wr2 _ (List.mem_of_getElem? (i := 10) rfl)) (wr37 _ (List.mem_of_getElem? (i := 18) rfl))) rfl rfl rfl (by decide +kernel) ⟨Nat.le_of_ble_eq_true rfl, Nat.le_of_ble_eq_true rfl⟩) (va_recv hK hP (ci := 3) (q0 := 12) rfl rfl) hK hP hD hE hS hA rfl hl.1 rfl (Nat.le_of_ble_eq_true rfl) dX4_perform_142 ⟨Nat.le_of_ble_eq_true rfl, Nat.le_of_ble_eq_true rfl⟩ (fun r142 w9 H locs hw142 hP hD hS => ?_)
      obtain ⟨a_s_cells_142, a_vc_142, a_vd_142, rfl⟩ := hw142
      have b_r142 := iB r142
      subst hAe
      rw [hQ]
      exact W.iret (v := r142) hx hb hr (fun t ht hW => ⟨⟨r142, _, rfl, ⟨v_u_marksMade, a_u_indexes_2, v_s_things_14, v_s_looked, v_s_lookedTooOften, v_s_arraysMade, v_s_cellsMade, a_s_classes_14, a_s_starts_14, a_s_lengths_14, a_s_cells_142, a_vc_142, a_vd_142, rfl, by first | assumption | omega | (intros; omega) | decide, by first | assumption | omega | (intros; omega) | decide, by first | assumption | omega | (intros; omega) | decide⟩, by rw [ht]; exact hP, va_K.moved hW.alike hK, hD⟩, hS.F ht⟩) hS.2.2 dX4_perform_145
    rcases (show (x18.toInt < 1 ∨ 21 < x18.toInt) ∨ x18.toInt = 1 ∨ x18.toInt = 2 ∨ x18.toInt = 3 ∨ x18.toInt = 4 ∨ x18.toInt = 5 ∨ x18.toInt = 6 ∨ x18.toInt = 7 ∨ x18.toInt = 8 ∨ x18.toInt = 9 ∨ x18.toInt = 10 ∨ x18.toInt = 11 ∨ x18.toInt = 12 ∨ x18.toInt = 13 ∨ x18.toInt = 14 ∨ x18.toInt = 15 ∨ x18.toInt = 16 ∨ x18.toInt = 17 ∨ x18.toInt = 18 ∨ x18.toInt = 19 ∨ x18.toInt = 20 ∨ x18.toInt = 21 by omega) with c21 | c21 | c21 | c21 | c21 | c21 | c21 | c21 | c21 | c21 | c21 | c21 | c21 | c21 | c21 | c21 | c21 | c21 | c21 | c21 | c21 | c21
    · skip
      refine lv_tableOut (tgt := 211) hx hb dX4_perform_21 c21 (by decide) ?_
      exact J211 H locs ls hP hD hS (lv_sub hl [1, 2] rfl)
    · skip
      refine lv_tableIn (tgt := 120) (off := 99) hx hb dX4_perform_21 (by omega) (by omega) (by rw [c21]; rfl) (by decide) ?_
      refine lv_aload_n hx hb dX4_perform_120 rfl (lv_at hl 1 rfl) ?_
      refine lv_aload_n hx hb dX4_perform_121 rfl (lv_at hl 2 rfl) ?_
      refine lv_aload_n hx hb dX4_perform_122 rfl (lv_at hl 1 rfl) ?_
      have hf123 : aV a_L a_K a_u_atom := by first | assumption | exact RF.z_uA (by assumption)
      refine va_get (D := D) (ci := 3) (v := .ref a_u_atom) (C := RX4) (T := TX4) (N := 13) hx hb hts hinX4 hown hK hP 12 rfl rfl 5 (by decide) k_4_12 (fun _ h9 => h9) rfl dX4_perform_123 ?_
      obtain ⟨k126_, hk126_⟩ := pl_V (X := (twX cs q v_t_tapeSize v_t_textSize v_t_faultKind a_t_tape a_t_text a_g_beyond v_g_size a_g_steps a_h_beyond v_h_size a_h_steps a_r_scratch a_r_now v_r_takes v_r_negative v_r_namePlace v_r_faultKind v_r_faultPlace v_a_size v_a_limit v_a_digits v_a_kind v_a_from v_a_to v_o_size a_o_out v_b_size v_b_limit v_b_digits v_b_kind v_b_from v_b_to a_u_atom a_u_other a_u_hand v_u_marksMade v_u_came v_u_guesses v_u_right v_u_taken a_u_vars a_u_marks a_u_outcomes a_u_indexes_2 v_s_things_14 v_s_looked v_s_lookedTooOften v_s_arraysMade v_s_cellsMade a_s_classes_14 a_s_starts_14 a_s_lengths_14 a_s_cells)) (cI := cs 0) (vc := a_vc_14) (vd := a_vd_14) (si := a_si) (sj := a_sj) (iv := a_iv) (inn := a_inn) (ac := a_ac) hf123
      refine va_get (D := D) (ci := 7) (v := .int (a_vc_14 a_u_atom)) (C := RX8) (T := TX8) (N := 2) hx hb hts hinX8 hown hK hP k126_ hk126_ rfl 0 (by decide) k_36_5 (fun _ h9 => h9) rfl dX4_perform_126 ?_
      refine lv_topi (fun x126 e_x126 => ?_)
      have b_x126 := iB x126
      refine lv_aload_n hx hb dX4_perform_129 rfl (lv_at hl 1 rfl) ?_
      have hf130 : aV a_L a_K a_u_atom := by first | assumption | exact RF.z_uA (by assumption)
      refine va_get (D := D) (ci := 3) (v := .ref a_u_atom) (C := RX4) (T := TX4) (N := 13) hx hb hts hinX4 hown hK hP 12 rfl rfl 5 (by decide) k_4_12 (fun _ h9 => h9) rfl dX4_perform_130 ?_
      obtain ⟨k133_, hk133_⟩ := pl_V (X := (twX cs q v_t_tapeSize v_t_textSize v_t_faultKind a_t_tape a_t_text a_g_beyond v_g_size a_g_steps a_h_beyond v_h_size a_h_steps a_r_scratch a_r_now v_r_takes v_r_negative v_r_namePlace v_r_faultKind v_r_faultPlace v_a_size v_a_limit v_a_digits v_a_kind v_a_from v_a_to v_o_size a_o_out v_b_size v_b_limit v_b_digits v_b_kind v_b_from v_b_to a_u_atom a_u_other a_u_hand v_u_marksMade v_u_came v_u_guesses v_u_right v_u_taken a_u_vars a_u_marks a_u_outcomes a_u_indexes_2 v_s_things_14 v_s_looked v_s_lookedTooOften v_s_arraysMade v_s_cellsMade a_s_classes_14 a_s_starts_14 a_s_lengths_14 a_s_cells)) (cI := cs 0) (vc := a_vc_14) (vd := a_vd_14) (si := a_si) (sj := a_sj) (iv := a_iv) (inn := a_inn) (ac := a_ac) hf130
      refine va_get (D := D) (ci := 7) (v := .long (a_vd_14 a_u_atom)) (C := RX8) (T := TX8) (N := 2) hx hb hts hinX8 hown hK hP k133_ hk133_ rfl 1 (by decide) k_36_6 (fun _ h9 => h9) rfl dX4_perform_133 ?_
      refine lv_topl (fun x133 e_x133 => ?_)
      have b_x133 := jB x133
      refine call_i (As := [.ref s9, .int x126, .long x133]) (rest := []) ⟨hx, hb, hml, hown, hts⟩ (tX4_tell (l := l) s9 h_s9 x126 x133 (by first | assumption | omega | (intros; omega) | decide)) (cwV 3 hts (gV (wr37 _ (List.mem_of_getElem? (i := 10) rfl)) (wr37 _ (List.mem_of_getElem? (i := 11) rfl)) (wr37 _ (List.mem_of_getElem? (i := 12) rfl)) (wr2 _ (List.mem_of_getElem? (i := 10) rfl)) (wr37 _ (List.mem_of_getElem? (i := 13) rfl))) rfl rfl rfl (by decide +kernel) ⟨Nat.le_of_ble_eq_true rfl, Nat.le_of_ble_eq_true rfl⟩) (va_recv hK hP (ci := 3) (q0 := 12) rfl rfl) hK hP hD hE hS hA rfl hl.1 rfl (Nat.le_of_ble_eq_true rfl) dX4_perform_136 ⟨Nat.le_of_ble_eq_true rfl, Nat.le_of_ble_eq_true rfl⟩ (fun r136 w9 H locs hw136 hP hD hS => ?_)
      obtain ⟨a_vc_136, a_vd_136, rfl, hw136_0⟩ := hw136
      have b_r136 := iB r136
      subst hAe
      rw [hQ]
      exact W.iret (v := r136) hx hb hr (fun t ht hW => ⟨⟨r136, _, rfl, ⟨v_u_marksMade, a_u_indexes_2, v_s_things_14, v_s_looked, v_s_lookedTooOften, v_s_arraysMade, v_s_cellsMade, a_s_classes_14, a_s_starts_14, a_s_lengths_14, a_s_cells, a_vc_136, a_vd_136, rfl, by first | assumption | omega | (intros; omega) | decide, by first | assumption | omega | (intros; omega) | decide, by first | assumption | omega | (intros; omega) | decide⟩, by rw [ht]; exact hP, va_K.moved hW.alike hK, hD⟩, hS.F ht⟩) hS.2.2 dX4_perform_139
    · skip
      refine lv_tableIn (tgt := 140) (off := 119) hx hb dX4_perform_21 (by omega) (by omega) (by rw [c21]; rfl) (by decide) ?_
      exact J140 H locs ls hP hD hS (lv_sub hl [1, 2] rfl)
    · skip
      refine lv_tableIn (tgt := 140) (off := 119) hx hb dX4_perform_21 (by omega) (by omega) (by rw [c21]; rfl) (by decide) ?_
      exact J140 H locs ls hP hD hS (lv_sub hl [1, 2] rfl)
    · skip
      refine lv_tableIn (tgt := 140) (off := 119) hx hb dX4_perform_21 (by omega) (by omega) (by rw [c21]; rfl) (by decide) ?_
      exact J140 H locs ls hP hD hS (lv_sub hl [1, 2] rfl)
    · skip
      refine lv_tableIn (tgt := 140) (off := 119) hx hb dX4_perform_21 (by omega) (by omega) (by rw [c21]; rfl) (by decide) ?_
      exact J140 H locs ls hP hD hS (lv_sub hl [1, 2] rfl)
    · skip
      refine lv_tableIn (tgt := 140) (off := 119) hx hb dX4_perform_21 (by omega) (by omega) (by rw [c21]; rfl) (by decide) ?_
      exact J140 H locs ls hP hD hS (lv_sub hl [1, 2] rfl)
    · skip
      refine lv_tableIn (tgt := 140) (off := 119) hx hb dX4_perform_21 (by omega) (by omega) (by rw [c21]; rfl) (by decide) ?_
      exact J140 H locs ls hP hD hS (lv_sub hl [1, 2] rfl)
    · skip
      refine lv_tableIn (tgt := 146) (off := 125) hx hb dX4_perform_21 (by omega) (by omega) (by rw [c21]; rfl) (by decide) ?_
      refine lv_aload_n hx hb dX4_perform_146 rfl (lv_at hl 1 rfl) ?_
      refine lv_aload_n hx hb dX4_perform_147 rfl (lv_at hl 2 rfl) ?_
      refine call_i (As := [.ref s9]) (rest := []) ⟨hx, hb, hml, hown, hts⟩ (tX4_makeArrays (l := l) s9 h_s9 (by first | assumption | omega | (intros; omega) | decide) (by first | assumption | omega | (intros; omega) | decide) (by first | assumption | omega | (intros; omega) | decide)) (cwV 1 hts (gV (wr41 _ (List.mem_of_getElem? (i := 2) rfl)) (wr41 _ (List.mem_of_getElem? (i := 3) rfl)) (wr41 _ (List.mem_of_getElem? (i := 4) rfl)) (wr2 _ (List.mem_of_getElem? (i := 10) rfl)) (wr41 _ (List.mem_of_getElem? (i := 5) rfl))) rfl rfl rfl (by decide +kernel) ⟨Nat.le_of_ble_eq_true rfl, Nat.le_of_ble_eq_true rfl⟩) (va_recv hK hP (ci := 3) (q0 := 12) rfl rfl) hK hP hD hE hS hA rfl hl.1 rfl (Nat.le_of_ble_eq_true rfl) dX4_perform_148 ⟨Nat.le_of_ble_eq_true rfl, Nat.le_of_ble_eq_true rfl⟩ (fun r148 w9 H locs hw148 hP hD hS => ?_)
      obtain ⟨v_s_things_148, v_s_arraysMade_148, v_s_cellsMade_148, a_s_classes_148, a_s_starts_148, a_s_lengths_148, a_s_cells_148, a_vc_148, a_vd_148, rfl, hw148_0⟩ := hw148
      have b_v_s_things_148 := iB v_s_things_148
      have b_v_s_arraysMade_148 := iB v_s_arraysMade_148
      have b_v_s_cellsMade_148 := iB v_s_cellsMade_148
      have b_r148 := iB r148
      subst hAe
      rw [hQ]
      exact W.iret (v := r148) hx hb hr (fun t ht hW => ⟨⟨r148, _, rfl, ⟨v_u_marksMade, a_u_indexes_2, v_s_things_148, v_s_looked, v_s_lookedTooOften, v_s_arraysMade_148, v_s_cellsMade_148, a_s_classes_148, a_s_starts_148, a_s_lengths_148, a_s_cells_148, a_vc_148, a_vd_148, rfl, by first | assumption | omega | (intros; omega) | decide, by first | assumption | omega | (intros; omega) | decide, by first | assumption | omega | (intros; omega) | decide⟩, by rw [ht]; exact hP, va_K.moved hW.alike hK, hD⟩, hS.F ht⟩) hS.2.2 dX4_perform_151
    · skip
      refine lv_tableIn (tgt := 152) (off := 131) hx hb dX4_perform_21 (by omega) (by omega) (by rw [c21]; rfl) (by decide) ?_
      refine lv_aload_n hx hb dX4_perform_152 rfl (lv_at hl 1 rfl) ?_
      refine lv_aload_n hx hb dX4_perform_153 rfl (lv_at hl 2 rfl) ?_
      refine call_i (As := [.ref s9]) (rest := []) ⟨hx, hb, hml, hown, hts⟩ (tX4_cloneArray (l := l) s9 h_s9 (by first | assumption | omega | (intros; omega) | decide) (by first | assumption | omega | (intros; omega) | decide) (by first | assumption | omega | (intros; omega) | decide)) (cwV 1 hts (gV (wr41 _ (List.mem_of_getElem? (i := 23) rfl)) (wr42 _ (List.mem_of_getElem? (i := 0) rfl)) (wr42 _ (List.mem_of_getElem? (i := 1) rfl)) (wr2 _ (List.mem_of_getElem? (i := 10) rfl)) (wr42 _ (List.mem_of_getElem? (i := 2) rfl))) rfl rfl rfl (by decide +kernel) ⟨Nat.le_of_ble_eq_true rfl, Nat.le_of_ble_eq_true rfl⟩) (va_recv hK hP (ci := 3) (q0 := 12) rfl rfl) hK hP hD hE hS hA rfl hl.1 rfl (Nat.le_of_ble_eq_true rfl) dX4_perform_154 ⟨Nat.le_of_ble_eq_true rfl, Nat.le_of_ble_eq_true rfl⟩ (fun r154 w9 H locs hw154 hP hD hS => ?_)
      obtain ⟨v_s_things_154, v_s_arraysMade_154, v_s_cellsMade_154, a_s_classes_154, a_s_starts_154, a_s_lengths_154, a_s_cells_154, a_vc_154, a_vd_154, rfl, hw154_0⟩ := hw154
      have b_v_s_things_154 := iB v_s_things_154
      have b_v_s_arraysMade_154 := iB v_s_arraysMade_154
      have b_v_s_cellsMade_154 := iB v_s_cellsMade_154
      have b_r154 := iB r154
      subst hAe
      rw [hQ]
      exact W.iret (v := r154) hx hb hr (fun t ht hW => ⟨⟨r154, _, rfl, ⟨v_u_marksMade, a_u_indexes_2, v_s_things_154, v_s_looked, v_s_lookedTooOften, v_s_arraysMade_154, v_s_cellsMade_154, a_s_classes_154, a_s_starts_154, a_s_lengths_154, a_s_cells_154, a_vc_154, a_vd_154, rfl, by first | assumption | omega | (intros; omega) | decide, by first | assumption | omega | (intros; omega) | decide, by first | assumption | omega | (intros; omega) | decide⟩, by rw [ht]; exact hP, va_K.moved hW.alike hK, hD⟩, hS.F ht⟩) hS.2.2 dX4_perform_157
    · skip
      refine lv_tableIn (tgt := 158) (off := 137) hx hb dX4_perform_21 (by omega) (by omega) (by rw [c21]; rfl) (by decide) ?_
      refine lv_aload_n hx hb dX4_perform_158 rfl (lv_at hl 1 rfl) ?_
      refine lv_aload_n hx hb dX4_perform_159 rfl (lv_at hl 2 rfl) ?_
      refine call_i (As := [.ref s9]) (rest := []) ⟨hx, hb, hml, hown, hts⟩ (tX4_castValue (l := l) s9 h_s9 (by first | assumption | omega | (intros; omega) | decide) (by first | assumption | omega | (intros; omega) | decide) (by first | assumption | omega | (intros; omega) | decide)) (cwV 1 hts (gV (wr42 _ (List.mem_of_getElem? (i := 13) rfl)) (wr42 _ (List.mem_of_getElem? (i := 14) rfl)) (wr42 _ (List.mem_of_getElem? (i := 15) rfl)) (wr2 _ (List.mem_of_getElem? (i := 10) rfl)) (wr42 _ (List.mem_of_getElem? (i := 16) rfl))) rfl rfl rfl (by decide +kernel) ⟨Nat.le_of_ble_eq_true rfl, Nat.le_of_ble_eq_true rfl⟩) (va_recv hK hP (ci := 3) (q0 := 12) rfl rfl) hK hP hD hE hS hA rfl hl.1 rfl (Nat.le_of_ble_eq_true rfl) dX4_perform_160 ⟨Nat.le_of_ble_eq_true rfl, Nat.le_of_ble_eq_true rfl⟩ (fun r160 w9 H locs hw160 hP hD hS => ?_)
      obtain ⟨a_vc_160, a_vd_160, rfl⟩ := hw160
      have b_r160 := iB r160
      subst hAe
      rw [hQ]
      exact W.iret (v := r160) hx hb hr (fun t ht hW => ⟨⟨r160, _, rfl, ⟨v_u_marksMade, a_u_indexes_2, v_s_things_14, v_s_looked, v_s_lookedTooOften, v_s_arraysMade, v_s_cellsMade, a_s_classes_14, a_s_starts_14, a_s_lengths_14, a_s_cells, a_vc_160, a_vd_160, rfl, by first | assumption | omega | (intros; omega) | decide, by first | assumption | omega | (intros; omega) | decide, by first | assumption | omega | (intros; omega) | decide⟩, by rw [ht]; exact hP, va_K.moved hW.alike hK, hD⟩, hS.F ht⟩) hS.2.2 dX4_perform_163
    · skip
      refine lv_tableIn (tgt := 211) (off := 190) hx hb dX4_perform_21 (by omega) (by omega) (by rw [c21]; rfl) (by decide) ?_
      exact J211 H locs ls hP hD hS (lv_sub hl [1, 2] rfl)
    · skip
      refine lv_tableIn (tgt := 211) (off := 190) hx hb dX4_perform_21 (by omega) (by omega) (by rw [c21]; rfl) (by decide) ?_
      exact J211 H locs ls hP hD hS (lv_sub hl [1, 2] rfl)
    · skip
      refine lv_tableIn (tgt := 164) (off := 143) hx hb dX4_perform_21 (by omega) (by omega) (by rw [c21]; rfl) (by decide) ?_
      refine lv_aload_n hx hb dX4_perform_164 rfl (lv_at hl 1 rfl) ?_
      refine lv_aload_n hx hb dX4_perform_165 rfl (lv_at hl 2 rfl) ?_
      refine call_i (As := [.ref s9]) (rest := []) ⟨hx, hb, hml, hown, hts⟩ (tX4_tellLength (l := l) s9 h_s9 (by first | assumption | omega | (intros; omega) | decide) (by first | assumption | omega | (intros; omega) | decide) (by first | assumption | omega | (intros; omega) | decide)) (cwV 1 hts (gV (wr42 _ (List.mem_of_getElem? (i := 18) rfl)) (wr42 _ (List.mem_of_getElem? (i := 19) rfl)) (wr42 _ (List.mem_of_getElem? (i := 20) rfl)) (wr2 _ (List.mem_of_getElem? (i := 10) rfl)) (wr42 _ (List.mem_of_getElem? (i := 21) rfl))) rfl rfl rfl (by decide +kernel) ⟨Nat.le_of_ble_eq_true rfl, Nat.le_of_ble_eq_true rfl⟩) (va_recv hK hP (ci := 3) (q0 := 12) rfl rfl) hK hP hD hE hS hA rfl hl.1 rfl (Nat.le_of_ble_eq_true rfl) dX4_perform_166 ⟨Nat.le_of_ble_eq_true rfl, Nat.le_of_ble_eq_true rfl⟩ (fun r166 w9 H locs hw166 hP hD hS => ?_)
      obtain ⟨a_vc_166, a_vd_166, rfl⟩ := hw166
      have b_r166 := iB r166
      subst hAe
      rw [hQ]
      exact W.iret (v := r166) hx hb hr (fun t ht hW => ⟨⟨r166, _, rfl, ⟨v_u_marksMade, a_u_indexes_2, v_s_things_14, v_s_looked, v_s_lookedTooOften, v_s_arraysMade, v_s_cellsMade, a_s_classes_14, a_s_starts_14, a_s_lengths_14, a_s_cells, a_vc_166, a_vd_166, rfl, by first | assumption | omega | (intros; omega) | decide, by first | assumption | omega | (intros; omega) | decide, by first | assumption | omega | (intros; omega) | decide⟩, by rw [ht]; exact hP, va_K.moved hW.alike hK, hD⟩, hS.F ht⟩) hS.2.2 dX4_perform_169
    · skip
      refine lv_tableIn (tgt := 211) (off := 190) hx hb dX4_perform_21 (by omega) (by omega) (by rw [c21]; rfl) (by decide) ?_
      exact J211 H locs ls hP hD hS (lv_sub hl [1, 2] rfl)
    · skip
      refine lv_tableIn (tgt := 170) (off := 149) hx hb dX4_perform_21 (by omega) (by omega) (by rw [c21]; rfl) (by decide) ?_
      refine lv_aload_n hx hb dX4_perform_170 rfl (lv_at hl 1 rfl) ?_
      refine lv_aload_n hx hb dX4_perform_171 rfl (lv_at hl 2 rfl) ?_
      refine call_i (As := [.ref s9]) (rest := []) ⟨hx, hb, hml, hown, hts⟩ (tX4_tellHash (l := l) s9 h_s9 (by first | assumption | omega | (intros; omega) | decide) (by first | assumption | omega | (intros; omega) | decide) (by first | assumption | omega | (intros; omega) | decide)) (cwV 1 hts (gV (wr42 _ (List.mem_of_getElem? (i := 22) rfl)) (wr42 _ (List.mem_of_getElem? (i := 23) rfl)) (wr43 _ (List.mem_of_getElem? (i := 0) rfl)) (wr2 _ (List.mem_of_getElem? (i := 10) rfl)) (wr43 _ (List.mem_of_getElem? (i := 1) rfl))) rfl rfl rfl (by decide +kernel) ⟨Nat.le_of_ble_eq_true rfl, Nat.le_of_ble_eq_true rfl⟩) (va_recv hK hP (ci := 3) (q0 := 12) rfl rfl) hK hP hD hE hS hA rfl hl.1 rfl (Nat.le_of_ble_eq_true rfl) dX4_perform_172 ⟨Nat.le_of_ble_eq_true rfl, Nat.le_of_ble_eq_true rfl⟩ (fun r172 w9 H locs hw172 hP hD hS => ?_)
      obtain ⟨v_s_looked_172, v_s_lookedTooOften_172, a_vc_172, a_vd_172, rfl⟩ := hw172
      have b_v_s_looked_172 := iB v_s_looked_172
      have b_v_s_lookedTooOften_172 := iB v_s_lookedTooOften_172
      have b_r172 := iB r172
      subst hAe
      rw [hQ]
      exact W.iret (v := r172) hx hb hr (fun t ht hW => ⟨⟨r172, _, rfl, ⟨v_u_marksMade, a_u_indexes_2, v_s_things_14, v_s_looked_172, v_s_lookedTooOften_172, v_s_arraysMade, v_s_cellsMade, a_s_classes_14, a_s_starts_14, a_s_lengths_14, a_s_cells, a_vc_172, a_vd_172, rfl, by first | assumption | omega | (intros; omega) | decide, by first | assumption | omega | (intros; omega) | decide, by first | assumption | omega | (intros; omega) | decide⟩, by rw [ht]; exact hP, va_K.moved hW.alike hK, hD⟩, hS.F ht⟩) hS.2.2 dX4_perform_175
    · skip
      refine lv_tableIn (tgt := 176) (off := 155) hx hb dX4_perform_21 (by omega) (by omega) (by rw [c21]; rfl) (by decide) ?_
      refine lv_aload_n hx hb dX4_perform_176 rfl (lv_at hl 1 rfl) ?_
      refine lv_aload_n hx hb dX4_perform_177 rfl (lv_at hl 2 rfl) ?_
      refine call_i (As := [.ref s9]) (rest := []) ⟨hx, hb, hml, hown, hts⟩ (tX4_tellEqual (l := l) s9 h_s9 (by first | assumption | omega | (intros; omega) | decide) (by first | assumption | omega | (intros; omega) | decide) (by first | assumption | omega | (intros; omega) | decide)) (cwV 1 hts (gV (wr44 _ (List.mem_of_getElem? (i := 1) rfl)) (wr44 _ (List.mem_of_getElem? (i := 2) rfl)) (wr44 _ (List.mem_of_getElem? (i := 3) rfl)) (wr2 _ (List.mem_of_getElem? (i := 10) rfl)) (wr44 _ (List.mem_of_getElem? (i := 4) rfl))) rfl rfl rfl (by decide +kernel) ⟨Nat.le_of_ble_eq_true rfl, Nat.le_of_ble_eq_true rfl⟩) (va_recv hK hP (ci := 3) (q0 := 12) rfl rfl) hK hP hD hE hS hA rfl hl.1 rfl (Nat.le_of_ble_eq_true rfl) dX4_perform_178 ⟨Nat.le_of_ble_eq_true rfl, Nat.le_of_ble_eq_true rfl⟩ (fun r178 w9 H locs hw178 hP hD hS => ?_)
      obtain ⟨v_s_looked_178, v_s_lookedTooOften_178, a_vc_178, a_vd_178, rfl⟩ := hw178
      have b_v_s_looked_178 := iB v_s_looked_178
      have b_v_s_lookedTooOften_178 := iB v_s_lookedTooOften_178
      have b_r178 := iB r178
      subst hAe
      rw [hQ]
      exact W.iret (v := r178) hx hb hr (fun t ht hW => ⟨⟨r178, _, rfl, ⟨v_u_marksMade, a_u_indexes_2, v_s_things_14, v_s_looked_178, v_s_lookedTooOften_178, v_s_arraysMade, v_s_cellsMade, a_s_classes_14, a_s_starts_14, a_s_lengths_14, a_s_cells, a_vc_178, a_vd_178, rfl, by first | assumption | omega | (intros; omega) | decide, by first | assumption | omega | (intros; omega) | decide, by first | assumption | omega | (intros; omega) | decide⟩, by rw [ht]; exact hP, va_K.moved hW.alike hK, hD⟩, hS.F ht⟩) hS.2.2 dX4_perform_181
    · skip
      refine lv_tableIn (tgt := 182) (off := 161) hx hb dX4_perform_21 (by omega) (by omega) (by rw [c21]; rfl) (by decide) ?_
      refine lv_aload_n hx hb dX4_perform_182 rfl (lv_at hl 1 rfl) ?_
      refine lv_aload_n hx hb dX4_perform_183 rfl (lv_at hl 2 rfl) ?_
      refine call_i (As := [.ref s9]) (rest := []) ⟨hx, hb, hml, hown, hts⟩ (tX4_copyCells (l := l) s9 h_s9 (by first | assumption | omega | (intros; omega) | decide) (by first | assumption | omega | (intros; omega) | decide) (by first | assumption | omega | (intros; omega) | decide)) (cwV 1 hts (gV (wr44 _ (List.mem_of_getElem? (i := 18) rfl)) (wr44 _ (List.mem_of_getElem? (i := 19) rfl)) (wr44 _ (List.mem_of_getElem? (i := 20) rfl)) (wr2 _ (List.mem_of_getElem? (i := 10) rfl)) (wr44 _ (List.mem_of_getElem? (i := 21) rfl))) rfl rfl rfl (by decide +kernel) ⟨Nat.le_of_ble_eq_true rfl, Nat.le_of_ble_eq_true rfl⟩) (va_recv hK hP (ci := 3) (q0 := 12) rfl rfl) hK hP hD hE hS hA rfl hl.1 rfl (Nat.le_of_ble_eq_true rfl) dX4_perform_184 ⟨Nat.le_of_ble_eq_true rfl, Nat.le_of_ble_eq_true rfl⟩ (fun r184 w9 H locs hw184 hP hD hS => ?_)
      obtain ⟨a_s_cells_184, rfl⟩ := hw184
      have b_r184 := iB r184
      subst hAe
      rw [hQ]
      exact W.iret (v := r184) hx hb hr (fun t ht hW => ⟨⟨r184, _, rfl, ⟨v_u_marksMade, a_u_indexes_2, v_s_things_14, v_s_looked, v_s_lookedTooOften, v_s_arraysMade, v_s_cellsMade, a_s_classes_14, a_s_starts_14, a_s_lengths_14, a_s_cells_184, a_vc_14, a_vd_14, rfl, by first | assumption | omega | (intros; omega) | decide, by first | assumption | omega | (intros; omega) | decide, by first | assumption | omega | (intros; omega) | decide⟩, by rw [ht]; exact hP, va_K.moved hW.alike hK, hD⟩, hS.F ht⟩) hS.2.2 dX4_perform_187
    · skip
      refine lv_tableIn (tgt := 188) (off := 167) hx hb dX4_perform_21 (by omega) (by omega) (by rw [c21]; rfl) (by decide) ?_
      refine lv_aload_n hx hb dX4_perform_188 rfl (lv_at hl 1 rfl) ?_
      refine lv_aload_n hx hb dX4_perform_189 rfl (lv_at hl 2 rfl) ?_
      refine call_i (As := [.ref s9]) (rest := []) ⟨hx, hb, hml, hown, hts⟩ (tX4_fillCells (l := l) s9 h_s9 (by first | assumption | omega | (intros; omega) | decide) (by first | assumption | omega | (intros; omega) | decide) (by first | assumption | omega | (intros; omega) | decide)) (cwV 1 hts (gV (wr45 _ (List.mem_of_getElem? (i := 16) rfl)) (wr45 _ (List.mem_of_getElem? (i := 17) rfl)) (wr45 _ (List.mem_of_getElem? (i := 18) rfl)) (wr2 _ (List.mem_of_getElem? (i := 10) rfl)) (wr45 _ (List.mem_of_getElem? (i := 19) rfl))) rfl rfl rfl (by decide +kernel) ⟨Nat.le_of_ble_eq_true rfl, Nat.le_of_ble_eq_true rfl⟩) (va_recv hK hP (ci := 3) (q0 := 12) rfl rfl) hK hP hD hE hS hA rfl hl.1 rfl (Nat.le_of_ble_eq_true rfl) dX4_perform_190 ⟨Nat.le_of_ble_eq_true rfl, Nat.le_of_ble_eq_true rfl⟩ (fun r190 w9 H locs hw190 hP hD hS => ?_)
      obtain ⟨a_s_cells_190, rfl⟩ := hw190
      have b_r190 := iB r190
      subst hAe
      rw [hQ]
      exact W.iret (v := r190) hx hb hr (fun t ht hW => ⟨⟨r190, _, rfl, ⟨v_u_marksMade, a_u_indexes_2, v_s_things_14, v_s_looked, v_s_lookedTooOften, v_s_arraysMade, v_s_cellsMade, a_s_classes_14, a_s_starts_14, a_s_lengths_14, a_s_cells_190, a_vc_14, a_vd_14, rfl, by first | assumption | omega | (intros; omega) | decide, by first | assumption | omega | (intros; omega) | decide, by first | assumption | omega | (intros; omega) | decide⟩, by rw [ht]; exact hP, va_K.moved hW.alike hK, hD⟩, hS.F ht⟩) hS.2.2 dX4_perform_193
    · skip
      refine lv_tableIn (tgt := 194) (off := 173) hx hb dX4_perform_21 (by omega) (by omega) (by rw [c21]; rfl) (by decide) ?_
      refine lv_aload_n hx hb dX4_perform_194 rfl (lv_at hl 1 rfl) ?_
      refine lv_aload_n hx hb dX4_perform_195 rfl (lv_at hl 2 rfl) ?_
      refine call_i (As := [.ref s9]) (rest := []) ⟨hx, hb, hml, hown, hts⟩ (tX4_swapCells (l := l) s9 h_s9 (by first | assumption | omega | (intros; omega) | decide) (by first | assumption | omega | (intros; omega) | decide) (by first | assumption | omega | (intros; omega) | decide)) (cwV 1 hts (gV (wr45 _ (List.mem_of_getElem? (i := 20) rfl)) (wr45 _ (List.mem_of_getElem? (i := 21) rfl)) (wr45 _ (List.mem_of_getElem? (i := 22) rfl)) (wr2 _ (List.mem_of_getElem? (i := 10) rfl)) (wr45 _ (List.mem_of_getElem? (i := 23) rfl))) rfl rfl rfl (by decide +kernel) ⟨Nat.le_of_ble_eq_true rfl, Nat.le_of_ble_eq_true rfl⟩) (va_recv hK hP (ci := 3) (q0 := 12) rfl rfl) hK hP hD hE hS hA rfl hl.1 rfl (Nat.le_of_ble_eq_true rfl) dX4_perform_196 ⟨Nat.le_of_ble_eq_true rfl, Nat.le_of_ble_eq_true rfl⟩ (fun r196 w9 H locs hw196 hP hD hS => ?_)
      obtain ⟨a_s_cells_196, rfl⟩ := hw196
      have b_r196 := iB r196
      subst hAe
      rw [hQ]
      exact W.iret (v := r196) hx hb hr (fun t ht hW => ⟨⟨r196, _, rfl, ⟨v_u_marksMade, a_u_indexes_2, v_s_things_14, v_s_looked, v_s_lookedTooOften, v_s_arraysMade, v_s_cellsMade, a_s_classes_14, a_s_starts_14, a_s_lengths_14, a_s_cells_196, a_vc_14, a_vd_14, rfl, by first | assumption | omega | (intros; omega) | decide, by first | assumption | omega | (intros; omega) | decide, by first | assumption | omega | (intros; omega) | decide⟩, by rw [ht]; exact hP, va_K.moved hW.alike hK, hD⟩, hS.F ht⟩) hS.2.2 dX4_perform_199
    · skip
      refine lv_tableIn (tgt := 200) (off := 179) hx hb dX4_perform_21 (by omega) (by omega) (by rw [c21]; rfl) (by decide) ?_
      refine lv_aload_n hx hb dX4_perform_200 rfl (lv_at hl 1 rfl) ?_
      refine lv_aload_n hx hb dX4_perform_201 rfl (lv_at hl 2 rfl) ?_
      refine call_i (As := [.ref s9]) (rest := []) ⟨hx, hb, hml, hown, hts⟩ (tX4_turnCells (l := l) s9 h_s9 (by first | assumption | omega | (intros; omega) | decide) (by first | assumption | omega | (intros; omega) | decide) (by first | assumption | omega | (intros; omega) | decide)) (cwV 1 hts (gV (wr46 _ (List.mem_of_getElem? (i := 4) rfl)) (wr46 _ (List.mem_of_getElem? (i := 5) rfl)) (wr46 _ (List.mem_of_getElem? (i := 6) rfl)) (wr2 _ (List.mem_of_getElem? (i := 10) rfl)) (wr46 _ (List.mem_of_getElem? (i := 7) rfl))) rfl rfl rfl (by decide +kernel) ⟨Nat.le_of_ble_eq_true rfl, Nat.le_of_ble_eq_true rfl⟩) (va_recv hK hP (ci := 3) (q0 := 12) rfl rfl) hK hP hD hE hS hA rfl hl.1 rfl (Nat.le_of_ble_eq_true rfl) dX4_perform_202 ⟨Nat.le_of_ble_eq_true rfl, Nat.le_of_ble_eq_true rfl⟩ (fun r202 w9 H locs hw202 hP hD hS => ?_)
      obtain ⟨a_s_cells_202, rfl⟩ := hw202
      have b_r202 := iB r202
      subst hAe
      rw [hQ]
      exact W.iret (v := r202) hx hb hr (fun t ht hW => ⟨⟨r202, _, rfl, ⟨v_u_marksMade, a_u_indexes_2, v_s_things_14, v_s_looked, v_s_lookedTooOften, v_s_arraysMade, v_s_cellsMade, a_s_classes_14, a_s_starts_14, a_s_lengths_14, a_s_cells_202, a_vc_14, a_vd_14, rfl, by first | assumption | omega | (intros; omega) | decide, by first | assumption | omega | (intros; omega) | decide, by first | assumption | omega | (intros; omega) | decide⟩, by rw [ht]; exact hP, va_K.moved hW.alike hK, hD⟩, hS.F ht⟩) hS.2.2 dX4_perform_205
    · skip
      refine lv_tableIn (tgt := 206) (off := 185) hx hb dX4_perform_21 (by omega) (by omega) (by rw [c21]; rfl) (by decide) ?_
      refine lv_aload_n hx hb dX4_perform_206 rfl (lv_at hl 1 rfl) ?_
      refine call_i (As := []) (rest := []) ⟨hx, hb, hml, hown, hts⟩ (tX4_keepMark (l := l)  (by first | assumption | omega | (intros; omega) | decide) (by first | assumption | omega | (intros; omega) | decide) (by first | assumption | omega | (intros; omega) | decide) (by first | assumption | omega | (intros; omega) | decide)) (cwV 0 hts (gV (wr46 _ (List.mem_of_getElem? (i := 8) rfl)) (wr46 _ (List.mem_of_getElem? (i := 9) rfl)) (wr46 _ (List.mem_of_getElem? (i := 10) rfl)) (wr2 _ (List.mem_of_getElem? (i := 10) rfl)) (wr46 _ (List.mem_of_getElem? (i := 11) rfl))) rfl rfl rfl (by decide +kernel) ⟨Nat.le_of_ble_eq_true rfl, Nat.le_of_ble_eq_true rfl⟩) (va_recv hK hP (ci := 3) (q0 := 12) rfl rfl) hK hP hD hE hS hA rfl hl.1 rfl (Nat.le_of_ble_eq_true rfl) dX4_perform_207 ⟨Nat.le_of_ble_eq_true rfl, Nat.le_of_ble_eq_true rfl⟩ (fun r207 w9 H locs hw207 hP hD hS => ?_)
      obtain ⟨v_u_marksMade_207, a_vc_207, a_vd_207, rfl, hw207_0, hw207_1⟩ := hw207
      have b_v_u_marksMade_207 := iB v_u_marksMade_207
      have b_r207 := iB r207
      subst hAe
      rw [hQ]
      exact W.iret (v := r207) hx hb hr (fun t ht hW => ⟨⟨r207, _, rfl, ⟨v_u_marksMade_207, a_u_indexes_2, v_s_things_14, v_s_looked, v_s_lookedTooOften, v_s_arraysMade, v_s_cellsMade, a_s_classes_14, a_s_starts_14, a_s_lengths_14, a_s_cells, a_vc_207, a_vd_207, rfl, by first | assumption | omega | (intros; omega) | decide, by first | assumption | omega | (intros; omega) | decide, by first | assumption | omega | (intros; omega) | decide⟩, by rw [ht]; exact hP, va_K.moved hW.alike hK, hD⟩, hS.F ht⟩) hS.2.2 dX4_perform_210
  · skip
    refine lv_iload_n hx hb dX4_perform_10 rfl (lv_at hl 0 rfl) ?_
    subst hAe
    rw [hQ]
    exact W.iret (v := r2) hx hb hr (fun t ht hW => ⟨⟨r2, _, rfl, ⟨v_u_marksMade, a_u_indexes_2, v_s_things, v_s_looked, v_s_lookedTooOften, v_s_arraysMade, v_s_cellsMade, a_s_classes, a_s_starts, a_s_lengths, a_s_cells, a_vc, a_vd, rfl, by first | assumption | omega | (intros; omega) | decide, by first | assumption | omega | (intros; omega) | decide, by first | assumption | omega | (intros; omega) | decide⟩, by rw [ht]; exact hP, va_K.moved hW.alike hK, hD⟩, hS.F ht⟩) hS.2.2 dX4_perform_11
