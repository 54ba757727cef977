def rmX8_become : Room := { frames := 20, cells := 0, slots := 0, locals := 400 }
set_option maxHeartbeats 4000000 in
set_option maxRecDepth 100000 in
theorem tX8_become {l : Launch} {D : va_G} {K : Nat → Nat → Nat} {cs : Nat → ClassId} {q : Nat → Nat} {v_t_tapeSize v_t_textSize v_t_faultKind v_g_size v_h_size v_r_takes v_r_negative v_r_namePlace v_r_faultKind v_r_faultPlace v_a_size v_a_limit v_a_digits v_a_kind v_a_from v_a_to v_o_size v_b_size v_b_limit v_b_digits v_b_kind v_b_from v_b_to v_u_marksMade v_u_came v_u_guesses v_u_right v_u_taken v_s_things v_s_looked v_s_lookedTooOften v_s_arraysMade v_s_cellsMade : Int32} {a_t_tape a_t_text a_o_out a_u_outcomes a_u_indexes a_s_classes a_s_starts a_s_lengths a_vc : Nat → Int32} {a_g_beyond a_h_beyond a_r_scratch a_r_now a_u_atom a_u_other a_u_hand : Nat} {a_g_steps a_h_steps a_u_vars a_u_marks : Nat → Option Nat} {a_s_cells a_vd a_sj : Nat → Int64} {a_L : List Nat} {a_K a_iv a_inn : Nat → Nat} {a_si a_ac : Nat → Nat → Int32} (o9 : Nat) (h_o9 : aV a_L a_K o9) (c9 : Int32) (d9 : Int64) : CtV l yX8_become (wG yX8_become cX8_become 4 none) rmX8_become D (twT cs) K [.ref o9, .int c9, .long d9] (tw cs q v_t_tapeSize v_t_textSize v_t_faultKind a_t_tape a_t_text a_g_beyond v_g_size a_g_steps a_h_beyond v_h_size a_h_steps a_r_scratch a_r_now v_r_takes v_r_negative v_r_namePlace v_r_faultKind v_r_faultPlace v_a_size v_a_limit v_a_digits v_a_kind v_a_from v_a_to v_o_size a_o_out v_b_size v_b_limit v_b_digits v_b_kind v_b_from v_b_to a_u_atom a_u_other a_u_hand v_u_marksMade v_u_came v_u_guesses v_u_right v_u_taken a_u_vars a_u_marks a_u_outcomes a_u_indexes v_s_things v_s_looked v_s_lookedTooOften v_s_arraysMade v_s_cellsMade a_s_classes a_s_starts a_s_lengths a_s_cells a_L a_K a_vc a_vd a_si a_sj a_iv a_inn a_ac) (fun w1 => ∃ (a_vc' : Nat → Int32) (a_vd' : Nat → Int64), w1 = (tw cs q v_t_tapeSize v_t_textSize v_t_faultKind a_t_tape a_t_text a_g_beyond v_g_size a_g_steps a_h_beyond v_h_size a_h_steps a_r_scratch a_r_now v_r_takes v_r_negative v_r_namePlace v_r_faultKind v_r_faultPlace v_a_size v_a_limit v_a_digits v_a_kind v_a_from v_a_to v_o_size a_o_out v_b_size v_b_limit v_b_digits v_b_kind v_b_from v_b_to a_u_atom a_u_other a_u_hand v_u_marksMade v_u_came v_u_guesses v_u_right v_u_taken a_u_vars a_u_marks a_u_outcomes a_u_indexes v_s_things v_s_looked v_s_lookedTooOften v_s_arraysMade v_s_cellsMade a_s_classes a_s_starts a_s_lengths a_s_cells a_L a_K a_vc' a_vd' a_si a_sj a_iv a_inn a_ac)) 0 0 := by
  intro sz
  refine Met.ofW (cc := cX8_become) (maxL := 4) (ret := none) (by decide) rfl ?_
  intro p e s m args below meth c s₁ B hml hv
  obtain ⟨rfl, hsz, hP, hK, hD0, hE⟩ := hv
  have hx := B.exec
  have hb := B.bytes
  have hr := B.returns
  have hts := atoms_spec (ws := (wG yX8_become cX8_become 4 none)) B.pre
  have hown : s.vm.findClass RX8 = some m.cls := findClass_of_methodNamed B.named
  have hlocks := B.notSynchronized
  subst hsz
  have hD := hD0.self (sz := s.heap.size)
  obtain ⟨A, hAe⟩ : ∃ A : Nat → Prop, A = va_A (tw cs q v_t_tapeSize v_t_textSize v_t_faultKind a_t_tape a_t_text a_g_beyond v_g_size a_g_steps a_h_beyond v_h_size a_h_steps a_r_scratch a_r_now v_r_takes v_r_negative v_r_namePlace v_r_faultKind v_r_faultPlace v_a_size v_a_limit v_a_digits v_a_kind v_a_from v_a_to v_o_size a_o_out v_b_size v_b_limit v_b_digits v_b_kind v_b_from v_b_to a_u_atom a_u_other a_u_hand v_u_marksMade v_u_came v_u_guesses v_u_right v_u_taken a_u_vars a_u_marks a_u_outcomes a_u_indexes v_s_things v_s_looked v_s_lookedTooOften v_s_arraysMade v_s_cellsMade a_s_classes a_s_starts a_s_lengths a_s_cells a_L a_K a_vc a_vd a_si a_sj a_iv a_inn a_ac) s.heap.size := ⟨_, rfl⟩
  rw [← hAe] at hD hE
  have hA : ∀ q : Nat, s.heap.size ≤ q → A q := fun q h => by rw [hAe]; exact Or.inr h
  have hS : va_S A s.heap s.heap [] := va_S.rf
  have hl := lv_entry ([.ref o9, .int c9, .long d9]) (n := 4) (Nat.le_of_ble_eq_true rfl)
  rw [lg_entry_eq]
  generalize (lg_sl ([.ref o9, .int c9, .long d9]) ++ List.replicate (4 - (lg_sl ([.ref o9, .int c9, .long d9])).length) Slot.unset).toArray = ls at hl ⊢
  have hl : lv_has ls 4 [(0, .ref o9), (1, .int c9), (2, .long d9)] := hl
  refine wq (fun Q hQ => ?_)
  have hinX8 : ∀ w ∈ wsX80, w ∈ (wG yX8_become cX8_become 4 none) := fun w h => List.mem_cons_of_mem _ (inlX8 w h)
  have k_5_2 := hts (.fieldLink RX8 9 "ArrayTrainer$Value" "cls" "I") (List.mem_cons_of_mem _ (wr5 _ (List.mem_of_getElem? (i := 2) rfl)))
  have k_22_6 := hts (.fieldLink RX8 15 "ArrayTrainer$Value" "datum" "J") (List.mem_cons_of_mem _ (wr22 _ (List.mem_of_getElem? (i := 6) rfl)))
  obtain ⟨H, hH⟩ : ∃ H : Heap, H = s.heap := ⟨_, rfl⟩
  obtain ⟨locs, hlc⟩ : ∃ L : List Loc, L = [] := ⟨_, rfl⟩
  have hP : va_P D vwCl (tw cs q v_t_tapeSize v_t_textSize v_t_faultKind a_t_tape a_t_text a_g_beyond v_g_size a_g_steps a_h_beyond v_h_size a_h_steps a_r_scratch a_r_now v_r_takes v_r_negative v_r_namePlace v_r_faultKind v_r_faultPlace v_a_size v_a_limit v_a_digits v_a_kind v_a_from v_a_to v_o_size a_o_out v_b_size v_b_limit v_b_digits v_b_kind v_b_from v_b_to a_u_atom a_u_other a_u_hand v_u_marksMade v_u_came v_u_guesses v_u_right v_u_taken a_u_vars a_u_marks a_u_outcomes a_u_indexes v_s_things v_s_looked v_s_lookedTooOften v_s_arraysMade v_s_cellsMade a_s_classes a_s_starts a_s_lengths a_s_cells a_L a_K a_vc a_vd a_si a_sj a_iv a_inn a_ac) H := by rw [hH]; exact hP
  have hS : va_S A s.heap H locs := by rw [hH, hlc]; exact hS
  refine wHL hH hlc ?_
  have b_c9 := iB c9
  have b_d9 := jB d9
  refine lv_aload_n hx hb dX8_become_0 rfl (lv_at hl 0 rfl) ?_
  refine lv_iload_n hx hb dX8_become_1 rfl (lv_at hl 1 rfl) ?_
  obtain ⟨k2_, hk2_⟩ := pl_V (X := (twX cs q v_t_tapeSize v_t_textSize v_t_faultKind a_t_tape a_t_text a_g_beyond v_g_size a_g_steps a_h_beyond v_h_size a_h_steps a_r_scratch a_r_now v_r_takes v_r_negative v_r_namePlace v_r_faultKind v_r_faultPlace v_a_size v_a_limit v_a_digits v_a_kind v_a_from v_a_to v_o_size a_o_out v_b_size v_b_limit v_b_digits v_b_kind v_b_from v_b_to a_u_atom a_u_other a_u_hand v_u_marksMade v_u_came v_u_guesses v_u_right v_u_taken a_u_vars a_u_marks a_u_outcomes a_u_indexes v_s_things v_s_looked v_s_lookedTooOften v_s_arraysMade v_s_cellsMade a_s_classes a_s_starts a_s_lengths a_s_cells)) (cI := cs 0) (vc := a_vc) (vd := a_vd) (si := a_si) (sj := a_sj) (iv := a_iv) (inn := a_inn) (ac := a_ac) h_o9
  have hDk := hD
  refine va_put (D := D) (ci := 7) (v := .int c9) (ty := .int) (C := RX8) (T := TX8) (N := 2) hx hb hts hinX8 tyX8 tyX8_ok nmX8 hown hK hP hD hS k2_ hk2_ rfl 0 (by decide) k_5_2 (fun _ h9 => h9) rfl (by decide +kernel) rfl rfl (Nat.le_of_ble_eq_true rfl) dX8_become_2 (fun H locs hP hD hS => ?_)
  obtain ⟨a_vc_2, e_a_vc_2⟩ : ∃ g, g = va_up a_vc o9 c9 := ⟨_, rfl⟩
  have hP : va_P D vwCl (tw cs q v_t_tapeSize v_t_textSize v_t_faultKind a_t_tape a_t_text a_g_beyond v_g_size a_g_steps a_h_beyond v_h_size a_h_steps a_r_scratch a_r_now v_r_takes v_r_negative v_r_namePlace v_r_faultKind v_r_faultPlace v_a_size v_a_limit v_a_digits v_a_kind v_a_from v_a_to v_o_size a_o_out v_b_size v_b_limit v_b_digits v_b_kind v_b_from v_b_to a_u_atom a_u_other a_u_hand v_u_marksMade v_u_came v_u_guesses v_u_right v_u_taken a_u_vars a_u_marks a_u_outcomes a_u_indexes v_s_things v_s_looked v_s_lookedTooOften v_s_arraysMade v_s_cellsMade a_s_classes a_s_starts a_s_lengths a_s_cells a_L a_K a_vc_2 a_vd a_si a_sj a_iv a_inn a_ac) H := by rw [e_a_vc_2]; exact vaP_eq (pu_cls hDk h_o9 hk2_ _) hP
  have hD : va_D A (tw cs q v_t_tapeSize v_t_textSize v_t_faultKind a_t_tape a_t_text a_g_beyond v_g_size a_g_steps a_h_beyond v_h_size a_h_steps a_r_scratch a_r_now v_r_takes v_r_negative v_r_namePlace v_r_faultKind v_r_faultPlace v_a_size v_a_limit v_a_digits v_a_kind v_a_from v_a_to v_o_size a_o_out v_b_size v_b_limit v_b_digits v_b_kind v_b_from v_b_to a_u_atom a_u_other a_u_hand v_u_marksMade v_u_came v_u_guesses v_u_right v_u_taken a_u_vars a_u_marks a_u_outcomes a_u_indexes v_s_things v_s_looked v_s_lookedTooOften v_s_arraysMade v_s_cellsMade a_s_classes a_s_starts a_s_lengths a_s_cells a_L a_K a_vc_2 a_vd a_si a_sj a_iv a_inn a_ac) := by rw [e_a_vc_2]; exact vaD_eq (pu_cls hDk h_o9 hk2_ _) hD
  refine lv_aload_n hx hb dX8_become_5 rfl (lv_at hl 0 rfl) ?_
  refine lv_lload_n hx hb dX8_become_6 rfl (lv_at hl 2 rfl) ?_
  obtain ⟨k7_, hk7_⟩ := pl_V (X := (twX cs q v_t_tapeSize v_t_textSize v_t_faultKind a_t_tape a_t_text a_g_beyond v_g_size a_g_steps a_h_beyond v_h_size a_h_steps a_r_scratch a_r_now v_r_takes v_r_negative v_r_namePlace v_r_faultKind v_r_faultPlace v_a_size v_a_limit v_a_digits v_a_kind v_a_from v_a_to v_o_size a_o_out v_b_size v_b_limit v_b_digits v_b_kind v_b_from v_b_to a_u_atom a_u_other a_u_hand v_u_marksMade v_u_came v_u_guesses v_u_right v_u_taken a_u_vars a_u_marks a_u_outcomes a_u_indexes v_s_things v_s_looked v_s_lookedTooOften v_s_arraysMade v_s_cellsMade a_s_classes a_s_starts a_s_lengths a_s_cells)) (cI := cs 0) (vc := a_vc_2) (vd := a_vd) (si := a_si) (sj := a_sj) (iv := a_iv) (inn := a_inn) (ac := a_ac) h_o9
  have hDk := hD
  refine va_put (D := D) (ci := 7) (v := .long d9) (ty := .long) (C := RX8) (T := TX8) (N := 2) hx hb hts hinX8 tyX8 tyX8_ok nmX8 hown hK hP hD hS k7_ hk7_ rfl 1 (by decide) k_22_6 (fun _ h9 => h9) rfl (by decide +kernel) rfl rfl (Nat.le_of_ble_eq_true rfl) dX8_become_7 (fun H locs hP hD hS => ?_)
  obtain ⟨a_vd_7, e_a_vd_7⟩ : ∃ g, g = va_up a_vd o9 d9 := ⟨_, rfl⟩
  have hP : va_P D vwCl (tw cs q v_t_tapeSize v_t_textSize v_t_faultKind a_t_tape a_t_text a_g_beyond v_g_size a_g_steps a_h_beyond v_h_size a_h_steps a_r_scratch a_r_now v_r_takes v_r_negative v_r_namePlace v_r_faultKind v_r_faultPlace v_a_size v_a_limit v_a_digits v_a_kind v_a_from v_a_to v_o_size a_o_out v_b_size v_b_limit v_b_digits v_b_kind v_b_from v_b_to a_u_atom a_u_other a_u_hand v_u_marksMade v_u_came v_u_guesses v_u_right v_u_taken a_u_vars a_u_marks a_u_outcomes a_u_indexes v_s_things v_s_looked v_s_lookedTooOften v_s_arraysMade v_s_cellsMade a_s_classes a_s_starts a_s_lengths a_s_cells a_L a_K a_vc_2 a_vd_7 a_si a_sj a_iv a_inn a_ac) H := by rw [e_a_vd_7]; exact vaP_eq (pu_datum hDk h_o9 hk7_ _) hP
  have hD : va_D A (tw cs q v_t_tapeSize v_t_textSize v_t_faultKind a_t_tape a_t_text a_g_beyond v_g_size a_g_steps a_h_beyond v_h_size a_h_steps a_r_scratch a_r_now v_r_takes v_r_negative v_r_namePlace v_r_faultKind v_r_faultPlace v_a_size v_a_limit v_a_digits v_a_kind v_a_from v_a_to v_o_size a_o_out v_b_size v_b_limit v_b_digits v_b_kind v_b_from v_b_to a_u_atom a_u_other a_u_hand v_u_marksMade v_u_came v_u_guesses v_u_right v_u_taken a_u_vars a_u_marks a_u_outcomes a_u_indexes v_s_things v_s_looked v_s_lookedTooOften v_s_arraysMade v_s_cellsMade a_s_classes a_s_starts a_s_lengths a_s_cells a_L a_K a_vc_2 a_vd_7 a_si a_sj a_iv a_inn a_ac) := by rw [e_a_vd_7]; exact vaD_eq (pu_datum hDk h_o9 hk7_ _) hD
  subst hAe
  rw [hQ]
  exact W.vret hx hb hr (fun t ht hW => ⟨⟨_, rfl, ⟨a_vc_2, a_vd_7, rfl⟩, by rw [ht]; exact hP, va_K.moved hW.alike hK, hD⟩, hS.F ht⟩) hS.2.2 dX8_become_10

def rmX8_becomeLike : Room := { frames := 40, cells := 0, slots := 0, locals := 800 }
set_option maxHeartbeats 4000000 in
set_option maxRecDepth 100000 in
theorem tX8_becomeLike {l : Launch} {D : va_G} {K : Nat → Nat → Nat} {cs : Nat → ClassId} {q : Nat → Nat} {v_t_tapeSize v_t_textSize v_t_faultKind v_g_size v_h_size v_r_takes v_r_negative v_r_namePlace v_r_faultKind v_r_faultPlace v_a_size v_a_limit v_a_digits v_a_kind v_a_from v_a_to v_o_size v_b_size v_b_limit v_b_digits v_b_kind v_b_from v_b_to v_u_marksMade v_u_came v_u_guesses v_u_right v_u_taken v_s_things v_s_looked v_s_lookedTooOften v_s_arraysMade v_s_cellsMade : Int32} {a_t_tape a_t_text a_o_out a_u_outcomes a_u_indexes a_s_classes a_s_starts a_s_lengths a_vc : Nat → Int32} {a_g_beyond a_h_beyond a_r_scratch a_r_now a_u_atom a_u_other a_u_hand : Nat} {a_g_steps a_h_steps a_u_vars a_u_marks : Nat → Option Nat} {a_s_cells a_vd a_sj : Nat → Int64} {a_L : List Nat} {a_K a_iv a_inn : Nat → Nat} {a_si a_ac : Nat → Nat → Int32} (o9 : Nat) (h_o9 : aV a_L a_K o9) (v9 : Nat) (h_v9 : aV a_L a_K v9) : CtV l yX8_becomeLike (wG yX8_becomeLike cX8_becomeLike 2 none) rmX8_becomeLike D (twT cs) K [.ref o9, .ref v9] (tw cs q v_t_tapeSize v_t_textSize v_t_faultKind a_t_tape a_t_text a_g_beyond v_g_size a_g_steps a_h_beyond v_h_size a_h_steps a_r_scratch a_r_now v_r_takes v_r_negative v_r_namePlace v_r_faultKind v_r_faultPlace v_a_size v_a_limit v_a_digits v_a_kind v_a_from v_a_to v_o_size a_o_out v_b_size v_b_limit v_b_digits v_b_kind v_b_from v_b_to a_u_atom a_u_other a_u_hand v_u_marksMade v_u_came v_u_guesses v_u_right v_u_taken a_u_vars a_u_marks a_u_outcomes a_u_indexes v_s_things v_s_looked v_s_lookedTooOften v_s_arraysMade v_s_cellsMade a_s_classes a_s_starts a_s_lengths a_s_cells a_L a_K a_vc a_vd a_si a_sj a_iv a_inn a_ac) (fun w1 => ∃ (a_vc' : Nat → Int32) (a_vd' : Nat → Int64), w1 = (tw cs q v_t_tapeSize v_t_textSize v_t_faultKind a_t_tape a_t_text a_g_beyond v_g_size a_g_steps a_h_beyond v_h_size a_h_steps a_r_scratch a_r_now v_r_takes v_r_negative v_r_namePlace v_r_faultKind v_r_faultPlace v_a_size v_a_limit v_a_digits v_a_kind v_a_from v_a_to v_o_size a_o_out v_b_size v_b_limit v_b_digits v_b_kind v_b_from v_b_to a_u_atom a_u_other a_u_hand v_u_marksMade v_u_came v_u_guesses v_u_right v_u_taken a_u_vars a_u_marks a_u_outcomes a_u_indexes v_s_things v_s_looked v_s_lookedTooOften v_s_arraysMade v_s_cellsMade a_s_classes a_s_starts a_s_lengths a_s_cells a_L a_K a_vc' a_vd' a_si a_sj a_iv a_inn a_ac)) 0 0 := by
  intro sz
  refine Met.ofW (cc := cX8_becomeLike) (maxL := 2) (ret := none) (by decide) rfl ?_
  intro p e s m args below meth c s₁ B hml hv
  obtain ⟨rfl, hsz, hP, hK, hD0, hE⟩ := hv
  have hx := B.exec
  have hb := B.bytes
  have hr := B.returns
  have hts := atoms_spec (ws := (wG yX8_becomeLike cX8_becomeLike 2 none)) B.pre
  have hown : s.vm.findClass RX8 = some m.cls := findClass_of_methodNamed B.named
  have hlocks := B.notSynchronized
  subst hsz
  have hD := hD0.self (sz := s.heap.size)
  obtain ⟨A, hAe⟩ : ∃ A : Nat → Prop, A = va_A (tw cs q v_t_tapeSize v_t_textSize v_t_faultKind a_t_tape a_t_text a_g_beyond v_g_size a_g_steps a_h_beyond v_h_size a_h_steps a_r_scratch a_r_now v_r_takes v_r_negative v_r_namePlace v_r_faultKind v_r_faultPlace v_a_size v_a_limit v_a_digits v_a_kind v_a_from v_a_to v_o_size a_o_out v_b_size v_b_limit v_b_digits v_b_kind v_b_from v_b_to a_u_atom a_u_other a_u_hand v_u_marksMade v_u_came v_u_guesses v_u_right v_u_taken a_u_vars a_u_marks a_u_outcomes a_u_indexes v_s_things v_s_looked v_s_lookedTooOften v_s_arraysMade v_s_cellsMade a_s_classes a_s_starts a_s_lengths a_s_cells a_L a_K a_vc a_vd a_si a_sj a_iv a_inn a_ac) s.heap.size := ⟨_, rfl⟩
  rw [← hAe] at hD hE
  have hA : ∀ q : Nat, s.heap.size ≤ q → A q := fun q h => by rw [hAe]; exact Or.inr h
  have hS : va_S A s.heap s.heap [] := va_S.rf
  have hl := lv_entry ([.ref o9, .ref v9]) (n := 2) (Nat.le_of_ble_eq_true rfl)
  rw [lg_entry_eq]
  generalize (lg_sl ([.ref o9, .ref v9]) ++ List.replicate (2 - (lg_sl ([.ref o9, .ref v9])).length) Slot.unset).toArray = ls at hl ⊢
  have hl : lv_has ls 2 [(0, .ref o9), (1, .ref v9)] := hl
  refine wq (fun Q hQ => ?_)
  have hinX8 : ∀ w ∈ wsX80, w ∈ (wG yX8_becomeLike cX8_becomeLike 2 none) := fun w h => List.mem_cons_of_mem _ (inlX8 w h)
  have k_5_2 := hts (.fieldLink RX8 9 "ArrayTrainer$Value" "cls" "I") (List.mem_cons_of_mem _ (wr5 _ (List.mem_of_getElem? (i := 2) rfl)))
  have k_22_6 := hts (.fieldLink RX8 15 "ArrayTrainer$Value" "datum" "J") (List.mem_cons_of_mem _ (wr22 _ (List.mem_of_getElem? (i := 6) rfl)))
  obtain ⟨H, hH⟩ : ∃ H : Heap, H = s.heap := ⟨_, rfl⟩
  obtain ⟨locs, hlc⟩ : ∃ L : List Loc, L = [] := ⟨_, rfl⟩
  have hP : va_P D vwCl (tw cs q v_t_tapeSize v_t_textSize v_t_faultKind a_t_tape a_t_text a_g_beyond v_g_size a_g_steps a_h_beyond v_h_size a_h_steps a_r_scratch a_r_now v_r_takes v_r_negative v_r_namePlace v_r_faultKind v_r_faultPlace v_a_size v_a_limit v_a_digits v_a_kind v_a_from v_a_to v_o_size a_o_out v_b_size v_b_limit v_b_digits v_b_kind v_b_from v_b_to a_u_atom a_u_other a_u_hand v_u_marksMade v_u_came v_u_guesses v_u_right v_u_taken a_u_vars a_u_marks a_u_outcomes a_u_indexes v_s_things v_s_looked v_s_lookedTooOften v_s_arraysMade v_s_cellsMade a_s_classes a_s_starts a_s_lengths a_s_cells a_L a_K a_vc a_vd a_si a_sj a_iv a_inn a_ac) H := by rw [hH]; exact hP
  have hS : va_S A s.heap H locs := by rw [hH, hlc]; exact hS
  refine wHL hH hlc ?_
  refine lv_aload_n hx hb dX8_becomeLike_0 rfl (lv_at hl 0 rfl) ?_
  refine lv_aload_n hx hb dX8_becomeLike_1 rfl (lv_at hl 1 rfl) ?_
  obtain ⟨k2_, hk2_⟩ := pl_V (X := (twX cs q v_t_tapeSize v_t_textSize v_t_faultKind a_t_tape a_t_text a_g_beyond v_g_size a_g_steps a_h_beyond v_h_size a_h_steps a_r_scratch a_r_now v_r_takes v_r_negative v_r_namePlace v_r_faultKind v_r_faultPlace v_a_size v_a_limit v_a_digits v_a_kind v_a_from v_a_to v_o_size a_o_out v_b_size v_b_limit v_b_digits v_b_kind v_b_from v_b_to a_u_atom a_u_other a_u_hand v_u_marksMade v_u_came v_u_guesses v_u_right v_u_taken a_u_vars a_u_marks a_u_outcomes a_u_indexes v_s_things v_s_looked v_s_lookedTooOften v_s_arraysMade v_s_cellsMade a_s_classes a_s_starts a_s_lengths a_s_cells)) (cI := cs 0) (vc := a_vc) (vd := a_vd) (si := a_si) (sj := a_sj) (iv := a_iv) (inn := a_inn) (ac := a_ac) h_v9
  refine va_get (D := D) (ci := 7) (v := .int (a_vc v9)) (C := RX8) (T := TX8) (N := 2) hx hb hts hinX8 hown hK hP k2_ hk2_ rfl 0 (by decide) k_5_2 (fun _ h9 => h9) rfl dX8_becomeLike_2 ?_
  refine lv_topi (fun x2 e_x2 => ?_)
  have b_x2 := iB x2
  refine lv_aload_n hx hb dX8_becomeLike_5 rfl (lv_at hl 1 rfl) ?_
  obtain ⟨k6_, hk6_⟩ := pl_V (X := (twX cs q v_t_tapeSize v_t_textSize v_t_faultKind a_t_tape a_t_text a_g_beyond v_g_size a_g_steps a_h_beyond v_h_size a_h_steps a_r_scratch a_r_now v_r_takes v_r_negative v_r_namePlace v_r_faultKind v_r_faultPlace v_a_size v_a_limit v_a_digits v_a_kind v_a_from v_a_to v_o_size a_o_out v_b_size v_b_limit v_b_digits v_b_kind v_b_from v_b_to a_u_atom a_u_other a_u_hand v_u_marksMade v_u_came v_u_guesses v_u_right v_u_taken a_u_vars a_u_marks a_u_outcomes a_u_indexes v_s_things v_s_looked v_s_lookedTooOften v_s_arraysMade v_s_cellsMade a_s_classes a_s_starts a_s_lengths a_s_cells)) (cI := cs 0) (vc := a_vc) (vd := a_vd) (si := a_si) (sj := a_sj) (iv := a_iv) (inn := a_inn) (ac := a_ac) h_v9
  refine va_get (D := D) (ci := 7) (v := .long (a_vd v9)) (C := RX8) (T := TX8) (N := 2) hx hb hts hinX8 hown hK hP k6_ hk6_ rfl 1 (by decide) k_22_6 (fun _ h9 => h9) rfl dX8_becomeLike_6 ?_
  refine lv_topl (fun x6 e_x6 => ?_)
  have b_x6 := jB x6
  obtain ⟨k9_, hk9_⟩ := pl_V (X := (twX cs q v_t_tapeSize v_t_textSize v_t_faultKind a_t_tape a_t_text a_g_beyond v_g_size a_g_steps a_h_beyond v_h_size a_h_steps a_r_scratch a_r_now v_r_takes v_r_negative v_r_namePlace v_r_faultKind v_r_faultPlace v_a_size v_a_limit v_a_digits v_a_kind v_a_from v_a_to v_o_size a_o_out v_b_size v_b_limit v_b_digits v_b_kind v_b_from v_b_to a_u_atom a_u_other a_u_hand v_u_marksMade v_u_came v_u_guesses v_u_right v_u_taken a_u_vars a_u_marks a_u_outcomes a_u_indexes v_s_things v_s_looked v_s_lookedTooOften v_s_arraysMade v_s_cellsMade a_s_classes a_s_starts a_s_lengths a_s_cells)) (cI := cs 0) (vc := a_vc) (vd := a_vd) (si := a_si) (sj := a_sj) (iv := a_iv) (inn := a_inn) (ac := a_ac) h_o9
  refine call_v (As := [.int x2, .long x6]) (rest := []) ⟨hx, hb, hml, hown, hts⟩ (tX8_become (l := l) o9 h_o9 x2 x6) (cwV 2 hts (gV (wr37 _ (List.mem_of_getElem? (i := 5) rfl)) (wr22 _ (List.mem_of_getElem? (i := 3) rfl)) (wr22 _ (List.mem_of_getElem? (i := 4) rfl)) (wr4 _ (List.mem_of_getElem? (i := 11) rfl)) (wr22 _ (List.mem_of_getElem? (i := 5) rfl))) rfl rfl rfl (by decide +kernel) ⟨Nat.le_of_ble_eq_true rfl, Nat.le_of_ble_eq_true rfl⟩) (va_recv hK hP (ci := 7) (q0 := k9_) rfl hk9_) hK hP hD hE hS hA rfl hl.1 rfl (Nat.le_of_ble_eq_true rfl) dX8_becomeLike_9 ⟨Nat.le_of_ble_eq_true rfl, Nat.le_of_ble_eq_true rfl⟩ (fun w9 H locs hw9 hP hD hS => ?_)
  obtain ⟨a_vc_9, a_vd_9, rfl⟩ := hw9
  subst hAe
  rw [hQ]
  exact W.vret hx hb hr (fun t ht hW => ⟨⟨_, rfl, ⟨a_vc_9, a_vd_9, rfl⟩, by rw [ht]; exact hP, va_K.moved hW.alike hK, hD⟩, hS.F ht⟩) hS.2.2 dX8_becomeLike_12

def rmX8_isNone : Room := { frames := 20, cells := 0, slots := 0, locals := 400 }
set_option maxHeartbeats 4000000 in
set_option maxRecDepth 100000 in
theorem tX8_isNone {l : Launch} {D : va_G} {K : Nat → Nat → Nat} {cs : Nat → ClassId} {q : Nat → Nat} {v_t_tapeSize v_t_textSize v_t_faultKind v_g_size v_h_size v_r_takes v_r_negative v_r_namePlace v_r_faultKind v_r_faultPlace v_a_size v_a_limit v_a_digits v_a_kind v_a_from v_a_to v_o_size v_b_size v_b_limit v_b_digits v_b_kind v_b_from v_b_to v_u_marksMade v_u_came v_u_guesses v_u_right v_u_taken v_s_things v_s_looked v_s_lookedTooOften v_s_arraysMade v_s_cellsMade : Int32} {a_t_tape a_t_text a_o_out a_u_outcomes a_u_indexes a_s_classes a_s_starts a_s_lengths a_vc : Nat → Int32} {a_g_beyond a_h_beyond a_r_scratch a_r_now a_u_atom a_u_other a_u_hand : Nat} {a_g_steps a_h_steps a_u_vars a_u_marks : Nat → Option Nat} {a_s_cells a_vd a_sj : Nat → Int64} {a_L : List Nat} {a_K a_iv a_inn : Nat → Nat} {a_si a_ac : Nat → Nat → Int32} (o9 : Nat) (h_o9 : aV a_L a_K o9) : CtI l yX8_isNone (wG yX8_isNone cX8_isNone 1 (some .boolean)) rmX8_isNone D (twT cs) K [.ref o9] (tw cs q v_t_tapeSize v_t_textSize v_t_faultKind a_t_tape a_t_text a_g_beyond v_g_size a_g_steps a_h_beyond v_h_size a_h_steps a_r_scratch a_r_now v_r_takes v_r_negative v_r_namePlace v_r_faultKind v_r_faultPlace v_a_size v_a_limit v_a_digits v_a_kind v_a_from v_a_to v_o_size a_o_out v_b_size v_b_limit v_b_digits v_b_kind v_b_from v_b_to a_u_atom a_u_other a_u_hand v_u_marksMade v_u_came v_u_guesses v_u_right v_u_taken a_u_vars a_u_marks a_u_outcomes a_u_indexes v_s_things v_s_looked v_s_lookedTooOften v_s_arraysMade v_s_cellsMade a_s_classes a_s_starts a_s_lengths a_s_cells a_L a_K a_vc a_vd a_si a_sj a_iv a_inn a_ac) (fun r w1 => w1 = (tw cs q v_t_tapeSize v_t_textSize v_t_faultKind a_t_tape a_t_text a_g_beyond v_g_size a_g_steps a_h_beyond v_h_size a_h_steps a_r_scratch a_r_now v_r_takes v_r_negative v_r_namePlace v_r_faultKind v_r_faultPlace v_a_size v_a_limit v_a_digits v_a_kind v_a_from v_a_to v_o_size a_o_out v_b_size v_b_limit v_b_digits v_b_kind v_b_from v_b_to a_u_atom a_u_other a_u_hand v_u_marksMade v_u_came v_u_guesses v_u_right v_u_taken a_u_vars a_u_marks a_u_outcomes a_u_indexes v_s_things v_s_looked v_s_lookedTooOften v_s_arraysMade v_s_cellsMade a_s_classes a_s_starts a_s_lengths a_s_cells a_L a_K a_vc a_vd a_si a_sj a_iv a_inn a_ac) ∧ (r.toInt = 0 ∨ r.toInt = 1)) 0 0 := by
  intro sz
  refine Met.ofW (cc := cX8_isNone) (maxL := 1) (ret := (some .boolean)) (by decide) rfl ?_
  intro p e s m args below meth c s₁ B hml hv
  obtain ⟨rfl, hsz, hP, hK, hD0, hE⟩ := hv
  have hx := B.exec
  have hb := B.bytes
  have hr := B.returns
  have hts := atoms_spec (ws := (wG yX8_isNone cX8_isNone 1 (some .boolean))) B.pre
  have hown : s.vm.findClass RX8 = some m.cls := findClass_of_methodNamed B.named
  have hlocks := B.notSynchronized
  subst hsz
  have hD := hD0.self (sz := s.heap.size)
  obtain ⟨A, hAe⟩ : ∃ A : Nat → Prop, A = va_A (tw cs q v_t_tapeSize v_t_textSize v_t_faultKind a_t_tape a_t_text a_g_beyond v_g_size a_g_steps a_h_beyond v_h_size a_h_steps a_r_scratch a_r_now v_r_takes v_r_negative v_r_namePlace v_r_faultKind v_r_faultPlace v_a_size v_a_limit v_a_digits v_a_kind v_a_from v_a_to v_o_size a_o_out v_b_size v_b_limit v_b_digits v_b_kind v_b_from v_b_to a_u_atom a_u_other a_u_hand v_u_marksMade v_u_came v_u_guesses v_u_right v_u_taken a_u_vars a_u_marks a_u_outcomes a_u_indexes v_s_things v_s_looked v_s_lookedTooOften v_s_arraysMade v_s_cellsMade a_s_classes a_s_starts a_s_lengths a_s_cells a_L a_K a_vc a_vd a_si a_sj a_iv a_inn a_ac) s.heap.size := ⟨_, rfl⟩
  rw [← hAe] at hD hE
  have hA : ∀ q : Nat, s.heap.size ≤ q → A q := fun q h => by rw [hAe]; exact Or.inr h
  have hS : va_S A s.heap s.heap [] := va_S.rf
  have hl := lv_entry ([.ref o9]) (n := 1) (Nat.le_of_ble_eq_true rfl)
  rw [lg_entry_eq]
  generalize (lg_sl ([.ref o9]) ++ List.replicate (1 - (lg_sl ([.ref o9])).length) Slot.unset).toArray = ls at hl ⊢
  have hl : lv_has ls 1 [(0, .ref o9)] := hl
  refine wq (fun Q hQ => ?_)
  have hinX8 : ∀ w ∈ wsX80, w ∈ (wG yX8_isNone cX8_isNone 1 (some .boolean)) := fun w h => List.mem_cons_of_mem _ (inlX8 w h)
  have kc0 : (-1 : Int32).toInt = -1 := by decide
  have kc1 : (0 : Int32).toInt = 0 := by decide
  have kc2 : (1 : Int32).toInt = 1 := by decide
  have k_5_2 := hts (.fieldLink RX8 9 "ArrayTrainer$Value" "cls" "I") (List.mem_cons_of_mem _ (wr5 _ (List.mem_of_getElem? (i := 2) rfl)))
  obtain ⟨H, hH⟩ : ∃ H : Heap, H = s.heap := ⟨_, rfl⟩
  obtain ⟨locs, hlc⟩ : ∃ L : List Loc, L = [] := ⟨_, rfl⟩
  have hP : va_P D vwCl (tw cs q v_t_tapeSize v_t_textSize v_t_faultKind a_t_tape a_t_text a_g_beyond v_g_size a_g_steps a_h_beyond v_h_size a_h_steps a_r_scratch a_r_now v_r_takes v_r_negative v_r_namePlace v_r_faultKind v_r_faultPlace v_a_size v_a_limit v_a_digits v_a_kind v_a_from v_a_to v_o_size a_o_out v_b_size v_b_limit v_b_digits v_b_kind v_b_from v_b_to a_u_atom a_u_other a_u_hand v_u_marksMade v_u_came v_u_guesses v_u_right v_u_taken a_u_vars a_u_marks a_u_outcomes a_u_indexes v_s_things v_s_looked v_s_lookedTooOften v_s_arraysMade v_s_cellsMade a_s_classes a_s_starts a_s_lengths a_s_cells a_L a_K a_vc a_vd a_si a_sj a_iv a_inn a_ac) H := by rw [hH]; exact hP
  have hS : va_S A s.heap H locs := by rw [hH, hlc]; exact hS
  refine wHL hH hlc ?_
  refine lv_aload_n hx hb dX8_isNone_0 rfl (lv_at hl 0 rfl) ?_
  obtain ⟨k1_, hk1_⟩ := pl_V (X := (twX cs q v_t_tapeSize v_t_textSize v_t_faultKind a_t_tape a_t_text a_g_beyond v_g_size a_g_steps a_h_beyond v_h_size a_h_steps a_r_scratch a_r_now v_r_takes v_r_negative v_r_namePlace v_r_faultKind v_r_faultPlace v_a_size v_a_limit v_a_digits v_a_kind v_a_from v_a_to v_o_size a_o_out v_b_size v_b_limit v_b_digits v_b_kind v_b_from v_b_to a_u_atom a_u_other a_u_hand v_u_marksMade v_u_came v_u_guesses v_u_right v_u_taken a_u_vars a_u_marks a_u_outcomes a_u_indexes v_s_things v_s_looked v_s_lookedTooOften v_s_arraysMade v_s_cellsMade a_s_classes a_s_starts a_s_lengths a_s_cells)) (cI := cs 0) (vc := a_vc) (vd := a_vd) (si := a_si) (sj := a_sj) (iv := a_iv) (inn := a_inn) (ac := a_ac) h_o9
  refine va_get (D := D) (ci := 7) (v := .int (a_vc o9)) (C := RX8) (T := TX8) (N := 2) hx hb hts hinX8 hown hK hP k1_ hk1_ rfl 0 (by decide) k_5_2 (fun _ h9 => h9) rfl dX8_isNone_1 ?_
  refine lv_topi (fun x1 e_x1 => ?_)
  have b_x1 := iB x1
  refine lv_iconst (v := (-1)) hx hb dX8_isNone_4 (by decide) ?_
  refine m_icmp_ne (X := x1.toInt) (Y := (-1)) (tgt := 12) hx hb dX8_isNone_5 (by decide) rfl (by decide) (fun c5 => ?_) (fun c5 => ?_)
  · skip
    refine lv_iconst (v := 0) hx hb dX8_isNone_12 (by decide) ?_
    subst hAe
    rw [hQ]
    exact W.zret (v := 0) hx hb hr (by decide) (fun t ht hW => ⟨⟨0, _, rfl, ⟨rfl, by first | assumption | omega | (intros; omega) | decide⟩, by rw [ht]; exact hP, va_K.moved hW.alike hK, hD⟩, hS.F ht⟩) hS.2.2 dX8_isNone_13
  · skip
    refine lv_iconst (v := 1) hx hb dX8_isNone_8 (by decide) ?_
    refine lv_goto (tgt := 13) hx hb dX8_isNone_9 (by decide) ?_
    subst hAe
    rw [hQ]
    exact W.zret (v := 1) hx hb hr (by decide) (fun t ht hW => ⟨⟨1, _, rfl, ⟨rfl, by first | assumption | omega | (intros; omega) | decide⟩, by rw [ht]; exact hP, va_K.moved hW.alike hK, hD⟩, hS.F ht⟩) hS.2.2 dX8_isNone_13

def rmX8_isNumber : Room := { frames := 40, cells := 0, slots := 0, locals := 800 }
set_option maxHeartbeats 4000000 in
set_option maxRecDepth 100000 in
theorem tX8_isNumber {l : Launch} {D : va_G} {K : Nat → Nat → Nat} {cs : Nat → ClassId} {q : Nat → Nat} {v_t_tapeSize v_t_textSize v_t_faultKind v_g_size v_h_size v_r_takes v_r_negative v_r_namePlace v_r_faultKind v_r_faultPlace v_a_size v_a_limit v_a_digits v_a_kind v_a_from v_a_to v_o_size v_b_size v_b_limit v_b_digits v_b_kind v_b_from v_b_to v_u_marksMade v_u_came v_u_guesses v_u_right v_u_taken v_s_things v_s_looked v_s_lookedTooOften v_s_arraysMade v_s_cellsMade : Int32} {a_t_tape a_t_text a_o_out a_u_outcomes a_u_indexes a_s_classes a_s_starts a_s_lengths a_vc : Nat → Int32} {a_g_beyond a_h_beyond a_r_scratch a_r_now a_u_atom a_u_other a_u_hand : Nat} {a_g_steps a_h_steps a_u_vars a_u_marks : Nat → Option Nat} {a_s_cells a_vd a_sj : Nat → Int64} {a_L : List Nat} {a_K a_iv a_inn : Nat → Nat} {a_si a_ac : Nat → Nat → Int32} (o9 : Nat) (h_o9 : aV a_L a_K o9) : CtI l yX8_isNumber (wG yX8_isNumber cX8_isNumber 1 (some .boolean)) rmX8_isNumber D (twT cs) K [.ref o9] (tw cs q v_t_tapeSize v_t_textSize v_t_faultKind a_t_tape a_t_text a_g_beyond v_g_size a_g_steps a_h_beyond v_h_size a_h_steps a_r_scratch a_r_now v_r_takes v_r_negative v_r_namePlace v_r_faultKind v_r_faultPlace v_a_size v_a_limit v_a_digits v_a_kind v_a_from v_a_to v_o_size a_o_out v_b_size v_b_limit v_b_digits v_b_kind v_b_from v_b_to a_u_atom a_u_other a_u_hand v_u_marksMade v_u_came v_u_guesses v_u_right v_u_taken a_u_vars a_u_marks a_u_outcomes a_u_indexes v_s_things v_s_looked v_s_lookedTooOften v_s_arraysMade v_s_cellsMade a_s_classes a_s_starts a_s_lengths a_s_cells a_L a_K a_vc a_vd a_si a_sj a_iv a_inn a_ac) (fun r w1 => w1 = (tw cs q v_t_tapeSize v_t_textSize v_t_faultKind a_t_tape a_t_text a_g_beyond v_g_size a_g_steps a_h_beyond v_h_size a_h_steps a_r_scratch a_r_now v_r_takes v_r_negative v_r_namePlace v_r_faultKind v_r_faultPlace v_a_size v_a_limit v_a_digits v_a_kind v_a_from v_a_to v_o_size a_o_out v_b_size v_b_limit v_b_digits v_b_kind v_b_from v_b_to a_u_atom a_u_other a_u_hand v_u_marksMade v_u_came v_u_guesses v_u_right v_u_taken a_u_vars a_u_marks a_u_outcomes a_u_indexes v_s_things v_s_looked v_s_lookedTooOften v_s_arraysMade v_s_cellsMade a_s_classes a_s_starts a_s_lengths a_s_cells a_L a_K a_vc a_vd a_si a_sj a_iv a_inn a_ac) ∧ (r.toInt = 0 ∨ r.toInt = 1)) 0 0 := by
  intro sz
  refine Met.ofW (cc := cX8_isNumber) (maxL := 1) (ret := (some .boolean)) (by decide) rfl ?_
  intro p e s m args below meth c s₁ B hml hv
  obtain ⟨rfl, hsz, hP, hK, hD0, hE⟩ := hv
  have hx := B.exec
  have hb := B.bytes
  have hr := B.returns
  have hts := atoms_spec (ws := (wG yX8_isNumber cX8_isNumber 1 (some .boolean))) B.pre
  have hown : s.vm.findClass RX8 = some m.cls := findClass_of_methodNamed B.named
  have hlocks := B.notSynchronized
  subst hsz
  have hD := hD0.self (sz := s.heap.size)
  obtain ⟨A, hAe⟩ : ∃ A : Nat → Prop, A = va_A (tw cs q v_t_tapeSize v_t_textSize v_t_faultKind a_t_tape a_t_text a_g_beyond v_g_size a_g_steps a_h_beyond v_h_size a_h_steps a_r_scratch a_r_now v_r_takes v_r_negative v_r_namePlace v_r_faultKind v_r_faultPlace v_a_size v_a_limit v_a_digits v_a_kind v_a_from v_a_to v_o_size a_o_out v_b_size v_b_limit v_b_digits v_b_kind v_b_from v_b_to a_u_atom a_u_other a_u_hand v_u_marksMade v_u_came v_u_guesses v_u_right v_u_taken a_u_vars a_u_marks a_u_outcomes a_u_indexes v_s_things v_s_looked v_s_lookedTooOften v_s_arraysMade v_s_cellsMade a_s_classes a_s_starts a_s_lengths a_s_cells a_L a_K a_vc a_vd a_si a_sj a_iv a_inn a_ac) s.heap.size := ⟨_, rfl⟩
  rw [← hAe] at hD hE
  have hA : ∀ q : Nat, s.heap.size ≤ q → A q := fun q h => by rw [hAe]; exact Or.inr h
  have hS : va_S A s.heap s.heap [] := va_S.rf
  have hl := lv_entry ([.ref o9]) (n := 1) (Nat.le_of_ble_eq_true rfl)
  rw [lg_entry_eq]
  generalize (lg_sl ([.ref o9]) ++ List.replicate (1 - (lg_sl ([.ref o9])).length) Slot.unset).toArray = ls at hl ⊢
  have hl : lv_has ls 1 [(0, .ref o9)] := hl
  refine wq (fun Q hQ => ?_)
  have hinX8 : ∀ w ∈ wsX80, w ∈ (wG yX8_isNumber cX8_isNumber 1 (some .boolean)) := fun w h => List.mem_cons_of_mem _ (inlX8 w h)
  have k_5_2 := hts (.fieldLink RX8 9 "ArrayTrainer$Value" "cls" "I") (List.mem_cons_of_mem _ (wr5 _ (List.mem_of_getElem? (i := 2) rfl)))
  obtain ⟨H, hH⟩ : ∃ H : Heap, H = s.heap := ⟨_, rfl⟩
  obtain ⟨locs, hlc⟩ : ∃ L : List Loc, L = [] := ⟨_, rfl⟩
  have hP : va_P D vwCl (tw cs q v_t_tapeSize v_t_textSize v_t_faultKind a_t_tape a_t_text a_g_beyond v_g_size a_g_steps a_h_beyond v_h_size a_h_steps a_r_scratch a_r_now v_r_takes v_r_negative v_r_namePlace v_r_faultKind v_r_faultPlace v_a_size v_a_limit v_a_digits v_a_kind v_a_from v_a_to v_o_size a_o_out v_b_size v_b_limit v_b_digits v_b_kind v_b_from v_b_to a_u_atom a_u_other a_u_hand v_u_marksMade v_u_came v_u_guesses v_u_right v_u_taken a_u_vars a_u_marks a_u_outcomes a_u_indexes v_s_things v_s_looked v_s_lookedTooOften v_s_arraysMade v_s_cellsMade a_s_classes a_s_starts a_s_lengths a_s_cells a_L a_K a_vc a_vd a_si a_sj a_iv a_inn a_ac) H := by rw [hH]; exact hP
  have hS : va_S A s.heap H locs := by rw [hH, hlc]; exact hS
  refine wHL hH hlc ?_
  refine lv_aload_n hx hb dX8_isNumber_0 rfl (lv_at hl 0 rfl) ?_
  obtain ⟨k1_, hk1_⟩ := pl_V (X := (twX cs q v_t_tapeSize v_t_textSize v_t_faultKind a_t_tape a_t_text a_g_beyond v_g_size a_g_steps a_h_beyond v_h_size a_h_steps a_r_scratch a_r_now v_r_takes v_r_negative v_r_namePlace v_r_faultKind v_r_faultPlace v_a_size v_a_limit v_a_digits v_a_kind v_a_from v_a_to v_o_size a_o_out v_b_size v_b_limit v_b_digits v_b_kind v_b_from v_b_to a_u_atom a_u_other a_u_hand v_u_marksMade v_u_came v_u_guesses v_u_right v_u_taken a_u_vars a_u_marks a_u_outcomes a_u_indexes v_s_things v_s_looked v_s_lookedTooOften v_s_arraysMade v_s_cellsMade a_s_classes a_s_starts a_s_lengths a_s_cells)) (cI := cs 0) (vc := a_vc) (vd := a_vd) (si := a_si) (sj := a_sj) (iv := a_iv) (inn := a_inn) (ac := a_ac) h_o9
  refine va_get (D := D) (ci := 7) (v := .int (a_vc o9)) (C := RX8) (T := TX8) (N := 2) hx hb hts hinX8 hown hK hP k1_ hk1_ rfl 0 (by decide) k_5_2 (fun _ h9 => h9) rfl dX8_isNumber_1 ?_
  refine lv_topi (fun x1 e_x1 => ?_)
  have b_x1 := iB x1
  refine call_iSP (As := [.int x1]) (rest := []) ⟨hx, hb, hml, hown, hts⟩ (tX0_isNumber (l := l) x1) (va_cwS 1 hts (gS (wr39 _ (List.mem_of_getElem? (i := 21) rfl)) (wr19 _ (List.mem_of_getElem? (i := 17) rfl)) (wr19 _ (List.mem_of_getElem? (i := 5) rfl)) (wr19 _ (List.mem_of_getElem? (i := 18) rfl))) rfl rfl rfl (by decide +kernel) ⟨Nat.le_of_ble_eq_true rfl, Nat.le_of_ble_eq_true rfl⟩) (hK.sub [] rfl) hP hD hE hS hA rfl hl.1 rfl (Nat.le_of_ble_eq_true rfl) dX8_isNumber_4 ⟨Nat.le_of_ble_eq_true rfl, Nat.le_of_ble_eq_true rfl⟩ (fun r4 w9 H locs hw4 hP hD hS => ?_)
  obtain ⟨rfl, hw4_0⟩ := hw4
  have b_r4 := iB r4
  subst hAe
  rw [hQ]
  exact W.zret (v := r4) hx hb hr (nbool (by first | omega | decide)) (fun t ht hW => ⟨⟨r4, _, rfl, ⟨rfl, by first | assumption | omega | (intros; omega) | decide⟩, by rw [ht]; exact hP, va_K.moved hW.alike hK, hD⟩, hS.F ht⟩) hS.2.2 dX8_isNumber_7

def rmX8_isArray : Room := { frames := 20, cells := 0, slots := 0, locals := 400 }
set_option maxHeartbeats 4000000 in
set_option maxRecDepth 100000 in
theorem tX8_isArray {l : Launch} {D : va_G} {K : Nat → Nat → Nat} {cs : Nat → ClassId} {q : Nat → Nat} {v_t_tapeSize v_t_textSize v_t_faultKind v_g_size v_h_size v_r_takes v_r_negative v_r_namePlace v_r_faultKind v_r_faultPlace v_a_size v_a_limit v_a_digits v_a_kind v_a_from v_a_to v_o_size v_b_size v_b_limit v_b_digits v_b_kind v_b_from v_b_to v_u_marksMade v_u_came v_u_guesses v_u_right v_u_taken v_s_things v_s_looked v_s_lookedTooOften v_s_arraysMade v_s_cellsMade : Int32} {a_t_tape a_t_text a_o_out a_u_outcomes a_u_indexes a_s_classes a_s_starts a_s_lengths a_vc : Nat → Int32} {a_g_beyond a_h_beyond a_r_scratch a_r_now a_u_atom a_u_other a_u_hand : Nat} {a_g_steps a_h_steps a_u_vars a_u_marks : Nat → Option Nat} {a_s_cells a_vd a_sj : Nat → Int64} {a_L : List Nat} {a_K a_iv a_inn : Nat → Nat} {a_si a_ac : Nat → Nat → Int32} (o9 : Nat) (h_o9 : aV a_L a_K o9) : CtI l yX8_isArray (wG yX8_isArray cX8_isArray 1 (some .boolean)) rmX8_isArray D (twT cs) K [.ref o9] (tw cs q v_t_tapeSize v_t_textSize v_t_faultKind a_t_tape a_t_text a_g_beyond v_g_size a_g_steps a_h_beyond v_h_size a_h_steps a_r_scratch a_r_now v_r_takes v_r_negative v_r_namePlace v_r_faultKind v_r_faultPlace v_a_size v_a_limit v_a_digits v_a_kind v_a_from v_a_to v_o_size a_o_out v_b_size v_b_limit v_b_digits v_b_kind v_b_from v_b_to a_u_atom a_u_other a_u_hand v_u_marksMade v_u_came v_u_guesses v_u_right v_u_taken a_u_vars a_u_marks a_u_outcomes a_u_indexes v_s_things v_s_looked v_s_lookedTooOften v_s_arraysMade v_s_cellsMade a_s_classes a_s_starts a_s_lengths a_s_cells a_L a_K a_vc a_vd a_si a_sj a_iv a_inn a_ac) (fun r w1 => w1 = (tw cs q v_t_tapeSize v_t_textSize v_t_faultKind a_t_tape a_t_text a_g_beyond v_g_size a_g_steps a_h_beyond v_h_size a_h_steps a_r_scratch a_r_now v_r_takes v_r_negative v_r_namePlace v_r_faultKind v_r_faultPlace v_a_size v_a_limit v_a_digits v_a_kind v_a_from v_a_to v_o_size a_o_out v_b_size v_b_limit v_b_digits v_b_kind v_b_from v_b_to a_u_atom a_u_other a_u_hand v_u_marksMade v_u_came v_u_guesses v_u_right v_u_taken a_u_vars a_u_marks a_u_outcomes a_u_indexes v_s_things v_s_looked v_s_lookedTooOften v_s_arraysMade v_s_cellsMade a_s_classes a_s_starts a_s_lengths a_s_cells a_L a_K a_vc a_vd a_si a_sj a_iv a_inn a_ac) ∧ (r.toInt = 0 ∨ r.toInt = 1)) 0 0 := by
  intro sz
  refine Met.ofW (cc := cX8_isArray) (maxL := 1) (ret := (some .boolean)) (by decide) rfl ?_
  intro p e s m args below meth c s₁ B hml hv
  obtain ⟨rfl, hsz, hP, hK, hD0, hE⟩ := hv
  have hx := B.exec
  have hb := B.bytes
  have hr := B.returns
  have hts := atoms_spec (ws := (wG yX8_isArray cX8_isArray 1 (some .boolean))) B.pre
  have hown : s.vm.findClass RX8 = some m.cls := findClass_of_methodNamed B.named
  have hlocks := B.notSynchronized
  subst hsz
  have hD := hD0.self (sz := s.heap.size)
  obtain ⟨A, hAe⟩ : ∃ A : Nat → Prop, A = va_A (tw cs q v_t_tapeSize v_t_textSize v_t_faultKind a_t_tape a_t_text a_g_beyond v_g_size a_g_steps a_h_beyond v_h_size a_h_steps a_r_scratch a_r_now v_r_takes v_r_negative v_r_namePlace v_r_faultKind v_r_faultPlace v_a_size v_a_limit v_a_digits v_a_kind v_a_from v_a_to v_o_size a_o_out v_b_size v_b_limit v_b_digits v_b_kind v_b_from v_b_to a_u_atom a_u_other a_u_hand v_u_marksMade v_u_came v_u_guesses v_u_right v_u_taken a_u_vars a_u_marks a_u_outcomes a_u_indexes v_s_things v_s_looked v_s_lookedTooOften v_s_arraysMade v_s_cellsMade a_s_classes a_s_starts a_s_lengths a_s_cells a_L a_K a_vc a_vd a_si a_sj a_iv a_inn a_ac) s.heap.size := ⟨_, rfl⟩
  rw [← hAe] at hD hE
  have hA : ∀ q : Nat, s.heap.size ≤ q → A q := fun q h => by rw [hAe]; exact Or.inr h
  have hS : va_S A s.heap s.heap [] := va_S.rf
  have hl := lv_entry ([.ref o9]) (n := 1) (Nat.le_of_ble_eq_true rfl)
  rw [lg_entry_eq]
  generalize (lg_sl ([.ref o9]) ++ List.replicate (1 - (lg_sl ([.ref o9])).length) Slot.unset).toArray = ls at hl ⊢
  have hl : lv_has ls 1 [(0, .ref o9)] := hl
  refine wq (fun Q hQ => ?_)
  have hinX8 : ∀ w ∈ wsX80, w ∈ (wG yX8_isArray cX8_isArray 1 (some .boolean)) := fun w h => List.mem_cons_of_mem _ (inlX8 w h)
  have kc0 : (0 : Int32).toInt = 0 := by decide
  have kc1 : (1 : Int32).toInt = 1 := by decide
  have kc2 : (20 : Int32).toInt = 20 := by decide
  have k_5_2 := hts (.fieldLink RX8 9 "ArrayTrainer$Value" "cls" "I") (List.mem_cons_of_mem _ (wr5 _ (List.mem_of_getElem? (i := 2) rfl)))
  obtain ⟨H, hH⟩ : ∃ H : Heap, H = s.heap := ⟨_, rfl⟩
  obtain ⟨locs, hlc⟩ : ∃ L : List Loc, L = [] := ⟨_, rfl⟩
  have hP : va_P D vwCl (tw cs q v_t_tapeSize v_t_textSize v_t_faultKind a_t_tape a_t_text a_g_beyond v_g_size a_g_steps a_h_beyond v_h_size a_h_steps a_r_scratch a_r_now v_r_takes v_r_negative v_r_namePlace v_r_faultKind v_r_faultPlace v_a_size v_a_limit v_a_digits v_a_kind v_a_from v_a_to v_o_size a_o_out v_b_size v_b_limit v_b_digits v_b_kind v_b_from v_b_to a_u_atom a_u_other a_u_hand v_u_marksMade v_u_came v_u_guesses v_u_right v_u_taken a_u_vars a_u_marks a_u_outcomes a_u_indexes v_s_things v_s_looked v_s_lookedTooOften v_s_arraysMade v_s_cellsMade a_s_classes a_s_starts a_s_lengths a_s_cells a_L a_K a_vc a_vd a_si a_sj a_iv a_inn a_ac) H := by rw [hH]; exact hP
  have hS : va_S A s.heap H locs := by rw [hH, hlc]; exact hS
  refine wHL hH hlc ?_
  refine lv_aload_n hx hb dX8_isArray_0 rfl (lv_at hl 0 rfl) ?_
  obtain ⟨k1_, hk1_⟩ := pl_V (X := (twX cs q v_t_tapeSize v_t_textSize v_t_faultKind a_t_tape a_t_text a_g_beyond v_g_size a_g_steps a_h_beyond v_h_size a_h_steps a_r_scratch a_r_now v_r_takes v_r_negative v_r_namePlace v_r_faultKind v_r_faultPlace v_a_size v_a_limit v_a_digits v_a_kind v_a_from v_a_to v_o_size a_o_out v_b_size v_b_limit v_b_digits v_b_kind v_b_from v_b_to a_u_atom a_u_other a_u_hand v_u_marksMade v_u_came v_u_guesses v_u_right v_u_taken a_u_vars a_u_marks a_u_outcomes a_u_indexes v_s_things v_s_looked v_s_lookedTooOften v_s_arraysMade v_s_cellsMade a_s_classes a_s_starts a_s_lengths a_s_cells)) (cI := cs 0) (vc := a_vc) (vd := a_vd) (si := a_si) (sj := a_sj) (iv := a_iv) (inn := a_inn) (ac := a_ac) h_o9
  refine va_get (D := D) (ci := 7) (v := .int (a_vc o9)) (C := RX8) (T := TX8) (N := 2) hx hb hts hinX8 hown hK hP k1_ hk1_ rfl 0 (by decide) k_5_2 (fun _ h9 => h9) rfl dX8_isArray_1 ?_
  refine lv_topi (fun x1 e_x1 => ?_)
  have b_x1 := iB x1
  refine lv_bipush (v := 20) hx hb dX8_isArray_4 (by decide) ?_
  refine m_icmp_lt (X := x1.toInt) (Y := 20) (tgt := 13) hx hb dX8_isArray_6 (by decide) rfl (by decide) (fun c6 => ?_) (fun c6 => ?_)
  · skip
    refine lv_iconst (v := 0) hx hb dX8_isArray_13 (by decide) ?_
    subst hAe
    rw [hQ]
    exact W.zret (v := 0) hx hb hr (by decide) (fun t ht hW => ⟨⟨0, _, rfl, ⟨rfl, by first | assumption | omega | (intros; omega) | decide⟩, by rw [ht]; exact hP, va_K.moved hW.alike hK, hD⟩, hS.F ht⟩) hS.2.2 dX8_isArray_14
  · skip
    refine lv_iconst (v := 1) hx hb dX8_isArray_9 (by decide) ?_
    refine lv_goto (tgt := 14) hx hb dX8_isArray_10 (by decide) ?_
    subst hAe
    rw [hQ]
    exact W.zret (v := 1) hx hb hr (by decide) (fun t ht hW => ⟨⟨1, _, rfl, ⟨rfl, by first | assumption | omega | (intros; omega) | decide⟩, by rw [ht]; exact hP, va_K.moved hW.alike hK, hD⟩, hS.F ht⟩) hS.2.2 dX8_isArray_14

def rmX8_isLike : Room := { frames := 20, cells := 0, slots := 0, locals := 400 }
set_option maxHeartbeats 4000000 in
set_option maxRecDepth 100000 in
theorem tX8_isLike {l : Launch} {D : va_G} {K : Nat → Nat → Nat} {cs : Nat → ClassId} {q : Nat → Nat} {v_t_tapeSize v_t_textSize v_t_faultKind v_g_size v_h_size v_r_takes v_r_negative v_r_namePlace v_r_faultKind v_r_faultPlace v_a_size v_a_limit v_a_digits v_a_kind v_a_from v_a_to v_o_size v_b_size v_b_limit v_b_digits v_b_kind v_b_from v_b_to v_u_marksMade v_u_came v_u_guesses v_u_right v_u_taken v_s_things v_s_looked v_s_lookedTooOften v_s_arraysMade v_s_cellsMade : Int32} {a_t_tape a_t_text a_o_out a_u_outcomes a_u_indexes a_s_classes a_s_starts a_s_lengths a_vc : Nat → Int32} {a_g_beyond a_h_beyond a_r_scratch a_r_now a_u_atom a_u_other a_u_hand : Nat} {a_g_steps a_h_steps a_u_vars a_u_marks : Nat → Option Nat} {a_s_cells a_vd a_sj : Nat → Int64} {a_L : List Nat} {a_K a_iv a_inn : Nat → Nat} {a_si a_ac : Nat → Nat → Int32} (o9 : Nat) (h_o9 : aV a_L a_K o9) (v9 : Nat) (h_v9 : aV a_L a_K v9) : CtI l yX8_isLike (wG yX8_isLike cX8_isLike 2 (some .boolean)) rmX8_isLike D (twT cs) K [.ref o9, .ref v9] (tw cs q v_t_tapeSize v_t_textSize v_t_faultKind a_t_tape a_t_text a_g_beyond v_g_size a_g_steps a_h_beyond v_h_size a_h_steps a_r_scratch a_r_now v_r_takes v_r_negative v_r_namePlace v_r_faultKind v_r_faultPlace v_a_size v_a_limit v_a_digits v_a_kind v_a_from v_a_to v_o_size a_o_out v_b_size v_b_limit v_b_digits v_b_kind v_b_from v_b_to a_u_atom a_u_other a_u_hand v_u_marksMade v_u_came v_u_guesses v_u_right v_u_taken a_u_vars a_u_marks a_u_outcomes a_u_indexes v_s_things v_s_looked v_s_lookedTooOften v_s_arraysMade v_s_cellsMade a_s_classes a_s_starts a_s_lengths a_s_cells a_L a_K a_vc a_vd a_si a_sj a_iv a_inn a_ac) (fun r w1 => w1 = (tw cs q v_t_tapeSize v_t_textSize v_t_faultKind a_t_tape a_t_text a_g_beyond v_g_size a_g_steps a_h_beyond v_h_size a_h_steps a_r_scratch a_r_now v_r_takes v_r_negative v_r_namePlace v_r_faultKind v_r_faultPlace v_a_size v_a_limit v_a_digits v_a_kind v_a_from v_a_to v_o_size a_o_out v_b_size v_b_limit v_b_digits v_b_kind v_b_from v_b_to a_u_atom a_u_other a_u_hand v_u_marksMade v_u_came v_u_guesses v_u_right v_u_taken a_u_vars a_u_marks a_u_outcomes a_u_indexes v_s_things v_s_looked v_s_lookedTooOften v_s_arraysMade v_s_cellsMade a_s_classes a_s_starts a_s_lengths a_s_cells a_L a_K a_vc a_vd a_si a_sj a_iv a_inn a_ac) ∧ (r.toInt = 0 ∨ r.toInt = 1)) 0 0 := by
  intro sz
  refine Met.ofW (cc := cX8_isLike) (maxL := 2) (ret := (some .boolean)) (by decide) rfl ?_
  intro p e s m args below meth c s₁ B hml hv
  obtain ⟨rfl, hsz, hP, hK, hD0, hE⟩ := hv
  have hx := B.exec
  have hb := B.bytes
  have hr := B.returns
  have hts := atoms_spec (ws := (wG yX8_isLike cX8_isLike 2 (some .boolean))) B.pre
  have hown : s.vm.findClass RX8 = some m.cls := findClass_of_methodNamed B.named
  have hlocks := B.notSynchronized
  subst hsz
  have hD := hD0.self (sz := s.heap.size)
  obtain ⟨A, hAe⟩ : ∃ A : Nat → Prop, A = va_A (tw cs q v_t_tapeSize v_t_textSize v_t_faultKind a_t_tape a_t_text a_g_beyond v_g_size a_g_steps a_h_beyond v_h_size a_h_steps a_r_scratch a_r_now v_r_takes v_r_negative v_r_namePlace v_r_faultKind v_r_faultPlace v_a_size v_a_limit v_a_digits v_a_kind v_a_from v_a_to v_o_size a_o_out v_b_size v_b_limit v_b_digits v_b_kind v_b_from v_b_to a_u_atom a_u_other a_u_hand v_u_marksMade v_u_came v_u_guesses v_u_right v_u_taken a_u_vars a_u_marks a_u_outcomes a_u_indexes v_s_things v_s_looked v_s_lookedTooOften v_s_arraysMade v_s_cellsMade a_s_classes a_s_starts a_s_lengths a_s_cells a_L a_K a_vc a_vd a_si a_sj a_iv a_inn a_ac) s.heap.size := ⟨_, rfl⟩
  rw [← hAe] at hD hE
  have hA : ∀ q : Nat, s.heap.size ≤ q → A q := fun q h => by rw [hAe]; exact Or.inr h
  have hS : va_S A s.heap s.heap [] := va_S.rf
  have hl := lv_entry ([.ref o9, .ref v9]) (n := 2) (Nat.le_of_ble_eq_true rfl)
  rw [lg_entry_eq]
  generalize (lg_sl ([.ref o9, .ref v9]) ++ List.replicate (2 - (lg_sl ([.ref o9, .ref v9])).length) Slot.unset).toArray = ls at hl ⊢
  have hl : lv_has ls 2 [(0, .ref o9), (1, .ref v9)] := hl
  refine wq (fun Q hQ => ?_)
  have hinX8 : ∀ w ∈ wsX80, w ∈ (wG yX8_isLike cX8_isLike 2 (some .boolean)) := fun w h => List.mem_cons_of_mem _ (inlX8 w h)
  have kc0 : (0 : Int32).toInt = 0 := by decide
  have kc1 : (1 : Int32).toInt = 1 := by decide
  have k_5_2 := hts (.fieldLink RX8 9 "ArrayTrainer$Value" "cls" "I") (List.mem_cons_of_mem _ (wr5 _ (List.mem_of_getElem? (i := 2) rfl)))
  have k_22_6 := hts (.fieldLink RX8 15 "ArrayTrainer$Value" "datum" "J") (List.mem_cons_of_mem _ (wr22 _ (List.mem_of_getElem? (i := 6) rfl)))
  obtain ⟨H, hH⟩ : ∃ H : Heap, H = s.heap := ⟨_, rfl⟩
  obtain ⟨locs, hlc⟩ : ∃ L : List Loc, L = [] := ⟨_, rfl⟩
  have hP : va_P D vwCl (tw cs q v_t_tapeSize v_t_textSize v_t_faultKind a_t_tape a_t_text a_g_beyond v_g_size a_g_steps a_h_beyond v_h_size a_h_steps a_r_scratch a_r_now v_r_takes v_r_negative v_r_namePlace v_r_faultKind v_r_faultPlace v_a_size v_a_limit v_a_digits v_a_kind v_a_from v_a_to v_o_size a_o_out v_b_size v_b_limit v_b_digits v_b_kind v_b_from v_b_to a_u_atom a_u_other a_u_hand v_u_marksMade v_u_came v_u_guesses v_u_right v_u_taken a_u_vars a_u_marks a_u_outcomes a_u_indexes v_s_things v_s_looked v_s_lookedTooOften v_s_arraysMade v_s_cellsMade a_s_classes a_s_starts a_s_lengths a_s_cells a_L a_K a_vc a_vd a_si a_sj a_iv a_inn a_ac) H := by rw [hH]; exact hP
  have hS : va_S A s.heap H locs := by rw [hH, hlc]; exact hS
  refine wHL hH hlc ?_
  refine lv_aload_n hx hb dX8_isLike_0 rfl (lv_at hl 0 rfl) ?_
  obtain ⟨k1_, hk1_⟩ := pl_V (X := (twX cs q v_t_tapeSize v_t_textSize v_t_faultKind a_t_tape a_t_text a_g_beyond v_g_size a_g_steps a_h_beyond v_h_size a_h_steps a_r_scratch a_r_now v_r_takes v_r_negative v_r_namePlace v_r_faultKind v_r_faultPlace v_a_size v_a_limit v_a_digits v_a_kind v_a_from v_a_to v_o_size a_o_out v_b_size v_b_limit v_b_digits v_b_kind v_b_from v_b_to a_u_atom a_u_other a_u_hand v_u_marksMade v_u_came v_u_guesses v_u_right v_u_taken a_u_vars a_u_marks a_u_outcomes a_u_indexes v_s_things v_s_looked v_s_lookedTooOften v_s_arraysMade v_s_cellsMade a_s_classes a_s_starts a_s_lengths a_s_cells)) (cI := cs 0) (vc := a_vc) (vd := a_vd) (si := a_si) (sj := a_sj) (iv := a_iv) (inn := a_inn) (ac := a_ac) h_o9
  refine va_get (D := D) (ci := 7) (v := .int (a_vc o9)) (C := RX8) (T := TX8) (N := 2) hx hb hts hinX8 hown hK hP k1_ hk1_ rfl 0 (by decide) k_5_2 (fun _ h9 => h9) rfl dX8_isLike_1 ?_
  refine lv_topi (fun x1 e_x1 => ?_)
  have b_x1 := iB x1
  refine lv_aload_n hx hb dX8_isLike_4 rfl (lv_at hl 1 rfl) ?_
  obtain ⟨k5_, hk5_⟩ := pl_V (X := (twX cs q v_t_tapeSize v_t_textSize v_t_faultKind a_t_tape a_t_text a_g_beyond v_g_size a_g_steps a_h_beyond v_h_size a_h_steps a_r_scratch a_r_now v_r_takes v_r_negative v_r_namePlace v_r_faultKind v_r_faultPlace v_a_size v_a_limit v_a_digits v_a_kind v_a_from v_a_to v_o_size a_o_out v_b_size v_b_limit v_b_digits v_b_kind v_b_from v_b_to a_u_atom a_u_other a_u_hand v_u_marksMade v_u_came v_u_guesses v_u_right v_u_taken a_u_vars a_u_marks a_u_outcomes a_u_indexes v_s_things v_s_looked v_s_lookedTooOften v_s_arraysMade v_s_cellsMade a_s_classes a_s_starts a_s_lengths a_s_cells)) (cI := cs 0) (vc := a_vc) (vd := a_vd) (si := a_si) (sj := a_sj) (iv := a_iv) (inn := a_inn) (ac := a_ac) h_v9
  refine va_get (D := D) (ci := 7) (v := .int (a_vc v9)) (C := RX8) (T := TX8) (N := 2) hx hb hts hinX8 hown hK hP k5_ hk5_ rfl 0 (by decide) k_5_2 (fun _ h9 => h9) rfl dX8_isLike_5 ?_
  refine lv_topi (fun x5 e_x5 => ?_)
  have b_x5 := iB x5
  refine m_icmp_ne (X := x1.toInt) (Y := x5.toInt) (tgt := 27) hx hb dX8_isLike_8 (by decide) rfl rfl (fun c8 => ?_) (fun c8 => ?_)
  · skip
    refine lv_iconst (v := 0) hx hb dX8_isLike_27 (by decide) ?_
    subst hAe
    rw [hQ]
    exact W.zret (v := 0) hx hb hr (by decide) (fun t ht hW => ⟨⟨0, _, rfl, ⟨rfl, by first | assumption | omega | (intros; omega) | decide⟩, by rw [ht]; exact hP, va_K.moved hW.alike hK, hD⟩, hS.F ht⟩) hS.2.2 dX8_isLike_28
  · skip
    refine lv_aload_n hx hb dX8_isLike_11 rfl (lv_at hl 0 rfl) ?_
    obtain ⟨k12_, hk12_⟩ := pl_V (X := (twX cs q v_t_tapeSize v_t_textSize v_t_faultKind a_t_tape a_t_text a_g_beyond v_g_size a_g_steps a_h_beyond v_h_size a_h_steps a_r_scratch a_r_now v_r_takes v_r_negative v_r_namePlace v_r_faultKind v_r_faultPlace v_a_size v_a_limit v_a_digits v_a_kind v_a_from v_a_to v_o_size a_o_out v_b_size v_b_limit v_b_digits v_b_kind v_b_from v_b_to a_u_atom a_u_other a_u_hand v_u_marksMade v_u_came v_u_guesses v_u_right v_u_taken a_u_vars a_u_marks a_u_outcomes a_u_indexes v_s_things v_s_looked v_s_lookedTooOften v_s_arraysMade v_s_cellsMade a_s_classes a_s_starts a_s_lengths a_s_cells)) (cI := cs 0) (vc := a_vc) (vd := a_vd) (si := a_si) (sj := a_sj) (iv := a_iv) (inn := a_inn) (ac := a_ac) h_o9
    refine va_get (D := D) (ci := 7) (v := .long (a_vd o9)) (C := RX8) (T := TX8) (N := 2) hx hb hts hinX8 hown hK hP k12_ hk12_ rfl 1 (by decide) k_22_6 (fun _ h9 => h9) rfl dX8_isLike_12 ?_
    refine lv_topl (fun x12 e_x12 => ?_)
    have b_x12 := jB x12
    refine lv_aload_n hx hb dX8_isLike_15 rfl (lv_at hl 1 rfl) ?_
    obtain ⟨k16_, hk16_⟩ := pl_V (X := (twX cs q v_t_tapeSize v_t_textSize v_t_faultKind a_t_tape a_t_text a_g_beyond v_g_size a_g_steps a_h_beyond v_h_size a_h_steps a_r_scratch a_r_now v_r_takes v_r_negative v_r_namePlace v_r_faultKind v_r_faultPlace v_a_size v_a_limit v_a_digits v_a_kind v_a_from v_a_to v_o_size a_o_out v_b_size v_b_limit v_b_digits v_b_kind v_b_from v_b_to a_u_atom a_u_other a_u_hand v_u_marksMade v_u_came v_u_guesses v_u_right v_u_taken a_u_vars a_u_marks a_u_outcomes a_u_indexes v_s_things v_s_looked v_s_lookedTooOften v_s_arraysMade v_s_cellsMade a_s_classes a_s_starts a_s_lengths a_s_cells)) (cI := cs 0) (vc := a_vc) (vd := a_vd) (si := a_si) (sj := a_sj) (iv := a_iv) (inn := a_inn) (ac := a_ac) h_v9
    refine va_get (D := D) (ci := 7) (v := .long (a_vd v9)) (C := RX8) (T := TX8) (N := 2) hx hb hts hinX8 hown hK hP k16_ hk16_ rfl 1 (by decide) k_22_6 (fun _ h9 => h9) rfl dX8_isLike_16 ?_
    refine lv_topl (fun x16 e_x16 => ?_)
    have b_x16 := jB x16
    refine m_lcmp (X := x12.toInt) (Y := x16.toInt) hx hb dX8_isLike_19 rfl rfl (fun x19 g_x19 => ?_)
    refine m_if_ne (X := x19.toInt) (tgt := 27) hx hb dX8_isLike_20 (by decide) rfl (fun c20 => ?_) (fun c20 => ?_)
    · skip
      refine lv_iconst (v := 0) hx hb dX8_isLike_27 (by decide) ?_
      subst hAe
      rw [hQ]
      exact W.zret (v := 0) hx hb hr (by decide) (fun t ht hW => ⟨⟨0, _, rfl, ⟨rfl, by first | assumption | omega | (intros; omega) | decide⟩, by rw [ht]; exact hP, va_K.moved hW.alike hK, hD⟩, hS.F ht⟩) hS.2.2 dX8_isLike_28
    · skip
      refine lv_iconst (v := 1) hx hb dX8_isLike_23 (by decide) ?_
      refine lv_goto (tgt := 28) hx hb dX8_isLike_24 (by decide) ?_
      subst hAe
      rw [hQ]
      exact W.zret (v := 1) hx hb hr (by decide) (fun t ht hW => ⟨⟨1, _, rfl, ⟨rfl, by first | assumption | omega | (intros; omega) | decide⟩, by rw [ht]; exact hP, va_K.moved hW.alike hK, hD⟩, hS.F ht⟩) hS.2.2 dX8_isLike_28

def rmX8_array : Room := { frames := 20, cells := 0, slots := 0, locals := 400 }
set_option maxHeartbeats 4000000 in
set_option maxRecDepth 100000 in
theorem tX8_array {l : Launch} {D : va_G} {K : Nat → Nat → Nat} {cs : Nat → ClassId} {q : Nat → Nat} {v_t_tapeSize v_t_textSize v_t_faultKind v_g_size v_h_size v_r_takes v_r_negative v_r_namePlace v_r_faultKind v_r_faultPlace v_a_size v_a_limit v_a_digits v_a_kind v_a_from v_a_to v_o_size v_b_size v_b_limit v_b_digits v_b_kind v_b_from v_b_to v_u_marksMade v_u_came v_u_guesses v_u_right v_u_taken v_s_things v_s_looked v_s_lookedTooOften v_s_arraysMade v_s_cellsMade : Int32} {a_t_tape a_t_text a_o_out a_u_outcomes a_u_indexes a_s_classes a_s_starts a_s_lengths a_vc : Nat → Int32} {a_g_beyond a_h_beyond a_r_scratch a_r_now a_u_atom a_u_other a_u_hand : Nat} {a_g_steps a_h_steps a_u_vars a_u_marks : Nat → Option Nat} {a_s_cells a_vd a_sj : Nat → Int64} {a_L : List Nat} {a_K a_iv a_inn : Nat → Nat} {a_si a_ac : Nat → Nat → Int32} (o9 : Nat) (h_o9 : aV a_L a_K o9) : CtI l yX8_array (wG yX8_array cX8_array 1 (some .int)) rmX8_array D (twT cs) K [.ref o9] (tw cs q v_t_tapeSize v_t_textSize v_t_faultKind a_t_tape a_t_text a_g_beyond v_g_size a_g_steps a_h_beyond v_h_size a_h_steps a_r_scratch a_r_now v_r_takes v_r_negative v_r_namePlace v_r_faultKind v_r_faultPlace v_a_size v_a_limit v_a_digits v_a_kind v_a_from v_a_to v_o_size a_o_out v_b_size v_b_limit v_b_digits v_b_kind v_b_from v_b_to a_u_atom a_u_other a_u_hand v_u_marksMade v_u_came v_u_guesses v_u_right v_u_taken a_u_vars a_u_marks a_u_outcomes a_u_indexes v_s_things v_s_looked v_s_lookedTooOften v_s_arraysMade v_s_cellsMade a_s_classes a_s_starts a_s_lengths a_s_cells a_L a_K a_vc a_vd a_si a_sj a_iv a_inn a_ac) (fun r w1 => w1 = (tw cs q v_t_tapeSize v_t_textSize v_t_faultKind a_t_tape a_t_text a_g_beyond v_g_size a_g_steps a_h_beyond v_h_size a_h_steps a_r_scratch a_r_now v_r_takes v_r_negative v_r_namePlace v_r_faultKind v_r_faultPlace v_a_size v_a_limit v_a_digits v_a_kind v_a_from v_a_to v_o_size a_o_out v_b_size v_b_limit v_b_digits v_b_kind v_b_from v_b_to a_u_atom a_u_other a_u_hand v_u_marksMade v_u_came v_u_guesses v_u_right v_u_taken a_u_vars a_u_marks a_u_outcomes a_u_indexes v_s_things v_s_looked v_s_lookedTooOften v_s_arraysMade v_s_cellsMade a_s_classes a_s_starts a_s_lengths a_s_cells a_L a_K a_vc a_vd a_si a_sj a_iv a_inn a_ac)) 0 0 := by
  intro sz
  refine Met.ofW (cc := cX8_array) (maxL := 1) (ret := (some .int)) (by decide) rfl ?_
  intro p e s m args below meth c s₁ B hml hv
  obtain ⟨rfl, hsz, hP, hK, hD0, hE⟩ := hv
  have hx := B.exec
  have hb := B.bytes
  have hr := B.returns
  have hts := atoms_spec (ws := (wG yX8_array cX8_array 1 (some .int))) B.pre
  have hown : s.vm.findClass RX8 = some m.cls := findClass_of_methodNamed B.named
  have hlocks := B.notSynchronized
  subst hsz
  have hD := hD0.self (sz := s.heap.size)
  obtain ⟨A, hAe⟩ : ∃ A : Nat → Prop, A = va_A (tw cs q v_t_tapeSize v_t_textSize v_t_faultKind a_t_tape a_t_text a_g_beyond v_g_size a_g_steps a_h_beyond v_h_size a_h_steps a_r_scratch a_r_now v_r_takes v_r_negative v_r_namePlace v_r_faultKind v_r_faultPlace v_a_size v_a_limit v_a_digits v_a_kind v_a_from v_a_to v_o_size a_o_out v_b_size v_b_limit v_b_digits v_b_kind v_b_from v_b_to a_u_atom a_u_other a_u_hand v_u_marksMade v_u_came v_u_guesses v_u_right v_u_taken a_u_vars a_u_marks a_u_outcomes a_u_indexes v_s_things v_s_looked v_s_lookedTooOften v_s_arraysMade v_s_cellsMade a_s_classes a_s_starts a_s_lengths a_s_cells a_L a_K a_vc a_vd a_si a_sj a_iv a_inn a_ac) s.heap.size := ⟨_, rfl⟩
  rw [← hAe] at hD hE
  have hA : ∀ q : Nat, s.heap.size ≤ q → A q := fun q h => by rw [hAe]; exact Or.inr h
  have hS : va_S A s.heap s.heap [] := va_S.rf
  have hl := lv_entry ([.ref o9]) (n := 1) (Nat.le_of_ble_eq_true rfl)
  rw [lg_entry_eq]
  generalize (lg_sl ([.ref o9]) ++ List.replicate (1 - (lg_sl ([.ref o9])).length) Slot.unset).toArray = ls at hl ⊢
  have hl : lv_has ls 1 [(0, .ref o9)] := hl
  refine wq (fun Q hQ => ?_)
  have hinX8 : ∀ w ∈ wsX80, w ∈ (wG yX8_array cX8_array 1 (some .int)) := fun w h => List.mem_cons_of_mem _ (inlX8 w h)
  have kc0 : (0 : Int32).toInt = 0 := by decide
  have kc1 : (20 : Int32).toInt = 20 := by decide
  have k_5_2 := hts (.fieldLink RX8 9 "ArrayTrainer$Value" "cls" "I") (List.mem_cons_of_mem _ (wr5 _ (List.mem_of_getElem? (i := 2) rfl)))
  have k_22_6 := hts (.fieldLink RX8 15 "ArrayTrainer$Value" "datum" "J") (List.mem_cons_of_mem _ (wr22 _ (List.mem_of_getElem? (i := 6) rfl)))
  obtain ⟨H, hH⟩ : ∃ H : Heap, H = s.heap := ⟨_, rfl⟩
  obtain ⟨locs, hlc⟩ : ∃ L : List Loc, L = [] := ⟨_, rfl⟩
  have hP : va_P D vwCl (tw cs q v_t_tapeSize v_t_textSize v_t_faultKind a_t_tape a_t_text a_g_beyond v_g_size a_g_steps a_h_beyond v_h_size a_h_steps a_r_scratch a_r_now v_r_takes v_r_negative v_r_namePlace v_r_faultKind v_r_faultPlace v_a_size v_a_limit v_a_digits v_a_kind v_a_from v_a_to v_o_size a_o_out v_b_size v_b_limit v_b_digits v_b_kind v_b_from v_b_to a_u_atom a_u_other a_u_hand v_u_marksMade v_u_came v_u_guesses v_u_right v_u_taken a_u_vars a_u_marks a_u_outcomes a_u_indexes v_s_things v_s_looked v_s_lookedTooOften v_s_arraysMade v_s_cellsMade a_s_classes a_s_starts a_s_lengths a_s_cells a_L a_K a_vc a_vd a_si a_sj a_iv a_inn a_ac) H := by rw [hH]; exact hP
  have hS : va_S A s.heap H locs := by rw [hH, hlc]; exact hS
  refine wHL hH hlc ?_
  refine lv_aload_n hx hb dX8_array_0 rfl (lv_at hl 0 rfl) ?_
  obtain ⟨k1_, hk1_⟩ := pl_V (X := (twX cs q v_t_tapeSize v_t_textSize v_t_faultKind a_t_tape a_t_text a_g_beyond v_g_size a_g_steps a_h_beyond v_h_size a_h_steps a_r_scratch a_r_now v_r_takes v_r_negative v_r_namePlace v_r_faultKind v_r_faultPlace v_a_size v_a_limit v_a_digits v_a_kind v_a_from v_a_to v_o_size a_o_out v_b_size v_b_limit v_b_digits v_b_kind v_b_from v_b_to a_u_atom a_u_other a_u_hand v_u_marksMade v_u_came v_u_guesses v_u_right v_u_taken a_u_vars a_u_marks a_u_outcomes a_u_indexes v_s_things v_s_looked v_s_lookedTooOften v_s_arraysMade v_s_cellsMade a_s_classes a_s_starts a_s_lengths a_s_cells)) (cI := cs 0) (vc := a_vc) (vd := a_vd) (si := a_si) (sj := a_sj) (iv := a_iv) (inn := a_inn) (ac := a_ac) h_o9
  refine va_get (D := D) (ci := 7) (v := .int (a_vc o9)) (C := RX8) (T := TX8) (N := 2) hx hb hts hinX8 hown hK hP k1_ hk1_ rfl 0 (by decide) k_5_2 (fun _ h9 => h9) rfl dX8_array_1 ?_
  refine lv_topi (fun x1 e_x1 => ?_)
  have b_x1 := iB x1
  refine lv_bipush (v := 20) hx hb dX8_array_4 (by decide) ?_
  refine m_icmp_lt (X := x1.toInt) (Y := 20) (tgt := 17) hx hb dX8_array_6 (by decide) rfl (by decide) (fun c6 => ?_) (fun c6 => ?_)
  · skip
    refine lv_iconst (v := 0) hx hb dX8_array_17 (by decide) ?_
    subst hAe
    rw [hQ]
    exact W.iret (v := 0) hx hb hr (fun t ht hW => ⟨⟨0, _, rfl, rfl, by rw [ht]; exact hP, va_K.moved hW.alike hK, hD⟩, hS.F ht⟩) hS.2.2 dX8_array_18
  · skip
    refine lv_aload_n hx hb dX8_array_9 rfl (lv_at hl 0 rfl) ?_
    obtain ⟨k10_, hk10_⟩ := pl_V (X := (twX cs q v_t_tapeSize v_t_textSize v_t_faultKind a_t_tape a_t_text a_g_beyond v_g_size a_g_steps a_h_beyond v_h_size a_h_steps a_r_scratch a_r_now v_r_takes v_r_negative v_r_namePlace v_r_faultKind v_r_faultPlace v_a_size v_a_limit v_a_digits v_a_kind v_a_from v_a_to v_o_size a_o_out v_b_size v_b_limit v_b_digits v_b_kind v_b_from v_b_to a_u_atom a_u_other a_u_hand v_u_marksMade v_u_came v_u_guesses v_u_right v_u_taken a_u_vars a_u_marks a_u_outcomes a_u_indexes v_s_things v_s_looked v_s_lookedTooOften v_s_arraysMade v_s_cellsMade a_s_classes a_s_starts a_s_lengths a_s_cells)) (cI := cs 0) (vc := a_vc) (vd := a_vd) (si := a_si) (sj := a_sj) (iv := a_iv) (inn := a_inn) (ac := a_ac) h_o9
    refine va_get (D := D) (ci := 7) (v := .long (a_vd o9)) (C := RX8) (T := TX8) (N := 2) hx hb hts hinX8 hown hK hP k10_ hk10_ rfl 1 (by decide) k_22_6 (fun _ h9 => h9) rfl dX8_array_10 ?_
    refine lv_topl (fun x10 e_x10 => ?_)
    have b_x10 := jB x10
    refine m_l2i hx hb dX8_array_13 (fun x13 e_x13 => ?_)
    have b_x13 := iB x13
    refine lv_goto (tgt := 18) hx hb dX8_array_14 (by decide) ?_
    subst hAe
    rw [hQ]
    exact W.iret (v := x13) hx hb hr (fun t ht hW => ⟨⟨x13, _, rfl, rfl, by rw [ht]; exact hP, va_K.moved hW.alike hK, hD⟩, hS.F ht⟩) hS.2.2 dX8_array_18

def rmX6_clear : Room := { frames := 20, cells := 0, slots := 0, locals := 400 }
set_option maxHeartbeats 4000000 in
set_option maxRecDepth 100000 in
theorem tX6_clear {l : Launch} {D : va_G} {K : Nat → Nat → Nat} {cs : Nat → ClassId} {q : Nat → Nat} {v_t_tapeSize v_t_textSize v_t_faultKind v_g_size v_h_size v_r_takes v_r_negative v_r_namePlace v_r_faultKind v_r_faultPlace v_a_size v_a_limit v_a_digits v_a_kind v_a_from v_a_to v_o_size v_b_size v_b_limit v_b_digits v_b_kind v_b_from v_b_to v_u_marksMade v_u_came v_u_guesses v_u_right v_u_taken v_s_things v_s_looked v_s_lookedTooOften v_s_arraysMade v_s_cellsMade : Int32} {a_t_tape a_t_text a_o_out a_u_outcomes a_u_indexes a_s_classes a_s_starts a_s_lengths a_vc : Nat → Int32} {a_g_beyond a_h_beyond a_r_scratch a_r_now a_u_atom a_u_other a_u_hand : Nat} {a_g_steps a_h_steps a_u_vars a_u_marks : Nat → Option Nat} {a_s_cells a_vd a_sj : Nat → Int64} {a_L : List Nat} {a_K a_iv a_inn : Nat → Nat} {a_si a_ac : Nat → Nat → Int32} (o9 : Nat) (h_o9 : aS a_L a_K o9) (f9 : Int32) (p_0 : PI a_L a_K a_si a_iv a_inn) : CtV l yX6_clear (wG yX6_clear cX6_clear 2 none) rmX6_clear D (twT cs) K [.ref o9, .int f9] (tw cs q v_t_tapeSize v_t_textSize v_t_faultKind a_t_tape a_t_text a_g_beyond v_g_size a_g_steps a_h_beyond v_h_size a_h_steps a_r_scratch a_r_now v_r_takes v_r_negative v_r_namePlace v_r_faultKind v_r_faultPlace v_a_size v_a_limit v_a_digits v_a_kind v_a_from v_a_to v_o_size a_o_out v_b_size v_b_limit v_b_digits v_b_kind v_b_from v_b_to a_u_atom a_u_other a_u_hand v_u_marksMade v_u_came v_u_guesses v_u_right v_u_taken a_u_vars a_u_marks a_u_outcomes a_u_indexes v_s_things v_s_looked v_s_lookedTooOften v_s_arraysMade v_s_cellsMade a_s_classes a_s_starts a_s_lengths a_s_cells a_L a_K a_vc a_vd a_si a_sj a_iv a_inn a_ac) (fun w1 => ∃ (a_si' : Nat → Nat → Int32) (a_sj' : Nat → Int64), w1 = (tw cs q v_t_tapeSize v_t_textSize v_t_faultKind a_t_tape a_t_text a_g_beyond v_g_size a_g_steps a_h_beyond v_h_size a_h_steps a_r_scratch a_r_now v_r_takes v_r_negative v_r_namePlace v_r_faultKind v_r_faultPlace v_a_size v_a_limit v_a_digits v_a_kind v_a_from v_a_to v_o_size a_o_out v_b_size v_b_limit v_b_digits v_b_kind v_b_from v_b_to a_u_atom a_u_other a_u_hand v_u_marksMade v_u_came v_u_guesses v_u_right v_u_taken a_u_vars a_u_marks a_u_outcomes a_u_indexes v_s_things v_s_looked v_s_lookedTooOften v_s_arraysMade v_s_cellsMade a_s_classes a_s_starts a_s_lengths a_s_cells a_L a_K a_vc a_vd a_si' a_sj' a_iv a_inn a_ac) ∧ (PI a_L a_K a_si' a_iv a_inn)) 0 0 := by
  intro sz
  refine Met.ofW (cc := cX6_clear) (maxL := 2) (ret := none) (by decide) rfl ?_
  intro p e s m args below meth c s₁ B hml hv
  obtain ⟨rfl, hsz, hP, hK, hD0, hE⟩ := hv
  have hx := B.exec
  have hb := B.bytes
  have hr := B.returns
  have hts := atoms_spec (ws := (wG yX6_clear cX6_clear 2 none)) B.pre
  have hown : s.vm.findClass RX6 = some m.cls := findClass_of_methodNamed B.named
  have hlocks := B.notSynchronized
  subst hsz
  have hD := hD0.self (sz := s.heap.size)
  obtain ⟨A, hAe⟩ : ∃ A : Nat → Prop, A = va_A (tw cs q v_t_tapeSize v_t_textSize v_t_faultKind a_t_tape a_t_text a_g_beyond v_g_size a_g_steps a_h_beyond v_h_size a_h_steps a_r_scratch a_r_now v_r_takes v_r_negative v_r_namePlace v_r_faultKind v_r_faultPlace v_a_size v_a_limit v_a_digits v_a_kind v_a_from v_a_to v_o_size a_o_out v_b_size v_b_limit v_b_digits v_b_kind v_b_from v_b_to a_u_atom a_u_other a_u_hand v_u_marksMade v_u_came v_u_guesses v_u_right v_u_taken a_u_vars a_u_marks a_u_outcomes a_u_indexes v_s_things v_s_looked v_s_lookedTooOften v_s_arraysMade v_s_cellsMade a_s_classes a_s_starts a_s_lengths a_s_cells a_L a_K a_vc a_vd a_si a_sj a_iv a_inn a_ac) s.heap.size := ⟨_, rfl⟩
  rw [← hAe] at hD hE
  have hA : ∀ q : Nat, s.heap.size ≤ q → A q := fun q h => by rw [hAe]; exact Or.inr h
  have hS : va_S A s.heap s.heap [] := va_S.rf
  have hl := lv_entry ([.ref o9, .int f9]) (n := 2) (Nat.le_of_ble_eq_true rfl)
  rw [lg_entry_eq]
  generalize (lg_sl ([.ref o9, .int f9]) ++ List.replicate (2 - (lg_sl ([.ref o9, .int f9])).length) Slot.unset).toArray = ls at hl ⊢
  have hl : lv_has ls 2 [(0, .ref o9), (1, .int f9)] := hl
  refine wq (fun Q hQ => ?_)
  have hinX6 : ∀ w ∈ wsX60, w ∈ (wG yX6_clear cX6_clear 2 none) := fun w h => List.mem_cons_of_mem _ (inlX6 w h)
  have kc0 : (-1 : Int32).toInt = -1 := by decide
  have kc1 : (0 : Int32).toInt = 0 := by decide
  have kc2 : (0 : Int64).toInt = 0 := by decide
  have k_16_8 := hts (.fieldLink RX6 18 "ArrayTrainer$Step" "act" "I") (List.mem_cons_of_mem _ (wr16 _ (List.mem_of_getElem? (i := 8) rfl)))
  have k_16_9 := hts (.fieldLink RX6 22 "ArrayTrainer$Step" "guess" "I") (List.mem_cons_of_mem _ (wr16 _ (List.mem_of_getElem? (i := 9) rfl)))
  have k_16_10 := hts (.fieldLink RX6 25 "ArrayTrainer$Step" "take" "I") (List.mem_cons_of_mem _ (wr16 _ (List.mem_of_getElem? (i := 10) rfl)))
  have k_16_11 := hts (.fieldLink RX6 28 "ArrayTrainer$Step" "place" "I") (List.mem_cons_of_mem _ (wr16 _ (List.mem_of_getElem? (i := 11) rfl)))
  have k_16_12 := hts (.fieldLink RX6 31 "ArrayTrainer$Step" "target" "I") (List.mem_cons_of_mem _ (wr16 _ (List.mem_of_getElem? (i := 12) rfl)))
  have k_16_13 := hts (.fieldLink RX6 34 "ArrayTrainer$Step" "first" "I") (List.mem_cons_of_mem _ (wr16 _ (List.mem_of_getElem? (i := 13) rfl)))
  have k_16_14 := hts (.fieldLink RX6 37 "ArrayTrainer$Step" "second" "I") (List.mem_cons_of_mem _ (wr16 _ (List.mem_of_getElem? (i := 14) rfl)))
  have k_16_15 := hts (.fieldLink RX6 40 "ArrayTrainer$Step" "cls" "I") (List.mem_cons_of_mem _ (wr16 _ (List.mem_of_getElem? (i := 15) rfl)))
  have k_16_16 := hts (.fieldLink RX6 43 "ArrayTrainer$Step" "blankDims" "I") (List.mem_cons_of_mem _ (wr16 _ (List.mem_of_getElem? (i := 16) rfl)))
  have k_16_17 := hts (.fieldLink RX6 46 "ArrayTrainer$Step" "indexes" "I") (List.mem_cons_of_mem _ (wr16 _ (List.mem_of_getElem? (i := 17) rfl)))
  have k_16_18 := hts (.fieldLink RX6 49 "ArrayTrainer$Step" "atomVar" "I") (List.mem_cons_of_mem _ (wr16 _ (List.mem_of_getElem? (i := 18) rfl)))
  have k_16_19 := hts (.fieldLink RX6 52 "ArrayTrainer$Step" "atomClass" "I") (List.mem_cons_of_mem _ (wr16 _ (List.mem_of_getElem? (i := 19) rfl)))
  have k_16_20 := hts (.fieldLink RX6 55 "ArrayTrainer$Step" "atomNumber" "J") (List.mem_cons_of_mem _ (wr16 _ (List.mem_of_getElem? (i := 20) rfl)))
  obtain ⟨H, hH⟩ : ∃ H : Heap, H = s.heap := ⟨_, rfl⟩
  obtain ⟨locs, hlc⟩ : ∃ L : List Loc, L = [] := ⟨_, rfl⟩
  have hP : va_P D vwCl (tw cs q v_t_tapeSize v_t_textSize v_t_faultKind a_t_tape a_t_text a_g_beyond v_g_size a_g_steps a_h_beyond v_h_size a_h_steps a_r_scratch a_r_now v_r_takes v_r_negative v_r_namePlace v_r_faultKind v_r_faultPlace v_a_size v_a_limit v_a_digits v_a_kind v_a_from v_a_to v_o_size a_o_out v_b_size v_b_limit v_b_digits v_b_kind v_b_from v_b_to a_u_atom a_u_other a_u_hand v_u_marksMade v_u_came v_u_guesses v_u_right v_u_taken a_u_vars a_u_marks a_u_outcomes a_u_indexes v_s_things v_s_looked v_s_lookedTooOften v_s_arraysMade v_s_cellsMade a_s_classes a_s_starts a_s_lengths a_s_cells a_L a_K a_vc a_vd a_si a_sj a_iv a_inn a_ac) H := by rw [hH]; exact hP
  have hS : va_S A s.heap H locs := by rw [hH, hlc]; exact hS
  refine wHL hH hlc ?_
  have b_f9 := iB f9
  refine lv_aload_n hx hb dX6_clear_0 rfl (lv_at hl 0 rfl) ?_
  refine lv_iconst (v := 0) hx hb dX6_clear_1 (by decide) ?_
  obtain ⟨k2_, hk2_⟩ := pl_S (X := (twX cs q v_t_tapeSize v_t_textSize v_t_faultKind a_t_tape a_t_text a_g_beyond v_g_size a_g_steps a_h_beyond v_h_size a_h_steps a_r_scratch a_r_now v_r_takes v_r_negative v_r_namePlace v_r_faultKind v_r_faultPlace v_a_size v_a_limit v_a_digits v_a_kind v_a_from v_a_to v_o_size a_o_out v_b_size v_b_limit v_b_digits v_b_kind v_b_from v_b_to a_u_atom a_u_other a_u_hand v_u_marksMade v_u_came v_u_guesses v_u_right v_u_taken a_u_vars a_u_marks a_u_outcomes a_u_indexes v_s_things v_s_looked v_s_lookedTooOften v_s_arraysMade v_s_cellsMade a_s_classes a_s_starts a_s_lengths a_s_cells)) (cI := cs 0) (vc := a_vc) (vd := a_vd) (si := a_si) (sj := a_sj) (iv := a_iv) (inn := a_inn) (ac := a_ac) h_o9
  have hDk := hD
  refine va_put (D := D) (ci := 5) (v := .int 0) (ty := .int) (C := RX6) (T := TX6) (N := 15) hx hb hts hinX6 tyX6 tyX6_ok nmX6 hown hK hP hD hS k2_ hk2_ rfl 0 (by decide) k_16_8 (fun _ h9 => h9) rfl (by decide +kernel) rfl rfl (Nat.le_of_ble_eq_true rfl) dX6_clear_2 (fun H locs hP hD hS => ?_)
  obtain ⟨a_si_2, e_a_si_2⟩ : ∃ g, g = up2 a_si o9 0 (0 : Int32) := ⟨_, rfl⟩
  have hP : va_P D vwCl (tw cs q v_t_tapeSize v_t_textSize v_t_faultKind a_t_tape a_t_text a_g_beyond v_g_size a_g_steps a_h_beyond v_h_size a_h_steps a_r_scratch a_r_now v_r_takes v_r_negative v_r_namePlace v_r_faultKind v_r_faultPlace v_a_size v_a_limit v_a_digits v_a_kind v_a_from v_a_to v_o_size a_o_out v_b_size v_b_limit v_b_digits v_b_kind v_b_from v_b_to a_u_atom a_u_other a_u_hand v_u_marksMade v_u_came v_u_guesses v_u_right v_u_taken a_u_vars a_u_marks a_u_outcomes a_u_indexes v_s_things v_s_looked v_s_lookedTooOften v_s_arraysMade v_s_cellsMade a_s_classes a_s_starts a_s_lengths a_s_cells a_L a_K a_vc a_vd a_si_2 a_sj a_iv a_inn a_ac) H := by rw [e_a_si_2]; exact vaP_eq (pu_act_ hDk h_o9 hk2_ _) hP
  have hD : va_D A (tw cs q v_t_tapeSize v_t_textSize v_t_faultKind a_t_tape a_t_text a_g_beyond v_g_size a_g_steps a_h_beyond v_h_size a_h_steps a_r_scratch a_r_now v_r_takes v_r_negative v_r_namePlace v_r_faultKind v_r_faultPlace v_a_size v_a_limit v_a_digits v_a_kind v_a_from v_a_to v_o_size a_o_out v_b_size v_b_limit v_b_digits v_b_kind v_b_from v_b_to a_u_atom a_u_other a_u_hand v_u_marksMade v_u_came v_u_guesses v_u_right v_u_taken a_u_vars a_u_marks a_u_outcomes a_u_indexes v_s_things v_s_looked v_s_lookedTooOften v_s_arraysMade v_s_cellsMade a_s_classes a_s_starts a_s_lengths a_s_cells a_L a_K a_vc a_vd a_si_2 a_sj a_iv a_inn a_ac) := by rw [e_a_si_2]; exact vaD_eq (pu_act_ hDk h_o9 hk2_ _) hD
  have hPI : PI a_L a_K a_si_2 a_iv a_inn := by exact PI.up (by assumption) e_a_si_2 (by decide)
  refine lv_aload_n hx hb dX6_clear_5 rfl (lv_at hl 0 rfl) ?_
  refine lv_iconst (v := (-1)) hx hb dX6_clear_6 (by decide) ?_
  obtain ⟨k7_, hk7_⟩ := pl_S (X := (twX cs q v_t_tapeSize v_t_textSize v_t_faultKind a_t_tape a_t_text a_g_beyond v_g_size a_g_steps a_h_beyond v_h_size a_h_steps a_r_scratch a_r_now v_r_takes v_r_negative v_r_namePlace v_r_faultKind v_r_faultPlace v_a_size v_a_limit v_a_digits v_a_kind v_a_from v_a_to v_o_size a_o_out v_b_size v_b_limit v_b_digits v_b_kind v_b_from v_b_to a_u_atom a_u_other a_u_hand v_u_marksMade v_u_came v_u_guesses v_u_right v_u_taken a_u_vars a_u_marks a_u_outcomes a_u_indexes v_s_things v_s_looked v_s_lookedTooOften v_s_arraysMade v_s_cellsMade a_s_classes a_s_starts a_s_lengths a_s_cells)) (cI := cs 0) (vc := a_vc) (vd := a_vd) (si := a_si_2) (sj := a_sj) (iv := a_iv) (inn := a_inn) (ac := a_ac) h_o9
  have hDk := hD
  refine va_put (D := D) (ci := 5) (v := .int (-1)) (ty := .int) (C := RX6) (T := TX6) (N := 15) hx hb hts hinX6 tyX6 tyX6_ok nmX6 hown hK hP hD hS k7_ hk7_ rfl 1 (by decide) k_16_9 (fun _ h9 => h9) rfl (by decide +kernel) rfl rfl (Nat.le_of_ble_eq_true rfl) dX6_clear_7 (fun H locs hP hD hS => ?_)
  obtain ⟨a_si_7, e_a_si_7⟩ : ∃ g, g = up2 a_si_2 o9 1 (-1 : Int32) := ⟨_, rfl⟩
  have hP : va_P D vwCl (tw cs q v_t_tapeSize v_t_textSize v_t_faultKind a_t_tape a_t_text a_g_beyond v_g_size a_g_steps a_h_beyond v_h_size a_h_steps a_r_scratch a_r_now v_r_takes v_r_negative v_r_namePlace v_r_faultKind v_r_faultPlace v_a_size v_a_limit v_a_digits v_a_kind v_a_from v_a_to v_o_size a_o_out v_b_size v_b_limit v_b_digits v_b_kind v_b_from v_b_to a_u_atom a_u_other a_u_hand v_u_marksMade v_u_came v_u_guesses v_u_right v_u_taken a_u_vars a_u_marks a_u_outcomes a_u_indexes v_s_things v_s_looked v_s_lookedTooOften v_s_arraysMade v_s_cellsMade a_s_classes a_s_starts a_s_lengths a_s_cells a_L a_K a_vc a_vd a_si_7 a_sj a_iv a_inn a_ac) H := by rw [e_a_si_7]; exact vaP_eq (pu_guess_ hDk h_o9 hk7_ _) hP
  have hD : va_D A (tw cs q v_t_tapeSize v_t_textSize v_t_faultKind a_t_tape a_t_text a_g_beyond v_g_size a_g_steps a_h_beyond v_h_size a_h_steps a_r_scratch a_r_now v_r_takes v_r_negative v_r_namePlace v_r_faultKind v_r_faultPlace v_a_size v_a_limit v_a_digits v_a_kind v_a_from v_a_to v_o_size a_o_out v_b_size v_b_limit v_b_digits v_b_kind v_b_from v_b_to a_u_atom a_u_other a_u_hand v_u_marksMade v_u_came v_u_guesses v_u_right v_u_taken a_u_vars a_u_marks a_u_outcomes a_u_indexes v_s_things v_s_looked v_s_lookedTooOften v_s_arraysMade v_s_cellsMade a_s_classes a_s_starts a_s_lengths a_s_cells a_L a_K a_vc a_vd a_si_7 a_sj a_iv a_inn a_ac) := by rw [e_a_si_7]; exact vaD_eq (pu_guess_ hDk h_o9 hk7_ _) hD
  have hPI : PI a_L a_K a_si_7 a_iv a_inn := by exact PI.up (by assumption) e_a_si_7 (by decide)
  refine lv_aload_n hx hb dX6_clear_10 rfl (lv_at hl 0 rfl) ?_
  refine lv_iconst (v := 0) hx hb dX6_clear_11 (by decide) ?_
  obtain ⟨k12_, hk12_⟩ := pl_S (X := (twX cs q v_t_tapeSize v_t_textSize v_t_faultKind a_t_tape a_t_text a_g_beyond v_g_size a_g_steps a_h_beyond v_h_size a_h_steps a_r_scratch a_r_now v_r_takes v_r_negative v_r_namePlace v_r_faultKind v_r_faultPlace v_a_size v_a_limit v_a_digits v_a_kind v_a_from v_a_to v_o_size a_o_out v_b_size v_b_limit v_b_digits v_b_kind v_b_from v_b_to a_u_atom a_u_other a_u_hand v_u_marksMade v_u_came v_u_guesses v_u_right v_u_taken a_u_vars a_u_marks a_u_outcomes a_u_indexes v_s_things v_s_looked v_s_lookedTooOften v_s_arraysMade v_s_cellsMade a_s_classes a_s_starts a_s_lengths a_s_cells)) (cI := cs 0) (vc := a_vc) (vd := a_vd) (si := a_si_7) (sj := a_sj) (iv := a_iv) (inn := a_inn) (ac := a_ac) h_o9
  have hDk := hD
  refine va_put (D := D) (ci := 5) (v := .int 0) (ty := .int) (C := RX6) (T := TX6) (N := 15) hx hb hts hinX6 tyX6 tyX6_ok nmX6 hown hK hP hD hS k12_ hk12_ rfl 2 (by decide) k_16_10 (fun _ h9 => h9) rfl (by decide +kernel) rfl rfl (Nat.le_of_ble_eq_true rfl) dX6_clear_12 (fun H locs hP hD hS => ?_)
  obtain ⟨a_si_12, e_a_si_12⟩ : ∃ g, g = up2 a_si_7 o9 2 (0 : Int32) := ⟨_, rfl⟩
  have hP : va_P D vwCl (tw cs q v_t_tapeSize v_t_textSize v_t_faultKind a_t_tape a_t_text a_g_beyond v_g_size a_g_steps a_h_beyond v_h_size a_h_steps a_r_scratch a_r_now v_r_takes v_r_negative v_r_namePlace v_r_faultKind v_r_faultPlace v_a_size v_a_limit v_a_digits v_a_kind v_a_from v_a_to v_o_size a_o_out v_b_size v_b_limit v_b_digits v_b_kind v_b_from v_b_to a_u_atom a_u_other a_u_hand v_u_marksMade v_u_came v_u_guesses v_u_right v_u_taken a_u_vars a_u_marks a_u_outcomes a_u_indexes v_s_things v_s_looked v_s_lookedTooOften v_s_arraysMade v_s_cellsMade a_s_classes a_s_starts a_s_lengths a_s_cells a_L a_K a_vc a_vd a_si_12 a_sj a_iv a_inn a_ac) H := by rw [e_a_si_12]; exact vaP_eq (pu_take_ hDk h_o9 hk12_ _) hP
  have hD : va_D A (tw cs q v_t_tapeSize v_t_textSize v_t_faultKind a_t_tape a_t_text a_g_beyond v_g_size a_g_steps a_h_beyond v_h_size a_h_steps a_r_scratch a_r_now v_r_takes v_r_negative v_r_namePlace v_r_faultKind v_r_faultPlace v_a_size v_a_limit v_a_digits v_a_kind v_a_from v_a_to v_o_size a_o_out v_b_size v_b_limit v_b_digits v_b_kind v_b_from v_b_to a_u_atom a_u_other a_u_hand v_u_marksMade v_u_came v_u_guesses v_u_right v_u_taken a_u_vars a_u_marks a_u_outcomes a_u_indexes v_s_things v_s_looked v_s_lookedTooOften v_s_arraysMade v_s_cellsMade a_s_classes a_s_starts a_s_lengths a_s_cells a_L a_K a_vc a_vd a_si_12 a_sj a_iv a_inn a_ac) := by rw [e_a_si_12]; exact vaD_eq (pu_take_ hDk h_o9 hk12_ _) hD
  have hPI : PI a_L a_K a_si_12 a_iv a_inn := by exact PI.up (by assumption) e_a_si_12 (by decide)
  refine lv_aload_n hx hb dX6_clear_15 rfl (lv_at hl 0 rfl) ?_
  refine lv_iload_n hx hb dX6_clear_16 rfl (lv_at hl 1 rfl) ?_
  obtain ⟨k17_, hk17_⟩ := pl_S (X := (twX cs q v_t_tapeSize v_t_textSize v_t_faultKind a_t_tape a_t_text a_g_beyond v_g_size a_g_steps a_h_beyond v_h_size a_h_steps a_r_scratch a_r_now v_r_takes v_r_negative v_r_namePlace v_r_faultKind v_r_faultPlace v_a_size v_a_limit v_a_digits v_a_kind v_a_from v_a_to v_o_size a_o_out v_b_size v_b_limit v_b_digits v_b_kind v_b_from v_b_to a_u_atom a_u_other a_u_hand v_u_marksMade v_u_came v_u_guesses v_u_right v_u_taken a_u_vars a_u_marks a_u_outcomes a_u_indexes v_s_things v_s_looked v_s_lookedTooOften v_s_arraysMade v_s_cellsMade a_s_classes a_s_starts a_s_lengths a_s_cells)) (cI := cs 0) (vc := a_vc) (vd := a_vd) (si := a_si_12) (sj := a_sj) (iv := a_iv) (inn := a_inn) (ac := a_ac) h_o9
  have hDk := hD
  refine va_put (D := D) (ci := 5) (v := .int f9) (ty := .int) (C := RX6) (T := TX6) (N := 15) hx hb hts hinX6 tyX6 tyX6_ok nmX6 hown hK hP hD hS k17_ hk17_ rfl 3 (by decide) k_16_11 (fun _ h9 => h9) rfl (by decide +kernel) rfl rfl (Nat.le_of_ble_eq_true rfl) dX6_clear_17 (fun H locs hP hD hS => ?_)
  obtain ⟨a_si_17, e_a_si_17⟩ : ∃ g, g = up2 a_si_12 o9 3 f9 := ⟨_, rfl⟩
  have hP : va_P D vwCl (tw cs q v_t_tapeSize v_t_textSize v_t_faultKind a_t_tape a_t_text a_g_beyond v_g_size a_g_steps a_h_beyond v_h_size a_h_steps a_r_scratch a_r_now v_r_takes v_r_negative v_r_namePlace v_r_faultKind v_r_faultPlace v_a_size v_a_limit v_a_digits v_a_kind v_a_from v_a_to v_o_size a_o_out v_b_size v_b_limit v_b_digits v_b_kind v_b_from v_b_to a_u_atom a_u_other a_u_hand v_u_marksMade v_u_came v_u_guesses v_u_right v_u_taken a_u_vars a_u_marks a_u_outcomes a_u_indexes v_s_things v_s_looked v_s_lookedTooOften v_s_arraysMade v_s_cellsMade a_s_classes a_s_starts a_s_lengths a_s_cells a_L a_K a_vc a_vd a_si_17 a_sj a_iv a_inn a_ac) H := by rw [e_a_si_17]; exact vaP_eq (pu_place_ hDk h_o9 hk17_ _) hP
  have hD : va_D A (tw cs q v_t_tapeSize v_t_textSize v_t_faultKind a_t_tape a_t_text a_g_beyond v_g_size a_g_steps a_h_beyond v_h_size a_h_steps a_r_scratch a_r_now v_r_takes v_r_negative v_r_namePlace v_r_faultKind v_r_faultPlace v_a_size v_a_limit v_a_digits v_a_kind v_a_from v_a_to v_o_size a_o_out v_b_size v_b_limit v_b_digits v_b_kind v_b_from v_b_to a_u_atom a_u_other a_u_hand v_u_marksMade v_u_came v_u_guesses v_u_right v_u_taken a_u_vars a_u_marks a_u_outcomes a_u_indexes v_s_things v_s_looked v_s_lookedTooOften v_s_arraysMade v_s_cellsMade a_s_classes a_s_starts a_s_lengths a_s_cells a_L a_K a_vc a_vd a_si_17 a_sj a_iv a_inn a_ac) := by rw [e_a_si_17]; exact vaD_eq (pu_place_ hDk h_o9 hk17_ _) hD
  have hPI : PI a_L a_K a_si_17 a_iv a_inn := by exact PI.up (by assumption) e_a_si_17 (by decide)
  refine lv_aload_n hx hb dX6_clear_20 rfl (lv_at hl 0 rfl) ?_
  refine lv_iconst (v := (-1)) hx hb dX6_clear_21 (by decide) ?_
  obtain ⟨k22_, hk22_⟩ := pl_S (X := (twX cs q v_t_tapeSize v_t_textSize v_t_faultKind a_t_tape a_t_text a_g_beyond v_g_size a_g_steps a_h_beyond v_h_size a_h_steps a_r_scratch a_r_now v_r_takes v_r_negative v_r_namePlace v_r_faultKind v_r_faultPlace v_a_size v_a_limit v_a_digits v_a_kind v_a_from v_a_to v_o_size a_o_out v_b_size v_b_limit v_b_digits v_b_kind v_b_from v_b_to a_u_atom a_u_other a_u_hand v_u_marksMade v_u_came v_u_guesses v_u_right v_u_taken a_u_vars a_u_marks a_u_outcomes a_u_indexes v_s_things v_s_looked v_s_lookedTooOften v_s_arraysMade v_s_cellsMade a_s_classes a_s_starts a_s_lengths a_s_cells)) (cI := cs 0) (vc := a_vc) (vd := a_vd) (si := a_si_17) (sj := a_sj) (iv := a_iv) (inn := a_inn) (ac := a_ac) h_o9
  have hDk := hD
  refine va_put (D := D) (ci := 5) (v := .int (-1)) (ty := .int) (C := RX6) (T := TX6) (N := 15) hx hb hts hinX6 tyX6 tyX6_ok nmX6 hown hK hP hD hS k22_ hk22_ rfl 4 (by decide) k_16_12 (fun _ h9 => h9) rfl (by decide +kernel) rfl rfl (Nat.le_of_ble_eq_true rfl) dX6_clear_22 (fun H locs hP hD hS => ?_)
  obtain ⟨a_si_22, e_a_si_22⟩ : ∃ g, g = up2 a_si_17 o9 4 (-1 : Int32) := ⟨_, rfl⟩
  have hP : va_P D vwCl (tw cs q v_t_tapeSize v_t_textSize v_t_faultKind a_t_tape a_t_text a_g_beyond v_g_size a_g_steps a_h_beyond v_h_size a_h_steps a_r_scratch a_r_now v_r_takes v_r_negative v_r_namePlace v_r_faultKind v_r_faultPlace v_a_size v_a_limit v_a_digits v_a_kind v_a_from v_a_to v_o_size a_o_out v_b_size v_b_limit v_b_digits v_b_kind v_b_from v_b_to a_u_atom a_u_other a_u_hand v_u_marksMade v_u_came v_u_guesses v_u_right v_u_taken a_u_vars a_u_marks a_u_outcomes a_u_indexes v_s_things v_s_looked v_s_lookedTooOften v_s_arraysMade v_s_cellsMade a_s_classes a_s_starts a_s_lengths a_s_cells a_L a_K a_vc a_vd a_si_22 a_sj a_iv a_inn a_ac) H := by rw [e_a_si_22]; exact vaP_eq (pu_target_ hDk h_o9 hk22_ _) hP
  have hD : va_D A (tw cs q v_t_tapeSize v_t_textSize v_t_faultKind a_t_tape a_t_text a_g_beyond v_g_size a_g_steps a_h_beyond v_h_size a_h_steps a_r_scratch a_r_now v_r_takes v_r_negative v_r_namePlace v_r_faultKind v_r_faultPlace v_a_size v_a_limit v_a_digits v_a_kind v_a_from v_a_to v_o_size a_o_out v_b_size v_b_limit v_b_digits v_b_kind v_b_from v_b_to a_u_atom a_u_other a_u_hand v_u_marksMade v_u_came v_u_guesses v_u_right v_u_taken a_u_vars a_u_marks a_u_outcomes a_u_indexes v_s_things v_s_looked v_s_lookedTooOften v_s_arraysMade v_s_cellsMade a_s_classes a_s_starts a_s_lengths a_s_cells a_L a_K a_vc a_vd a_si_22 a_sj a_iv a_inn a_ac) := by rw [e_a_si_22]; exact vaD_eq (pu_target_ hDk h_o9 hk22_ _) hD
  have hPI : PI a_L a_K a_si_22 a_iv a_inn := by exact PI.up (by assumption) e_a_si_22 (by decide)
  refine lv_aload_n hx hb dX6_clear_25 rfl (lv_at hl 0 rfl) ?_
  refine lv_iconst (v := (-1)) hx hb dX6_clear_26 (by decide) ?_
  obtain ⟨k27_, hk27_⟩ := pl_S (X := (twX cs q v_t_tapeSize v_t_textSize v_t_faultKind a_t_tape a_t_text a_g_beyond v_g_size a_g_steps a_h_beyond v_h_size a_h_steps a_r_scratch a_r_now v_r_takes v_r_negative v_r_namePlace v_r_faultKind v_r_faultPlace v_a_size v_a_limit v_a_digits v_a_kind v_a_from v_a_to v_o_size a_o_out v_b_size v_b_limit v_b_digits v_b_kind v_b_from v_b_to a_u_atom a_u_other a_u_hand v_u_marksMade v_u_came v_u_guesses v_u_right v_u_taken a_u_vars a_u_marks a_u_outcomes a_u_indexes v_s_things v_s_looked v_s_lookedTooOften v_s_arraysMade v_s_cellsMade a_s_classes a_s_starts a_s_lengths a_s_cells)) (cI := cs 0) (vc := a_vc) (vd := a_vd) (si := a_si_22) (sj := a_sj) (iv := a_iv) (inn := a_inn) (ac := a_ac) h_o9
  have hDk := hD
  refine va_put (D := D) (ci := 5) (v := .int (-1)) (ty := .int) (C := RX6) (T := TX6) (N := 15) hx hb hts hinX6 tyX6 tyX6_ok nmX6 hown hK hP hD hS k27_ hk27_ rfl 5 (by decide) k_16_13 (fun _ h9 => h9) rfl (by decide +kernel) rfl rfl (Nat.le_of_ble_eq_true rfl) dX6_clear_27 (fun H locs hP hD hS => ?_)
  obtain ⟨a_si_27, e_a_si_27⟩ : ∃ g, g = up2 a_si_22 o9 5 (-1 : Int32) := ⟨_, rfl⟩
  have hP : va_P D vwCl (tw cs q v_t_tapeSize v_t_textSize v_t_faultKind a_t_tape a_t_text a_g_beyond v_g_size a_g_steps a_h_beyond v_h_size a_h_steps a_r_scratch a_r_now v_r_takes v_r_negative v_r_namePlace v_r_faultKind v_r_faultPlace v_a_size v_a_limit v_a_digits v_a_kind v_a_from v_a_to v_o_size a_o_out v_b_size v_b_limit v_b_digits v_b_kind v_b_from v_b_to a_u_atom a_u_other a_u_hand v_u_marksMade v_u_came v_u_guesses v_u_right v_u_taken a_u_vars a_u_marks a_u_outcomes a_u_indexes v_s_things v_s_looked v_s_lookedTooOften v_s_arraysMade v_s_cellsMade a_s_classes a_s_starts a_s_lengths a_s_cells a_L a_K a_vc a_vd a_si_27 a_sj a_iv a_inn a_ac) H := by rw [e_a_si_27]; exact vaP_eq (pu_first_ hDk h_o9 hk27_ _) hP
  have hD : va_D A (tw cs q v_t_tapeSize v_t_textSize v_t_faultKind a_t_tape a_t_text a_g_beyond v_g_size a_g_steps a_h_beyond v_h_size a_h_steps a_r_scratch a_r_now v_r_takes v_r_negative v_r_namePlace v_r_faultKind v_r_faultPlace v_a_size v_a_limit v_a_digits v_a_kind v_a_from v_a_to v_o_size a_o_out v_b_size v_b_limit v_b_digits v_b_kind v_b_from v_b_to a_u_atom a_u_other a_u_hand v_u_marksMade v_u_came v_u_guesses v_u_right v_u_taken a_u_vars a_u_marks a_u_outcomes a_u_indexes v_s_things v_s_looked v_s_lookedTooOften v_s_arraysMade v_s_cellsMade a_s_classes a_s_starts a_s_lengths a_s_cells a_L a_K a_vc a_vd a_si_27 a_sj a_iv a_inn a_ac) := by rw [e_a_si_27]; exact vaD_eq (pu_first_ hDk h_o9 hk27_ _) hD
  have hPI : PI a_L a_K a_si_27 a_iv a_inn := by exact PI.up (by assumption) e_a_si_27 (by decide)
  refine lv_aload_n hx hb dX6_clear_30 rfl (lv_at hl 0 rfl) ?_
  refine lv_iconst (v := (-1)) hx hb dX6_clear_31 (by decide) ?_
  obtain ⟨k32_, hk32_⟩ := pl_S (X := (twX cs q v_t_tapeSize v_t_textSize v_t_faultKind a_t_tape a_t_text a_g_beyond v_g_size a_g_steps a_h_beyond v_h_size a_h_steps a_r_scratch a_r_now v_r_takes v_r_negative v_r_namePlace v_r_faultKind v_r_faultPlace v_a_size v_a_limit v_a_digits v_a_kind v_a_from v_a_to v_o_size a_o_out v_b_size v_b_limit v_b_digits v_b_kind v_b_from v_b_to a_u_atom a_u_other a_u_hand v_u_marksMade v_u_came v_u_guesses v_u_right v_u_taken a_u_vars a_u_marks a_u_outcomes a_u_indexes v_s_things v_s_looked v_s_lookedTooOften v_s_arraysMade v_s_cellsMade a_s_classes a_s_starts a_s_lengths a_s_cells)) (cI := cs 0) (vc := a_vc) (vd := a_vd) (si := a_si_27) (sj := a_sj) (iv := a_iv) (inn := a_inn) (ac := a_ac) h_o9
  have hDk := hD
  refine va_put (D := D) (ci := 5) (v := .int (-1)) (ty := .int) (C := RX6) (T := TX6) (N := 15) hx hb hts hinX6 tyX6 tyX6_ok nmX6 hown hK hP hD hS k32_ hk32_ rfl 6 (by decide) k_16_14 (fun _ h9 => h9) rfl (by decide +kernel) rfl rfl (Nat.le_of_ble_eq_true rfl) dX6_clear_32 (fun H locs hP hD hS => ?_)
  obtain ⟨a_si_32, e_a_si_32⟩ : ∃ g, g = up2 a_si_27 o9 6 (-1 : Int32) := ⟨_, rfl⟩
  have hP : va_P D vwCl (tw cs q v_t_tapeSize v_t_textSize v_t_faultKind a_t_tape a_t_text a_g_beyond v_g_size a_g_steps a_h_beyond v_h_size a_h_steps a_r_scratch a_r_now v_r_takes v_r_negative v_r_namePlace v_r_faultKind v_r_faultPlace v_a_size v_a_limit v_a_digits v_a_kind v_a_from v_a_to v_o_size a_o_out v_b_size v_b_limit v_b_digits v_b_kind v_b_from v_b_to a_u_atom a_u_other a_u_hand v_u_marksMade v_u_came v_u_guesses v_u_right v_u_taken a_u_vars a_u_marks a_u_outcomes a_u_indexes v_s_things v_s_looked v_s_lookedTooOften v_s_arraysMade v_s_cellsMade a_s_classes a_s_starts a_s_lengths a_s_cells a_L a_K a_vc a_vd a_si_32 a_sj a_iv a_inn a_ac) H := by rw [e_a_si_32]; exact vaP_eq (pu_second_ hDk h_o9 hk32_ _) hP
  have hD : va_D A (tw cs q v_t_tapeSize v_t_textSize v_t_faultKind a_t_tape a_t_text a_g_beyond v_g_size a_g_steps a_h_beyond v_h_size a_h_steps a_r_scratch a_r_now v_r_takes v_r_negative v_r_namePlace v_r_faultKind v_r_faultPlace v_a_size v_a_limit v_a_digits v_a_kind v_a_from v_a_to v_o_size a_o_out v_b_size v_b_limit v_b_digits v_b_kind v_b_from v_b_to a_u_atom a_u_other a_u_hand v_u_marksMade v_u_came v_u_guesses v_u_right v_u_taken a_u_vars a_u_marks a_u_outcomes a_u_indexes v_s_things v_s_looked v_s_lookedTooOften v_s_arraysMade v_s_cellsMade a_s_classes a_s_starts a_s_lengths a_s_cells a_L a_K a_vc a_vd a_si_32 a_sj a_iv a_inn a_ac) := by rw [e_a_si_32]; exact vaD_eq (pu_second_ hDk h_o9 hk32_ _) hD
  have hPI : PI a_L a_K a_si_32 a_iv a_inn := by exact PI.up (by assumption) e_a_si_32 (by decide)
  refine lv_aload_n hx hb dX6_clear_35 rfl (lv_at hl 0 rfl) ?_
  refine lv_iconst (v := 0) hx hb dX6_clear_36 (by decide) ?_
  obtain ⟨k37_, hk37_⟩ := pl_S (X := (twX cs q v_t_tapeSize v_t_textSize v_t_faultKind a_t_tape a_t_text a_g_beyond v_g_size a_g_steps a_h_beyond v_h_size a_h_steps a_r_scratch a_r_now v_r_takes v_r_negative v_r_namePlace v_r_faultKind v_r_faultPlace v_a_size v_a_limit v_a_digits v_a_kind v_a_from v_a_to v_o_size a_o_out v_b_size v_b_limit v_b_digits v_b_kind v_b_from v_b_to a_u_atom a_u_other a_u_hand v_u_marksMade v_u_came v_u_guesses v_u_right v_u_taken a_u_vars a_u_marks a_u_outcomes a_u_indexes v_s_things v_s_looked v_s_lookedTooOften v_s_arraysMade v_s_cellsMade a_s_classes a_s_starts a_s_lengths a_s_cells)) (cI := cs 0) (vc := a_vc) (vd := a_vd) (si := a_si_32) (sj := a_sj) (iv := a_iv) (inn := a_inn) (ac := a_ac) h_o9
  have hDk := hD
  refine va_put (D := D) (ci := 5) (v := .int 0) (ty := .int) (C := RX6) (T := TX6) (N := 15) hx hb hts hinX6 tyX6 tyX6_ok nmX6 hown hK hP hD hS k37_ hk37_ rfl 7 (by decide) k_16_15 (fun _ h9 => h9) rfl (by decide +kernel) rfl rfl (Nat.le_of_ble_eq_true rfl) dX6_clear_37 (fun H locs hP hD hS => ?_)
  obtain ⟨a_si_37, e_a_si_37⟩ : ∃ g, g = up2 a_si_32 o9 7 (0 : Int32) := ⟨_, rfl⟩
  have hP : va_P D vwCl (tw cs q v_t_tapeSize v_t_textSize v_t_faultKind a_t_tape a_t_text a_g_beyond v_g_size a_g_steps a_h_beyond v_h_size a_h_steps a_r_scratch a_r_now v_r_takes v_r_negative v_r_namePlace v_r_faultKind v_r_faultPlace v_a_size v_a_limit v_a_digits v_a_kind v_a_from v_a_to v_o_size a_o_out v_b_size v_b_limit v_b_digits v_b_kind v_b_from v_b_to a_u_atom a_u_other a_u_hand v_u_marksMade v_u_came v_u_guesses v_u_right v_u_taken a_u_vars a_u_marks a_u_outcomes a_u_indexes v_s_things v_s_looked v_s_lookedTooOften v_s_arraysMade v_s_cellsMade a_s_classes a_s_starts a_s_lengths a_s_cells a_L a_K a_vc a_vd a_si_37 a_sj a_iv a_inn a_ac) H := by rw [e_a_si_37]; exact vaP_eq (pu_cls_ hDk h_o9 hk37_ _) hP
  have hD : va_D A (tw cs q v_t_tapeSize v_t_textSize v_t_faultKind a_t_tape a_t_text a_g_beyond v_g_size a_g_steps a_h_beyond v_h_size a_h_steps a_r_scratch a_r_now v_r_takes v_r_negative v_r_namePlace v_r_faultKind v_r_faultPlace v_a_size v_a_limit v_a_digits v_a_kind v_a_from v_a_to v_o_size a_o_out v_b_size v_b_limit v_b_digits v_b_kind v_b_from v_b_to a_u_atom a_u_other a_u_hand v_u_marksMade v_u_came v_u_guesses v_u_right v_u_taken a_u_vars a_u_marks a_u_outcomes a_u_indexes v_s_things v_s_looked v_s_lookedTooOften v_s_arraysMade v_s_cellsMade a_s_classes a_s_starts a_s_lengths a_s_cells a_L a_K a_vc a_vd a_si_37 a_sj a_iv a_inn a_ac) := by rw [e_a_si_37]; exact vaD_eq (pu_cls_ hDk h_o9 hk37_ _) hD
  have hPI : PI a_L a_K a_si_37 a_iv a_inn := by exact PI.up (by assumption) e_a_si_37 (by decide)
  refine lv_aload_n hx hb dX6_clear_40 rfl (lv_at hl 0 rfl) ?_
  refine lv_iconst (v := 0) hx hb dX6_clear_41 (by decide) ?_
  obtain ⟨k42_, hk42_⟩ := pl_S (X := (twX cs q v_t_tapeSize v_t_textSize v_t_faultKind a_t_tape a_t_text a_g_beyond v_g_size a_g_steps a_h_beyond v_h_size a_h_steps a_r_scratch a_r_now v_r_takes v_r_negative v_r_namePlace v_r_faultKind v_r_faultPlace v_a_size v_a_limit v_a_digits v_a_kind v_a_from v_a_to v_o_size a_o_out v_b_size v_b_limit v_b_digits v_b_kind v_b_from v_b_to a_u_atom a_u_other a_u_hand v_u_marksMade v_u_came v_u_guesses v_u_right v_u_taken a_u_vars a_u_marks a_u_outcomes a_u_indexes v_s_things v_s_looked v_s_lookedTooOften v_s_arraysMade v_s_cellsMade a_s_classes a_s_starts a_s_lengths a_s_cells)) (cI := cs 0) (vc := a_vc) (vd := a_vd) (si := a_si_37) (sj := a_sj) (iv := a_iv) (inn := a_inn) (ac := a_ac) h_o9
  have hDk := hD
  refine va_put (D := D) (ci := 5) (v := .int 0) (ty := .int) (C := RX6) (T := TX6) (N := 15) hx hb hts hinX6 tyX6 tyX6_ok nmX6 hown hK hP hD hS k42_ hk42_ rfl 8 (by decide) k_16_16 (fun _ h9 => h9) rfl (by decide +kernel) rfl rfl (Nat.le_of_ble_eq_true rfl) dX6_clear_42 (fun H locs hP hD hS => ?_)
  obtain ⟨a_si_42, e_a_si_42⟩ : ∃ g, g = up2 a_si_37 o9 8 (0 : Int32) := ⟨_, rfl⟩
  have hP : va_P D vwCl (tw cs q v_t_tapeSize v_t_textSize v_t_faultKind a_t_tape a_t_text a_g_beyond v_g_size a_g_steps a_h_beyond v_h_size a_h_steps a_r_scratch a_r_now v_r_takes v_r_negative v_r_namePlace v_r_faultKind v_r_faultPlace v_a_size v_a_limit v_a_digits v_a_kind v_a_from v_a_to v_o_size a_o_out v_b_size v_b_limit v_b_digits v_b_kind v_b_from v_b_to a_u_atom a_u_other a_u_hand v_u_marksMade v_u_came v_u_guesses v_u_right v_u_taken a_u_vars a_u_marks a_u_outcomes a_u_indexes v_s_things v_s_looked v_s_lookedTooOften v_s_arraysMade v_s_cellsMade a_s_classes a_s_starts a_s_lengths a_s_cells a_L a_K a_vc a_vd a_si_42 a_sj a_iv a_inn a_ac) H := by rw [e_a_si_42]; exact vaP_eq (pu_blankDims_ hDk h_o9 hk42_ _) hP
  have hD : va_D A (tw cs q v_t_tapeSize v_t_textSize v_t_faultKind a_t_tape a_t_text a_g_beyond v_g_size a_g_steps a_h_beyond v_h_size a_h_steps a_r_scratch a_r_now v_r_takes v_r_negative v_r_namePlace v_r_faultKind v_r_faultPlace v_a_size v_a_limit v_a_digits v_a_kind v_a_from v_a_to v_o_size a_o_out v_b_size v_b_limit v_b_digits v_b_kind v_b_from v_b_to a_u_atom a_u_other a_u_hand v_u_marksMade v_u_came v_u_guesses v_u_right v_u_taken a_u_vars a_u_marks a_u_outcomes a_u_indexes v_s_things v_s_looked v_s_lookedTooOften v_s_arraysMade v_s_cellsMade a_s_classes a_s_starts a_s_lengths a_s_cells a_L a_K a_vc a_vd a_si_42 a_sj a_iv a_inn a_ac) := by rw [e_a_si_42]; exact vaD_eq (pu_blankDims_ hDk h_o9 hk42_ _) hD
  have hPI : PI a_L a_K a_si_42 a_iv a_inn := by exact PI.up (by assumption) e_a_si_42 (by decide)
  refine lv_aload_n hx hb dX6_clear_45 rfl (lv_at hl 0 rfl) ?_
  refine lv_iconst (v := 0) hx hb dX6_clear_46 (by decide) ?_
  obtain ⟨k47_, hk47_⟩ := pl_S (X := (twX cs q v_t_tapeSize v_t_textSize v_t_faultKind a_t_tape a_t_text a_g_beyond v_g_size a_g_steps a_h_beyond v_h_size a_h_steps a_r_scratch a_r_now v_r_takes v_r_negative v_r_namePlace v_r_faultKind v_r_faultPlace v_a_size v_a_limit v_a_digits v_a_kind v_a_from v_a_to v_o_size a_o_out v_b_size v_b_limit v_b_digits v_b_kind v_b_from v_b_to a_u_atom a_u_other a_u_hand v_u_marksMade v_u_came v_u_guesses v_u_right v_u_taken a_u_vars a_u_marks a_u_outcomes a_u_indexes v_s_things v_s_looked v_s_lookedTooOften v_s_arraysMade v_s_cellsMade a_s_classes a_s_starts a_s_lengths a_s_cells)) (cI := cs 0) (vc := a_vc) (vd := a_vd) (si := a_si_42) (sj := a_sj) (iv := a_iv) (inn := a_inn) (ac := a_ac) h_o9
  have hDk := hD
  refine va_put (D := D) (ci := 5) (v := .int 0) (ty := .int) (C := RX6) (T := TX6) (N := 15) hx hb hts hinX6 tyX6 tyX6_ok nmX6 hown hK hP hD hS k47_ hk47_ rfl 9 (by decide) k_16_17 (fun _ h9 => h9) rfl (by decide +kernel) rfl rfl (Nat.le_of_ble_eq_true rfl) dX6_clear_47 (fun H locs hP hD hS => ?_)
  obtain ⟨a_si_47, e_a_si_47⟩ : ∃ g, g = up2 a_si_42 o9 9 (0 : Int32) := ⟨_, rfl⟩
  have hP : va_P D vwCl (tw cs q v_t_tapeSize v_t_textSize v_t_faultKind a_t_tape a_t_text a_g_beyond v_g_size a_g_steps a_h_beyond v_h_size a_h_steps a_r_scratch a_r_now v_r_takes v_r_negative v_r_namePlace v_r_faultKind v_r_faultPlace v_a_size v_a_limit v_a_digits v_a_kind v_a_from v_a_to v_o_size a_o_out v_b_size v_b_limit v_b_digits v_b_kind v_b_from v_b_to a_u_atom a_u_other a_u_hand v_u_marksMade v_u_came v_u_guesses v_u_right v_u_taken a_u_vars a_u_marks a_u_outcomes a_u_indexes v_s_things v_s_looked v_s_lookedTooOften v_s_arraysMade v_s_cellsMade a_s_classes a_s_starts a_s_lengths a_s_cells a_L a_K a_vc a_vd a_si_47 a_sj a_iv a_inn a_ac) H := by rw [e_a_si_47]; exact vaP_eq (pu_indexes_ hDk h_o9 hk47_ _) hP
  have hD : va_D A (tw cs q v_t_tapeSize v_t_textSize v_t_faultKind a_t_tape a_t_text a_g_beyond v_g_size a_g_steps a_h_beyond v_h_size a_h_steps a_r_scratch a_r_now v_r_takes v_r_negative v_r_namePlace v_r_faultKind v_r_faultPlace v_a_size v_a_limit v_a_digits v_a_kind v_a_from v_a_to v_o_size a_o_out v_b_size v_b_limit v_b_digits v_b_kind v_b_from v_b_to a_u_atom a_u_other a_u_hand v_u_marksMade v_u_came v_u_guesses v_u_right v_u_taken a_u_vars a_u_marks a_u_outcomes a_u_indexes v_s_things v_s_looked v_s_lookedTooOften v_s_arraysMade v_s_cellsMade a_s_classes a_s_starts a_s_lengths a_s_cells a_L a_K a_vc a_vd a_si_47 a_sj a_iv a_inn a_ac) := by rw [e_a_si_47]; exact vaD_eq (pu_indexes_ hDk h_o9 hk47_ _) hD
  have hPI : PI a_L a_K a_si_47 a_iv a_inn := by exact PI.up9 (by assumption) e_a_si_47 (by omega) (by omega)
  refine lv_aload_n hx hb dX6_clear_50 rfl (lv_at hl 0 rfl) ?_
  refine lv_iconst (v := (-1)) hx hb dX6_clear_51 (by decide) ?_
  obtain ⟨k52_, hk52_⟩ := pl_S (X := (twX cs q v_t_tapeSize v_t_textSize v_t_faultKind a_t_tape a_t_text a_g_beyond v_g_size a_g_steps a_h_beyond v_h_size a_h_steps a_r_scratch a_r_now v_r_takes v_r_negative v_r_namePlace v_r_faultKind v_r_faultPlace v_a_size v_a_limit v_a_digits v_a_kind v_a_from v_a_to v_o_size a_o_out v_b_size v_b_limit v_b_digits v_b_kind v_b_from v_b_to a_u_atom a_u_other a_u_hand v_u_marksMade v_u_came v_u_guesses v_u_right v_u_taken a_u_vars a_u_marks a_u_outcomes a_u_indexes v_s_things v_s_looked v_s_lookedTooOften v_s_arraysMade v_s_cellsMade a_s_classes a_s_starts a_s_lengths a_s_cells)) (cI := cs 0) (vc := a_vc) (vd := a_vd) (si := a_si_47) (sj := a_sj) (iv := a_iv) (inn := a_inn) (ac := a_ac) h_o9
  have hDk := hD
  refine va_put (D := D) (ci := 5) (v := .int (-1)) (ty := .int) (C := RX6) (T := TX6) (N := 15) hx hb hts hinX6 tyX6 tyX6_ok nmX6 hown hK hP hD hS k52_ hk52_ rfl 12 (by decide) k_16_18 (fun _ h9 => h9) rfl (by decide +kernel) rfl rfl (Nat.le_of_ble_eq_true rfl) dX6_clear_52 (fun H locs hP hD hS => ?_)
  obtain ⟨a_si_52, e_a_si_52⟩ : ∃ g, g = up2 a_si_47 o9 10 (-1 : Int32) := ⟨_, rfl⟩
  have hP : va_P D vwCl (tw cs q v_t_tapeSize v_t_textSize v_t_faultKind a_t_tape a_t_text a_g_beyond v_g_size a_g_steps a_h_beyond v_h_size a_h_steps a_r_scratch a_r_now v_r_takes v_r_negative v_r_namePlace v_r_faultKind v_r_faultPlace v_a_size v_a_limit v_a_digits v_a_kind v_a_from v_a_to v_o_size a_o_out v_b_size v_b_limit v_b_digits v_b_kind v_b_from v_b_to a_u_atom a_u_other a_u_hand v_u_marksMade v_u_came v_u_guesses v_u_right v_u_taken a_u_vars a_u_marks a_u_outcomes a_u_indexes v_s_things v_s_looked v_s_lookedTooOften v_s_arraysMade v_s_cellsMade a_s_classes a_s_starts a_s_lengths a_s_cells a_L a_K a_vc a_vd a_si_52 a_sj a_iv a_inn a_ac) H := by rw [e_a_si_52]; exact vaP_eq (pu_atomVar_ hDk h_o9 hk52_ _) hP
  have hD : va_D A (tw cs q v_t_tapeSize v_t_textSize v_t_faultKind a_t_tape a_t_text a_g_beyond v_g_size a_g_steps a_h_beyond v_h_size a_h_steps a_r_scratch a_r_now v_r_takes v_r_negative v_r_namePlace v_r_faultKind v_r_faultPlace v_a_size v_a_limit v_a_digits v_a_kind v_a_from v_a_to v_o_size a_o_out v_b_size v_b_limit v_b_digits v_b_kind v_b_from v_b_to a_u_atom a_u_other a_u_hand v_u_marksMade v_u_came v_u_guesses v_u_right v_u_taken a_u_vars a_u_marks a_u_outcomes a_u_indexes v_s_things v_s_looked v_s_lookedTooOften v_s_arraysMade v_s_cellsMade a_s_classes a_s_starts a_s_lengths a_s_cells a_L a_K a_vc a_vd a_si_52 a_sj a_iv a_inn a_ac) := by rw [e_a_si_52]; exact vaD_eq (pu_atomVar_ hDk h_o9 hk52_ _) hD
  have hPI : PI a_L a_K a_si_52 a_iv a_inn := by exact PI.up (by assumption) e_a_si_52 (by decide)
  refine lv_aload_n hx hb dX6_clear_55 rfl (lv_at hl 0 rfl) ?_
  refine lv_iconst (v := (-1)) hx hb dX6_clear_56 (by decide) ?_
  obtain ⟨k57_, hk57_⟩ := pl_S (X := (twX cs q v_t_tapeSize v_t_textSize v_t_faultKind a_t_tape a_t_text a_g_beyond v_g_size a_g_steps a_h_beyond v_h_size a_h_steps a_r_scratch a_r_now v_r_takes v_r_negative v_r_namePlace v_r_faultKind v_r_faultPlace v_a_size v_a_limit v_a_digits v_a_kind v_a_from v_a_to v_o_size a_o_out v_b_size v_b_limit v_b_digits v_b_kind v_b_from v_b_to a_u_atom a_u_other a_u_hand v_u_marksMade v_u_came v_u_guesses v_u_right v_u_taken a_u_vars a_u_marks a_u_outcomes a_u_indexes v_s_things v_s_looked v_s_lookedTooOften v_s_arraysMade v_s_cellsMade a_s_classes a_s_starts a_s_lengths a_s_cells)) (cI := cs 0) (vc := a_vc) (vd := a_vd) (si := a_si_52) (sj := a_sj) (iv := a_iv) (inn := a_inn) (ac := a_ac) h_o9
  have hDk := hD
  refine va_put (D := D) (ci := 5) (v := .int (-1)) (ty := .int) (C := RX6) (T := TX6) (N := 15) hx hb hts hinX6 tyX6 tyX6_ok nmX6 hown hK hP hD hS k57_ hk57_ rfl 13 (by decide) k_16_19 (fun _ h9 => h9) rfl (by decide +kernel) rfl rfl (Nat.le_of_ble_eq_true rfl) dX6_clear_57 (fun H locs hP hD hS => ?_)
  obtain ⟨a_si_57, e_a_si_57⟩ : ∃ g, g = up2 a_si_52 o9 11 (-1 : Int32) := ⟨_, rfl⟩
  have hP : va_P D vwCl (tw cs q v_t_tapeSize v_t_textSize v_t_faultKind a_t_tape a_t_text a_g_beyond v_g_size a_g_steps a_h_beyond v_h_size a_h_steps a_r_scratch a_r_now v_r_takes v_r_negative v_r_namePlace v_r_faultKind v_r_faultPlace v_a_size v_a_limit v_a_digits v_a_kind v_a_from v_a_to v_o_size a_o_out v_b_size v_b_limit v_b_digits v_b_kind v_b_from v_b_to a_u_atom a_u_other a_u_hand v_u_marksMade v_u_came v_u_guesses v_u_right v_u_taken a_u_vars a_u_marks a_u_outcomes a_u_indexes v_s_things v_s_looked v_s_lookedTooOften v_s_arraysMade v_s_cellsMade a_s_classes a_s_starts a_s_lengths a_s_cells a_L a_K a_vc a_vd a_si_57 a_sj a_iv a_inn a_ac) H := by rw [e_a_si_57]; exact vaP_eq (pu_atomClass_ hDk h_o9 hk57_ _) hP
  have hD : va_D A (tw cs q v_t_tapeSize v_t_textSize v_t_faultKind a_t_tape a_t_text a_g_beyond v_g_size a_g_steps a_h_beyond v_h_size a_h_steps a_r_scratch a_r_now v_r_takes v_r_negative v_r_namePlace v_r_faultKind v_r_faultPlace v_a_size v_a_limit v_a_digits v_a_kind v_a_from v_a_to v_o_size a_o_out v_b_size v_b_limit v_b_digits v_b_kind v_b_from v_b_to a_u_atom a_u_other a_u_hand v_u_marksMade v_u_came v_u_guesses v_u_right v_u_taken a_u_vars a_u_marks a_u_outcomes a_u_indexes v_s_things v_s_looked v_s_lookedTooOften v_s_arraysMade v_s_cellsMade a_s_classes a_s_starts a_s_lengths a_s_cells a_L a_K a_vc a_vd a_si_57 a_sj a_iv a_inn a_ac) := by rw [e_a_si_57]; exact vaD_eq (pu_atomClass_ hDk h_o9 hk57_ _) hD
  have hPI : PI a_L a_K a_si_57 a_iv a_inn := by exact PI.up (by assumption) e_a_si_57 (by decide)
  refine lv_aload_n hx hb dX6_clear_60 rfl (lv_at hl 0 rfl) ?_
  refine lv_lconst (v := 0) hx hb dX6_clear_61 (by decide) ?_
  obtain ⟨k62_, hk62_⟩ := pl_S (X := (twX cs q v_t_tapeSize v_t_textSize v_t_faultKind a_t_tape a_t_text a_g_beyond v_g_size a_g_steps a_h_beyond v_h_size a_h_steps a_r_scratch a_r_now v_r_takes v_r_negative v_r_namePlace v_r_faultKind v_r_faultPlace v_a_size v_a_limit v_a_digits v_a_kind v_a_from v_a_to v_o_size a_o_out v_b_size v_b_limit v_b_digits v_b_kind v_b_from v_b_to a_u_atom a_u_other a_u_hand v_u_marksMade v_u_came v_u_guesses v_u_right v_u_taken a_u_vars a_u_marks a_u_outcomes a_u_indexes v_s_things v_s_looked v_s_lookedTooOften v_s_arraysMade v_s_cellsMade a_s_classes a_s_starts a_s_lengths a_s_cells)) (cI := cs 0) (vc := a_vc) (vd := a_vd) (si := a_si_57) (sj := a_sj) (iv := a_iv) (inn := a_inn) (ac := a_ac) h_o9
  have hDk := hD
  refine va_put (D := D) (ci := 5) (v := .long 0) (ty := .long) (C := RX6) (T := TX6) (N := 15) hx hb hts hinX6 tyX6 tyX6_ok nmX6 hown hK hP hD hS k62_ hk62_ rfl 14 (by decide) k_16_20 (fun _ h9 => h9) rfl (by decide +kernel) rfl rfl (Nat.le_of_ble_eq_true rfl) dX6_clear_62 (fun H locs hP hD hS => ?_)
  obtain ⟨a_sj_62, e_a_sj_62⟩ : ∃ g, g = va_up a_sj o9 (0 : Int64) := ⟨_, rfl⟩
  have hP : va_P D vwCl (tw cs q v_t_tapeSize v_t_textSize v_t_faultKind a_t_tape a_t_text a_g_beyond v_g_size a_g_steps a_h_beyond v_h_size a_h_steps a_r_scratch a_r_now v_r_takes v_r_negative v_r_namePlace v_r_faultKind v_r_faultPlace v_a_size v_a_limit v_a_digits v_a_kind v_a_from v_a_to v_o_size a_o_out v_b_size v_b_limit v_b_digits v_b_kind v_b_from v_b_to a_u_atom a_u_other a_u_hand v_u_marksMade v_u_came v_u_guesses v_u_right v_u_taken a_u_vars a_u_marks a_u_outcomes a_u_indexes v_s_things v_s_looked v_s_lookedTooOften v_s_arraysMade v_s_cellsMade a_s_classes a_s_starts a_s_lengths a_s_cells a_L a_K a_vc a_vd a_si_57 a_sj_62 a_iv a_inn a_ac) H := by rw [e_a_sj_62]; exact vaP_eq (pu_atomNumber_ hDk h_o9 hk62_ _) hP
  have hD : va_D A (tw cs q v_t_tapeSize v_t_textSize v_t_faultKind a_t_tape a_t_text a_g_beyond v_g_size a_g_steps a_h_beyond v_h_size a_h_steps a_r_scratch a_r_now v_r_takes v_r_negative v_r_namePlace v_r_faultKind v_r_faultPlace v_a_size v_a_limit v_a_digits v_a_kind v_a_from v_a_to v_o_size a_o_out v_b_size v_b_limit v_b_digits v_b_kind v_b_from v_b_to a_u_atom a_u_other a_u_hand v_u_marksMade v_u_came v_u_guesses v_u_right v_u_taken a_u_vars a_u_marks a_u_outcomes a_u_indexes v_s_things v_s_looked v_s_lookedTooOften v_s_arraysMade v_s_cellsMade a_s_classes a_s_starts a_s_lengths a_s_cells a_L a_K a_vc a_vd a_si_57 a_sj_62 a_iv a_inn a_ac) := by rw [e_a_sj_62]; exact vaD_eq (pu_atomNumber_ hDk h_o9 hk62_ _) hD
  subst hAe
  rw [hQ]
  exact W.vret hx hb hr (fun t ht hW => ⟨⟨_, rfl, ⟨a_si_57, a_sj_62, rfl, by first | assumption | omega | (intros; omega) | decide⟩, by rw [ht]; exact hP, va_K.moved hW.alike hK, hD⟩, hS.F ht⟩) hS.2.2 dX6_clear_65

def rmX6_addIndex : Room := { frames := 20, cells := 0, slots := 0, locals := 400 }
set_option maxHeartbeats 4000000 in
set_option maxRecDepth 100000 in
theorem tX6_addIndex {l : Launch} {D : va_G} {K : Nat → Nat → Nat} {cs : Nat → ClassId} {q : Nat → Nat} {v_t_tapeSize v_t_textSize v_t_faultKind v_g_size v_h_size v_r_takes v_r_negative v_r_namePlace v_r_faultKind v_r_faultPlace v_a_size v_a_limit v_a_digits v_a_kind v_a_from v_a_to v_o_size v_b_size v_b_limit v_b_digits v_b_kind v_b_from v_b_to v_u_marksMade v_u_came v_u_guesses v_u_right v_u_taken v_s_things v_s_looked v_s_lookedTooOften v_s_arraysMade v_s_cellsMade : Int32} {a_t_tape a_t_text a_o_out a_u_outcomes a_u_indexes a_s_classes a_s_starts a_s_lengths a_vc : Nat → Int32} {a_g_beyond a_h_beyond a_r_scratch a_r_now a_u_atom a_u_other a_u_hand : Nat} {a_g_steps a_h_steps a_u_vars a_u_marks : Nat → Option Nat} {a_s_cells a_vd a_sj : Nat → Int64} {a_L : List Nat} {a_K a_iv a_inn : Nat → Nat} {a_si a_ac : Nat → Nat → Int32} (o9 : Nat) (h_o9 : aS a_L a_K o9) (v9 : Int32) (n9 : Int32) (p_0 : PI a_L a_K a_si a_iv a_inn) : CtV l yX6_addIndex (wG yX6_addIndex cX6_addIndex 3 none) rmX6_addIndex D (twT cs) K [.ref o9, .int v9, .int n9] (tw cs q v_t_tapeSize v_t_textSize v_t_faultKind a_t_tape a_t_text a_g_beyond v_g_size a_g_steps a_h_beyond v_h_size a_h_steps a_r_scratch a_r_now v_r_takes v_r_negative v_r_namePlace v_r_faultKind v_r_faultPlace v_a_size v_a_limit v_a_digits v_a_kind v_a_from v_a_to v_o_size a_o_out v_b_size v_b_limit v_b_digits v_b_kind v_b_from v_b_to a_u_atom a_u_other a_u_hand v_u_marksMade v_u_came v_u_guesses v_u_right v_u_taken a_u_vars a_u_marks a_u_outcomes a_u_indexes v_s_things v_s_looked v_s_lookedTooOften v_s_arraysMade v_s_cellsMade a_s_classes a_s_starts a_s_lengths a_s_cells a_L a_K a_vc a_vd a_si a_sj a_iv a_inn a_ac) (fun w1 => ∃ (a_si' : Nat → Nat → Int32) (a_ac' : Nat → Nat → Int32), w1 = (tw cs q v_t_tapeSize v_t_textSize v_t_faultKind a_t_tape a_t_text a_g_beyond v_g_size a_g_steps a_h_beyond v_h_size a_h_steps a_r_scratch a_r_now v_r_takes v_r_negative v_r_namePlace v_r_faultKind v_r_faultPlace v_a_size v_a_limit v_a_digits v_a_kind v_a_from v_a_to v_o_size a_o_out v_b_size v_b_limit v_b_digits v_b_kind v_b_from v_b_to a_u_atom a_u_other a_u_hand v_u_marksMade v_u_came v_u_guesses v_u_right v_u_taken a_u_vars a_u_marks a_u_outcomes a_u_indexes v_s_things v_s_looked v_s_lookedTooOften v_s_arraysMade v_s_cellsMade a_s_classes a_s_starts a_s_lengths a_s_cells a_L a_K a_vc a_vd a_si' a_sj a_iv a_inn a_ac') ∧ (PI a_L a_K a_si' a_iv a_inn)) 0 0 := by
  intro sz
  refine Met.ofW (cc := cX6_addIndex) (maxL := 3) (ret := none) (by decide) rfl ?_
  intro p e s m args below meth c s₁ B hml hv
  obtain ⟨rfl, hsz, hP, hK, hD0, hE⟩ := hv
  have hx := B.exec
  have hb := B.bytes
  have hr := B.returns
  have hts := atoms_spec (ws := (wG yX6_addIndex cX6_addIndex 3 none)) B.pre
  have hown : s.vm.findClass RX6 = some m.cls := findClass_of_methodNamed B.named
  have hlocks := B.notSynchronized
  subst hsz
  have hD := hD0.self (sz := s.heap.size)
  obtain ⟨A, hAe⟩ : ∃ A : Nat → Prop, A = va_A (tw cs q v_t_tapeSize v_t_textSize v_t_faultKind a_t_tape a_t_text a_g_beyond v_g_size a_g_steps a_h_beyond v_h_size a_h_steps a_r_scratch a_r_now v_r_takes v_r_negative v_r_namePlace v_r_faultKind v_r_faultPlace v_a_size v_a_limit v_a_digits v_a_kind v_a_from v_a_to v_o_size a_o_out v_b_size v_b_limit v_b_digits v_b_kind v_b_from v_b_to a_u_atom a_u_other a_u_hand v_u_marksMade v_u_came v_u_guesses v_u_right v_u_taken a_u_vars a_u_marks a_u_outcomes a_u_indexes v_s_things v_s_looked v_s_lookedTooOften v_s_arraysMade v_s_cellsMade a_s_classes a_s_starts a_s_lengths a_s_cells a_L a_K a_vc a_vd a_si a_sj a_iv a_inn a_ac) s.heap.size := ⟨_, rfl⟩
  rw [← hAe] at hD hE
  have hA : ∀ q : Nat, s.heap.size ≤ q → A q := fun q h => by rw [hAe]; exact Or.inr h
  have hS : va_S A s.heap s.heap [] := va_S.rf
  have hl := lv_entry ([.ref o9, .int v9, .int n9]) (n := 3) (Nat.le_of_ble_eq_true rfl)
  rw [lg_entry_eq]
  generalize (lg_sl ([.ref o9, .int v9, .int n9]) ++ List.replicate (3 - (lg_sl ([.ref o9, .int v9, .int n9])).length) Slot.unset).toArray = ls at hl ⊢
  have hl : lv_has ls 3 [(0, .ref o9), (1, .int v9), (2, .int n9)] := hl
  refine wq (fun Q hQ => ?_)
  have hinX6 : ∀ w ∈ wsX60, w ∈ (wG yX6_addIndex cX6_addIndex 3 none) := fun w h => List.mem_cons_of_mem _ (inlX6 w h)
  have kc0 : (1 : Int32).toInt = 1 := by decide
  have kc1 : (3 : Int32).toInt = 3 := by decide
  have k_16_17 := hts (.fieldLink RX6 46 "ArrayTrainer$Step" "indexes" "I") (List.mem_cons_of_mem _ (wr16 _ (List.mem_of_getElem? (i := 17) rfl)))
  have k_3_0 := hts (.fieldLink RX6 11 "ArrayTrainer$Step" "indexVar" "[I") (List.mem_cons_of_mem _ (wr3 _ (List.mem_of_getElem? (i := 0) rfl)))
  have k_3_1 := hts (.fieldLink RX6 15 "ArrayTrainer$Step" "indexNumber" "[I") (List.mem_cons_of_mem _ (wr3 _ (List.mem_of_getElem? (i := 1) rfl)))
  obtain ⟨H, hH⟩ : ∃ H : Heap, H = s.heap := ⟨_, rfl⟩
  obtain ⟨locs, hlc⟩ : ∃ L : List Loc, L = [] := ⟨_, rfl⟩
  have hP : va_P D vwCl (tw cs q v_t_tapeSize v_t_textSize v_t_faultKind a_t_tape a_t_text a_g_beyond v_g_size a_g_steps a_h_beyond v_h_size a_h_steps a_r_scratch a_r_now v_r_takes v_r_negative v_r_namePlace v_r_faultKind v_r_faultPlace v_a_size v_a_limit v_a_digits v_a_kind v_a_from v_a_to v_o_size a_o_out v_b_size v_b_limit v_b_digits v_b_kind v_b_from v_b_to a_u_atom a_u_other a_u_hand v_u_marksMade v_u_came v_u_guesses v_u_right v_u_taken a_u_vars a_u_marks a_u_outcomes a_u_indexes v_s_things v_s_looked v_s_lookedTooOften v_s_arraysMade v_s_cellsMade a_s_classes a_s_starts a_s_lengths a_s_cells a_L a_K a_vc a_vd a_si a_sj a_iv a_inn a_ac) H := by rw [hH]; exact hP
  have hS : va_S A s.heap H locs := by rw [hH, hlc]; exact hS
  refine wHL hH hlc ?_
  have b_v9 := iB v9
  have b_n9 := iB n9
  obtain ⟨-, -, hn0, hn3⟩ := p_0.at h_o9
  refine lv_aload_n hx hb dX6_addIndex_0 rfl (lv_at hl 0 rfl) ?_
  obtain ⟨k1_, hk1_⟩ := pl_S (X := (twX cs q v_t_tapeSize v_t_textSize v_t_faultKind a_t_tape a_t_text a_g_beyond v_g_size a_g_steps a_h_beyond v_h_size a_h_steps a_r_scratch a_r_now v_r_takes v_r_negative v_r_namePlace v_r_faultKind v_r_faultPlace v_a_size v_a_limit v_a_digits v_a_kind v_a_from v_a_to v_o_size a_o_out v_b_size v_b_limit v_b_digits v_b_kind v_b_from v_b_to a_u_atom a_u_other a_u_hand v_u_marksMade v_u_came v_u_guesses v_u_right v_u_taken a_u_vars a_u_marks a_u_outcomes a_u_indexes v_s_things v_s_looked v_s_lookedTooOften v_s_arraysMade v_s_cellsMade a_s_classes a_s_starts a_s_lengths a_s_cells)) (cI := cs 0) (vc := a_vc) (vd := a_vd) (si := a_si) (sj := a_sj) (iv := a_iv) (inn := a_inn) (ac := a_ac) h_o9
  refine va_get (D := D) (ci := 5) (v := .int (a_si o9 9)) (C := RX6) (T := TX6) (N := 15) hx hb hts hinX6 hown hK hP k1_ hk1_ rfl 9 (by decide) k_16_17 (fun _ h9 => h9) rfl dX6_addIndex_1 ?_
  refine lv_topi (fun x1 e_x1 => ?_)
  have b_x1 := iB x1
  have hx1 := congrArg Int32.toInt e_x1
  refine lv_iconst (v := 3) hx hb dX6_addIndex_4 (by decide) ?_
  refine m_icmp_ge (X := x1.toInt) (Y := 3) (tgt := 38) hx hb dX6_addIndex_5 (by decide) rfl (by decide) (fun c5 => ?_) (fun c5 => ?_)
  · skip
    subst hAe
    rw [hQ]
    exact W.vret hx hb hr (fun t ht hW => ⟨⟨_, rfl, ⟨a_si, a_ac, rfl, by first | assumption | omega | (intros; omega) | decide⟩, by rw [ht]; exact hP, va_K.moved hW.alike hK, hD⟩, hS.F ht⟩) hS.2.2 dX6_addIndex_38
  · skip
    refine lv_aload_n hx hb dX6_addIndex_8 rfl (lv_at hl 0 rfl) ?_
    obtain ⟨k9_, hk9_⟩ := pl_S (X := (twX cs q v_t_tapeSize v_t_textSize v_t_faultKind a_t_tape a_t_text a_g_beyond v_g_size a_g_steps a_h_beyond v_h_size a_h_steps a_r_scratch a_r_now v_r_takes v_r_negative v_r_namePlace v_r_faultKind v_r_faultPlace v_a_size v_a_limit v_a_digits v_a_kind v_a_from v_a_to v_o_size a_o_out v_b_size v_b_limit v_b_digits v_b_kind v_b_from v_b_to a_u_atom a_u_other a_u_hand v_u_marksMade v_u_came v_u_guesses v_u_right v_u_taken a_u_vars a_u_marks a_u_outcomes a_u_indexes v_s_things v_s_looked v_s_lookedTooOften v_s_arraysMade v_s_cellsMade a_s_classes a_s_starts a_s_lengths a_s_cells)) (cI := cs 0) (vc := a_vc) (vd := a_vd) (si := a_si) (sj := a_sj) (iv := a_iv) (inn := a_inn) (ac := a_ac) h_o9
    refine va_get (D := D) (ci := 5) (v := .ref (a_iv o9)) (C := RX6) (T := TX6) (N := 15) hx hb hts hinX6 hown hK hP k9_ hk9_ rfl 10 (by decide) k_3_0 (fun _ h9 => h9) rfl dX6_addIndex_9 ?_
    have hf9 : aR a_L a_K (a_iv o9) := (PI.at (by assumption) h_o9).1
    refine lv_aload_n hx hb dX6_addIndex_12 rfl (lv_at hl 0 rfl) ?_
    obtain ⟨k13_, hk13_⟩ := pl_S (X := (twX cs q v_t_tapeSize v_t_textSize v_t_faultKind a_t_tape a_t_text a_g_beyond v_g_size a_g_steps a_h_beyond v_h_size a_h_steps a_r_scratch a_r_now v_r_takes v_r_negative v_r_namePlace v_r_faultKind v_r_faultPlace v_a_size v_a_limit v_a_digits v_a_kind v_a_from v_a_to v_o_size a_o_out v_b_size v_b_limit v_b_digits v_b_kind v_b_from v_b_to a_u_atom a_u_other a_u_hand v_u_marksMade v_u_came v_u_guesses v_u_right v_u_taken a_u_vars a_u_marks a_u_outcomes a_u_indexes v_s_things v_s_looked v_s_lookedTooOften v_s_arraysMade v_s_cellsMade a_s_classes a_s_starts a_s_lengths a_s_cells)) (cI := cs 0) (vc := a_vc) (vd := a_vd) (si := a_si) (sj := a_sj) (iv := a_iv) (inn := a_inn) (ac := a_ac) h_o9
    refine va_get (D := D) (ci := 5) (v := .int (a_si o9 9)) (C := RX6) (T := TX6) (N := 15) hx hb hts hinX6 hown hK hP k13_ hk13_ rfl 9 (by decide) k_16_17 (fun _ h9 => h9) rfl dX6_addIndex_13 ?_
    refine lv_topi (fun x13 e_x13 => ?_)
    have b_x13 := iB x13
    refine lv_iload_n hx hb dX6_addIndex_16 rfl (lv_at hl 1 rfl) ?_
    have hx13 := congrArg Int32.toInt e_x13
    obtain ⟨k17_, hk17_⟩ := pl_A (X := (twX cs q v_t_tapeSize v_t_textSize v_t_faultKind a_t_tape a_t_text a_g_beyond v_g_size a_g_steps a_h_beyond v_h_size a_h_steps a_r_scratch a_r_now v_r_takes v_r_negative v_r_namePlace v_r_faultKind v_r_faultPlace v_a_size v_a_limit v_a_digits v_a_kind v_a_from v_a_to v_o_size a_o_out v_b_size v_b_limit v_b_digits v_b_kind v_b_from v_b_to a_u_atom a_u_other a_u_hand v_u_marksMade v_u_came v_u_guesses v_u_right v_u_taken a_u_vars a_u_marks a_u_outcomes a_u_indexes v_s_things v_s_looked v_s_lookedTooOften v_s_arraysMade v_s_cellsMade a_s_classes a_s_starts a_s_lengths a_s_cells)) (cI := cs 0) (vc := a_vc) (vd := a_vd) (si := a_si) (sj := a_sj) (iv := a_iv) (inn := a_inn) (ac := a_ac) hf9
    have hDk := hD
    refine va_iast hx hb hK hP hD hS k17_ 0 hk17_ rfl (ix (by omega) (by omega)) dX6_addIndex_17 (fun H locs hP hD hS => ?_)
    obtain ⟨a_ac_17, e_a_ac_17⟩ : ∃ g, g = va_up a_ac (a_iv o9) (upd (a_ac (a_iv o9)) x13.toNatClampNeg v9) := ⟨_, rfl⟩
    have hP : va_P D vwCl (tw cs q v_t_tapeSize v_t_textSize v_t_faultKind a_t_tape a_t_text a_g_beyond v_g_size a_g_steps a_h_beyond v_h_size a_h_steps a_r_scratch a_r_now v_r_takes v_r_negative v_r_namePlace v_r_faultKind v_r_faultPlace v_a_size v_a_limit v_a_digits v_a_kind v_a_from v_a_to v_o_size a_o_out v_b_size v_b_limit v_b_digits v_b_kind v_b_from v_b_to a_u_atom a_u_other a_u_hand v_u_marksMade v_u_came v_u_guesses v_u_right v_u_taken a_u_vars a_u_marks a_u_outcomes a_u_indexes v_s_things v_s_looked v_s_lookedTooOften v_s_arraysMade v_s_cellsMade a_s_classes a_s_starts a_s_lengths a_s_cells a_L a_K a_vc a_vd a_si a_sj a_iv a_inn a_ac_17) H := by rw [e_a_ac_17]; exact vaP_eq (pu_row hDk hf9 hk17_ _) hP
    have hD : va_D A (tw cs q v_t_tapeSize v_t_textSize v_t_faultKind a_t_tape a_t_text a_g_beyond v_g_size a_g_steps a_h_beyond v_h_size a_h_steps a_r_scratch a_r_now v_r_takes v_r_negative v_r_namePlace v_r_faultKind v_r_faultPlace v_a_size v_a_limit v_a_digits v_a_kind v_a_from v_a_to v_o_size a_o_out v_b_size v_b_limit v_b_digits v_b_kind v_b_from v_b_to a_u_atom a_u_other a_u_hand v_u_marksMade v_u_came v_u_guesses v_u_right v_u_taken a_u_vars a_u_marks a_u_outcomes a_u_indexes v_s_things v_s_looked v_s_lookedTooOften v_s_arraysMade v_s_cellsMade a_s_classes a_s_starts a_s_lengths a_s_cells a_L a_K a_vc a_vd a_si a_sj a_iv a_inn a_ac_17) := by rw [e_a_ac_17]; exact vaD_eq (pu_row hDk hf9 hk17_ _) hD
    refine lv_aload_n hx hb dX6_addIndex_18 rfl (lv_at hl 0 rfl) ?_
    obtain ⟨k19_, hk19_⟩ := pl_S (X := (twX cs q v_t_tapeSize v_t_textSize v_t_faultKind a_t_tape a_t_text a_g_beyond v_g_size a_g_steps a_h_beyond v_h_size a_h_steps a_r_scratch a_r_now v_r_takes v_r_negative v_r_namePlace v_r_faultKind v_r_faultPlace v_a_size v_a_limit v_a_digits v_a_kind v_a_from v_a_to v_o_size a_o_out v_b_size v_b_limit v_b_digits v_b_kind v_b_from v_b_to a_u_atom a_u_other a_u_hand v_u_marksMade v_u_came v_u_guesses v_u_right v_u_taken a_u_vars a_u_marks a_u_outcomes a_u_indexes v_s_things v_s_looked v_s_lookedTooOften v_s_arraysMade v_s_cellsMade a_s_classes a_s_starts a_s_lengths a_s_cells)) (cI := cs 0) (vc := a_vc) (vd := a_vd) (si := a_si) (sj := a_sj) (iv := a_iv) (inn := a_inn) (ac := a_ac_17) h_o9
    refine va_get (D := D) (ci := 5) (v := .ref (a_inn o9)) (C := RX6) (T := TX6) (N := 15) hx hb hts hinX6 hown hK hP k19_ hk19_ rfl 11 (by decide) k_3_1 (fun _ h9 => h9) rfl dX6_addIndex_19 ?_
    have hf19 : aR a_L a_K (a_inn o9) := (PI.at (by assumption) h_o9).2.1
    refine lv_aload_n hx hb dX6_addIndex_22 rfl (lv_at hl 0 rfl) ?_
    obtain ⟨k23_, hk23_⟩ := pl_S (X := (twX cs q v_t_tapeSize v_t_textSize v_t_faultKind a_t_tape a_t_text a_g_beyond v_g_size a_g_steps a_h_beyond v_h_size a_h_steps a_r_scratch a_r_now v_r_takes v_r_negative v_r_namePlace v_r_faultKind v_r_faultPlace v_a_size v_a_limit v_a_digits v_a_kind v_a_from v_a_to v_o_size a_o_out v_b_size v_b_limit v_b_digits v_b_kind v_b_from v_b_to a_u_atom a_u_other a_u_hand v_u_marksMade v_u_came v_u_guesses v_u_right v_u_taken a_u_vars a_u_marks a_u_outcomes a_u_indexes v_s_things v_s_looked v_s_lookedTooOften v_s_arraysMade v_s_cellsMade a_s_classes a_s_starts a_s_lengths a_s_cells)) (cI := cs 0) (vc := a_vc) (vd := a_vd) (si := a_si) (sj := a_sj) (iv := a_iv) (inn := a_inn) (ac := a_ac_17) h_o9
    refine va_get (D := D) (ci := 5) (v := .int (a_si o9 9)) (C := RX6) (T := TX6) (N := 15) hx hb hts hinX6 hown hK hP k23_ hk23_ rfl 9 (by decide) k_16_17 (fun _ h9 => h9) rfl dX6_addIndex_23 ?_
    refine lv_topi (fun x23 e_x23 => ?_)
    have b_x23 := iB x23
    refine lv_iload_n hx hb dX6_addIndex_26 rfl (lv_at hl 2 rfl) ?_
    have hx23 := congrArg Int32.toInt e_x23
    obtain ⟨k27_, hk27_⟩ := pl_A (X := (twX cs q v_t_tapeSize v_t_textSize v_t_faultKind a_t_tape a_t_text a_g_beyond v_g_size a_g_steps a_h_beyond v_h_size a_h_steps a_r_scratch a_r_now v_r_takes v_r_negative v_r_namePlace v_r_faultKind v_r_faultPlace v_a_size v_a_limit v_a_digits v_a_kind v_a_from v_a_to v_o_size a_o_out v_b_size v_b_limit v_b_digits v_b_kind v_b_from v_b_to a_u_atom a_u_other a_u_hand v_u_marksMade v_u_came v_u_guesses v_u_right v_u_taken a_u_vars a_u_marks a_u_outcomes a_u_indexes v_s_things v_s_looked v_s_lookedTooOften v_s_arraysMade v_s_cellsMade a_s_classes a_s_starts a_s_lengths a_s_cells)) (cI := cs 0) (vc := a_vc) (vd := a_vd) (si := a_si) (sj := a_sj) (iv := a_iv) (inn := a_inn) (ac := a_ac_17) hf19
    have hDk := hD
    refine va_iast hx hb hK hP hD hS k27_ 0 hk27_ rfl (ix (by omega) (by omega)) dX6_addIndex_27 (fun H locs hP hD hS => ?_)
    obtain ⟨a_ac_27, e_a_ac_27⟩ : ∃ g, g = va_up a_ac_17 (a_inn o9) (upd (a_ac_17 (a_inn o9)) x23.toNatClampNeg n9) := ⟨_, rfl⟩
    have hP : va_P D vwCl (tw cs q v_t_tapeSize v_t_textSize v_t_faultKind a_t_tape a_t_text a_g_beyond v_g_size a_g_steps a_h_beyond v_h_size a_h_steps a_r_scratch a_r_now v_r_takes v_r_negative v_r_namePlace v_r_faultKind v_r_faultPlace v_a_size v_a_limit v_a_digits v_a_kind v_a_from v_a_to v_o_size a_o_out v_b_size v_b_limit v_b_digits v_b_kind v_b_from v_b_to a_u_atom a_u_other a_u_hand v_u_marksMade v_u_came v_u_guesses v_u_right v_u_taken a_u_vars a_u_marks a_u_outcomes a_u_indexes v_s_things v_s_looked v_s_lookedTooOften v_s_arraysMade v_s_cellsMade a_s_classes a_s_starts a_s_lengths a_s_cells a_L a_K a_vc a_vd a_si a_sj a_iv a_inn a_ac_27) H := by rw [e_a_ac_27]; exact vaP_eq (pu_row hDk hf19 hk27_ _) hP
    have hD : va_D A (tw cs q v_t_tapeSize v_t_textSize v_t_faultKind a_t_tape a_t_text a_g_beyond v_g_size a_g_steps a_h_beyond v_h_size a_h_steps a_r_scratch a_r_now v_r_takes v_r_negative v_r_namePlace v_r_faultKind v_r_faultPlace v_a_size v_a_limit v_a_digits v_a_kind v_a_from v_a_to v_o_size a_o_out v_b_size v_b_limit v_b_digits v_b_kind v_b_from v_b_to a_u_atom a_u_other a_u_hand v_u_marksMade v_u_came v_u_guesses v_u_right v_u_taken a_u_vars a_u_marks a_u_outcomes a_u_indexes v_s_things v_s_looked v_s_lookedTooOften v_s_arraysMade v_s_cellsMade a_s_classes a_s_starts a_s_lengths a_s_cells a_L a_K a_vc a_vd a_si a_sj a_iv a_inn a_ac_27) := by rw [e_a_ac_27]; exact vaD_eq (pu_row hDk hf19 hk27_ _) hD
    refine lv_aload_n hx hb dX6_addIndex_28 rfl (lv_at hl 0 rfl) ?_
    refine lv_dup hx hb dX6_addIndex_29 rfl ?_
    obtain ⟨k30_, hk30_⟩ := pl_S (X := (twX cs q v_t_tapeSize v_t_textSize v_t_faultKind a_t_tape a_t_text a_g_beyond v_g_size a_g_steps a_h_beyond v_h_size a_h_steps a_r_scratch a_r_now v_r_takes v_r_negative v_r_namePlace v_r_faultKind v_r_faultPlace v_a_size v_a_limit v_a_digits v_a_kind v_a_from v_a_to v_o_size a_o_out v_b_size v_b_limit v_b_digits v_b_kind v_b_from v_b_to a_u_atom a_u_other a_u_hand v_u_marksMade v_u_came v_u_guesses v_u_right v_u_taken a_u_vars a_u_marks a_u_outcomes a_u_indexes v_s_things v_s_looked v_s_lookedTooOften v_s_arraysMade v_s_cellsMade a_s_classes a_s_starts a_s_lengths a_s_cells)) (cI := cs 0) (vc := a_vc) (vd := a_vd) (si := a_si) (sj := a_sj) (iv := a_iv) (inn := a_inn) (ac := a_ac_27) h_o9
    refine va_get (D := D) (ci := 5) (v := .int (a_si o9 9)) (C := RX6) (T := TX6) (N := 15) hx hb hts hinX6 hown hK hP k30_ hk30_ rfl 9 (by decide) k_16_17 (fun _ h9 => h9) rfl dX6_addIndex_30 ?_
    refine lv_topi (fun x30 e_x30 => ?_)
    have b_x30 := iB x30
    have hx30 := congrArg Int32.toInt e_x30
    refine lv_iconst (v := 1) hx hb dX6_addIndex_33 (by decide) ?_
    refine m_iadd (X := x30.toInt) (Y := 1) hx hb dX6_addIndex_34 rfl (by decide) (fun x34 e_x34 g9 => ?_)
    obtain ⟨k_x34, g_x34⟩ := g9
    have b_x34 := iB x34
    try (have q_x34 : x34.toInt = x30.toInt + 1 := (by omega); clear g_x34 k_x34)
    obtain ⟨k35_, hk35_⟩ := pl_S (X := (twX cs q v_t_tapeSize v_t_textSize v_t_faultKind a_t_tape a_t_text a_g_beyond v_g_size a_g_steps a_h_beyond v_h_size a_h_steps a_r_scratch a_r_now v_r_takes v_r_negative v_r_namePlace v_r_faultKind v_r_faultPlace v_a_size v_a_limit v_a_digits v_a_kind v_a_from v_a_to v_o_size a_o_out v_b_size v_b_limit v_b_digits v_b_kind v_b_from v_b_to a_u_atom a_u_other a_u_hand v_u_marksMade v_u_came v_u_guesses v_u_right v_u_taken a_u_vars a_u_marks a_u_outcomes a_u_indexes v_s_things v_s_looked v_s_lookedTooOften v_s_arraysMade v_s_cellsMade a_s_classes a_s_starts a_s_lengths a_s_cells)) (cI := cs 0) (vc := a_vc) (vd := a_vd) (si := a_si) (sj := a_sj) (iv := a_iv) (inn := a_inn) (ac := a_ac_27) h_o9
    have hDk := hD
    refine va_put (D := D) (ci := 5) (v := .int x34) (ty := .int) (C := RX6) (T := TX6) (N := 15) hx hb hts hinX6 tyX6 tyX6_ok nmX6 hown hK hP hD hS k35_ hk35_ rfl 9 (by decide) k_16_17 (fun _ h9 => h9) rfl (by decide +kernel) rfl rfl (Nat.le_of_ble_eq_true rfl) dX6_addIndex_35 (fun H locs hP hD hS => ?_)
    obtain ⟨a_si_35, e_a_si_35⟩ : ∃ g, g = up2 a_si o9 9 x34 := ⟨_, rfl⟩
    have hP : va_P D vwCl (tw cs q v_t_tapeSize v_t_textSize v_t_faultKind a_t_tape a_t_text a_g_beyond v_g_size a_g_steps a_h_beyond v_h_size a_h_steps a_r_scratch a_r_now v_r_takes v_r_negative v_r_namePlace v_r_faultKind v_r_faultPlace v_a_size v_a_limit v_a_digits v_a_kind v_a_from v_a_to v_o_size a_o_out v_b_size v_b_limit v_b_digits v_b_kind v_b_from v_b_to a_u_atom a_u_other a_u_hand v_u_marksMade v_u_came v_u_guesses v_u_right v_u_taken a_u_vars a_u_marks a_u_outcomes a_u_indexes v_s_things v_s_looked v_s_lookedTooOften v_s_arraysMade v_s_cellsMade a_s_classes a_s_starts a_s_lengths a_s_cells a_L a_K a_vc a_vd a_si_35 a_sj a_iv a_inn a_ac_27) H := by rw [e_a_si_35]; exact vaP_eq (pu_indexes_ hDk h_o9 hk35_ _) hP
    have hD : va_D A (tw cs q v_t_tapeSize v_t_textSize v_t_faultKind a_t_tape a_t_text a_g_beyond v_g_size a_g_steps a_h_beyond v_h_size a_h_steps a_r_scratch a_r_now v_r_takes v_r_negative v_r_namePlace v_r_faultKind v_r_faultPlace v_a_size v_a_limit v_a_digits v_a_kind v_a_from v_a_to v_o_size a_o_out v_b_size v_b_limit v_b_digits v_b_kind v_b_from v_b_to a_u_atom a_u_other a_u_hand v_u_marksMade v_u_came v_u_guesses v_u_right v_u_taken a_u_vars a_u_marks a_u_outcomes a_u_indexes v_s_things v_s_looked v_s_lookedTooOften v_s_arraysMade v_s_cellsMade a_s_classes a_s_starts a_s_lengths a_s_cells a_L a_K a_vc a_vd a_si_35 a_sj a_iv a_inn a_ac_27) := by rw [e_a_si_35]; exact vaD_eq (pu_indexes_ hDk h_o9 hk35_ _) hD
    have hPI : PI a_L a_K a_si_35 a_iv a_inn := by exact PI.up9 (by assumption) e_a_si_35 (by omega) (by omega)
    subst hAe
    rw [hQ]
    exact W.vret hx hb hr (fun t ht hW => ⟨⟨_, rfl, ⟨a_si_35, a_ac_27, rfl, by first | assumption | omega | (intros; omega) | decide⟩, by rw [ht]; exact hP, va_K.moved hW.alike hK, hD⟩, hS.F ht⟩) hS.2.2 dX6_addIndex_38
