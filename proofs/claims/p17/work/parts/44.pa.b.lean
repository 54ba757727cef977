def rmX5_put : Room := { frames := 20, cells := 0, slots := 0, locals := 400 }
set_option maxHeartbeats 4000000 in
set_option maxRecDepth 100000 in
theorem tX5_put {l : Launch} {D : va_G} {K : Nat → Nat → Nat} {cs : Nat → ClassId} {q : Nat → Nat} {v_t_tapeSize v_t_textSize v_t_faultKind v_g_size v_h_size v_r_takes v_r_negative v_r_namePlace v_r_faultKind v_r_faultPlace v_a_size v_a_limit v_a_digits v_a_kind v_a_from v_a_to v_o_size v_b_size v_b_limit v_b_digits v_b_kind v_b_from v_b_to v_u_marksMade v_u_came v_u_guesses v_u_right v_u_taken v_s_things v_s_looked v_s_lookedTooOften v_s_arraysMade v_s_cellsMade : Int32} {a_t_tape a_t_text a_o_out a_u_outcomes a_u_indexes a_s_classes a_s_starts a_s_lengths a_vc : Nat → Int32} {a_g_beyond a_h_beyond a_r_scratch a_r_now a_u_atom a_u_other a_u_hand : Nat} {a_g_steps a_h_steps a_u_vars a_u_marks : Nat → Option Nat} {a_s_cells a_vd a_sj : Nat → Int64} {a_L : List Nat} {a_K a_iv a_inn : Nat → Nat} {a_si a_ac : Nat → Nat → Int32} (g9 : Int32) (p_0 : 0 ≤ v_o_size.toInt) (p_1 : v_o_size.toInt ≤ 256) : CtV l yX5_put (wG yX5_put cX5_put 2 none) rmX5_put D (twT cs) K [.ref (q 9), .int g9] (tw cs q v_t_tapeSize v_t_textSize v_t_faultKind a_t_tape a_t_text a_g_beyond v_g_size a_g_steps a_h_beyond v_h_size a_h_steps a_r_scratch a_r_now v_r_takes v_r_negative v_r_namePlace v_r_faultKind v_r_faultPlace v_a_size v_a_limit v_a_digits v_a_kind v_a_from v_a_to v_o_size a_o_out v_b_size v_b_limit v_b_digits v_b_kind v_b_from v_b_to a_u_atom a_u_other a_u_hand v_u_marksMade v_u_came v_u_guesses v_u_right v_u_taken a_u_vars a_u_marks a_u_outcomes a_u_indexes v_s_things v_s_looked v_s_lookedTooOften v_s_arraysMade v_s_cellsMade a_s_classes a_s_starts a_s_lengths a_s_cells a_L a_K a_vc a_vd a_si a_sj a_iv a_inn a_ac) (fun w1 => ∃ (v_o_size' : Int32) (a_o_out' : Nat → Int32), w1 = (tw cs q v_t_tapeSize v_t_textSize v_t_faultKind a_t_tape a_t_text a_g_beyond v_g_size a_g_steps a_h_beyond v_h_size a_h_steps a_r_scratch a_r_now v_r_takes v_r_negative v_r_namePlace v_r_faultKind v_r_faultPlace v_a_size v_a_limit v_a_digits v_a_kind v_a_from v_a_to v_o_size' a_o_out' v_b_size v_b_limit v_b_digits v_b_kind v_b_from v_b_to a_u_atom a_u_other a_u_hand v_u_marksMade v_u_came v_u_guesses v_u_right v_u_taken a_u_vars a_u_marks a_u_outcomes a_u_indexes v_s_things v_s_looked v_s_lookedTooOften v_s_arraysMade v_s_cellsMade a_s_classes a_s_starts a_s_lengths a_s_cells a_L a_K a_vc a_vd a_si a_sj a_iv a_inn a_ac) ∧ (0 ≤ v_o_size'.toInt) ∧ (v_o_size'.toInt ≤ 256)) 0 0 := by
  intro sz
  refine Met.ofW (cc := cX5_put) (maxL := 2) (ret := none) (by decide) rfl ?_
  intro p e s m args below meth c s₁ B hml hv
  obtain ⟨rfl, hsz, hP, hK, hD0, hE⟩ := hv
  have hx := B.exec
  have hb := B.bytes
  have hr := B.returns
  have hts := atoms_spec (ws := (wG yX5_put cX5_put 2 none)) B.pre
  have hown : s.vm.findClass RX5 = some m.cls := findClass_of_methodNamed B.named
  have hlocks := B.notSynchronized
  subst hsz
  have hD := hD0.self (sz := s.heap.size)
  obtain ⟨A, hAe⟩ : ∃ A : Nat → Prop, A = va_A (tw cs q v_t_tapeSize v_t_textSize v_t_faultKind a_t_tape a_t_text a_g_beyond v_g_size a_g_steps a_h_beyond v_h_size a_h_steps a_r_scratch a_r_now v_r_takes v_r_negative v_r_namePlace v_r_faultKind v_r_faultPlace v_a_size v_a_limit v_a_digits v_a_kind v_a_from v_a_to v_o_size a_o_out v_b_size v_b_limit v_b_digits v_b_kind v_b_from v_b_to a_u_atom a_u_other a_u_hand v_u_marksMade v_u_came v_u_guesses v_u_right v_u_taken a_u_vars a_u_marks a_u_outcomes a_u_indexes v_s_things v_s_looked v_s_lookedTooOften v_s_arraysMade v_s_cellsMade a_s_classes a_s_starts a_s_lengths a_s_cells a_L a_K a_vc a_vd a_si a_sj a_iv a_inn a_ac) s.heap.size := ⟨_, rfl⟩
  rw [← hAe] at hD hE
  have hA : ∀ q : Nat, s.heap.size ≤ q → A q := fun q h => by rw [hAe]; exact Or.inr h
  have hS : va_S A s.heap s.heap [] := va_S.rf
  have hl := lv_entry ([.ref (q 9), .int g9]) (n := 2) (Nat.le_of_ble_eq_true rfl)
  rw [lg_entry_eq]
  generalize (lg_sl ([.ref (q 9), .int g9]) ++ List.replicate (2 - (lg_sl ([.ref (q 9), .int g9])).length) Slot.unset).toArray = ls at hl ⊢
  have hl : lv_has ls 2 [(0, .ref (q 9)), (1, .int g9)] := hl
  refine wq (fun Q hQ => ?_)
  have hinX5 : ∀ w ∈ wsX50, w ∈ (wG yX5_put cX5_put 2 none) := fun w h => List.mem_cons_of_mem _ (inlX5 w h)
  have kc0 : (1 : Int32).toInt = 1 := by decide
  have k_33_3 := hts (.fieldLink RX5 19 "ArrayTrainer$Speller" "size" "I") (List.mem_cons_of_mem _ (wr33 _ (List.mem_of_getElem? (i := 3) rfl)))
  have k_3_19 := hts (.fieldLink RX5 11 "ArrayTrainer$Speller" "out" "[B") (List.mem_cons_of_mem _ (wr3 _ (List.mem_of_getElem? (i := 19) rfl)))
  obtain ⟨H, hH⟩ : ∃ H : Heap, H = s.heap := ⟨_, rfl⟩
  obtain ⟨locs, hlc⟩ : ∃ L : List Loc, L = [] := ⟨_, rfl⟩
  have hP : va_P D vwCl (tw cs q v_t_tapeSize v_t_textSize v_t_faultKind a_t_tape a_t_text a_g_beyond v_g_size a_g_steps a_h_beyond v_h_size a_h_steps a_r_scratch a_r_now v_r_takes v_r_negative v_r_namePlace v_r_faultKind v_r_faultPlace v_a_size v_a_limit v_a_digits v_a_kind v_a_from v_a_to v_o_size a_o_out v_b_size v_b_limit v_b_digits v_b_kind v_b_from v_b_to a_u_atom a_u_other a_u_hand v_u_marksMade v_u_came v_u_guesses v_u_right v_u_taken a_u_vars a_u_marks a_u_outcomes a_u_indexes v_s_things v_s_looked v_s_lookedTooOften v_s_arraysMade v_s_cellsMade a_s_classes a_s_starts a_s_lengths a_s_cells a_L a_K a_vc a_vd a_si a_sj a_iv a_inn a_ac) H := by rw [hH]; exact hP
  have hS : va_S A s.heap H locs := by rw [hH, hlc]; exact hS
  refine wHL hH hlc ?_
  have b_g9 := iB g9
  refine lv_aload_n hx hb dX5_put_0 rfl (lv_at hl 0 rfl) ?_
  refine va_get (D := D) (ci := 4) (v := .int v_o_size) (C := RX5) (T := TX5) (N := 3) hx hb hts hinX5 hown hK hP 9 rfl rfl 2 (by decide) k_33_3 (fun _ h9 => h9) rfl dX5_put_1 ?_
  refine lv_aload_n hx hb dX5_put_4 rfl (lv_at hl 0 rfl) ?_
  refine va_get (D := D) (ci := 4) (v := .ref (q 10)) (C := RX5) (T := TX5) (N := 3) hx hb hts hinX5 hown hK hP 9 rfl rfl 1 (by decide) k_3_19 (fun _ h9 => h9) rfl dX5_put_5 ?_
  refine m_alen hx hb hK hP 10 2 rfl rfl (show 256 < 2147483648 by decide) dX5_put_8 (fun x8 g_x8 => ?_)
  have g_x8 : x8.toInt = 256 := g_x8
  refine m_icmp_ge (X := v_o_size.toInt) (Y := x8.toInt) (tgt := 33) hx hb dX5_put_9 (by decide) rfl rfl (fun c9 => ?_) (fun c9 => ?_)
  · skip
    subst hAe
    rw [hQ]
    exact W.vret hx hb hr (fun t ht hW => ⟨⟨_, rfl, ⟨v_o_size, a_o_out, rfl, by first | assumption | omega | (intros; omega) | decide, by first | assumption | omega | (intros; omega) | decide⟩, by rw [ht]; exact hP, va_K.moved hW.alike hK, hD⟩, hS.F ht⟩) hS.2.2 dX5_put_33
  · skip
    refine lv_aload_n hx hb dX5_put_12 rfl (lv_at hl 0 rfl) ?_
    refine va_get (D := D) (ci := 4) (v := .ref (q 10)) (C := RX5) (T := TX5) (N := 3) hx hb hts hinX5 hown hK hP 9 rfl rfl 1 (by decide) k_3_19 (fun _ h9 => h9) rfl dX5_put_13 ?_
    refine lv_aload_n hx hb dX5_put_16 rfl (lv_at hl 0 rfl) ?_
    refine va_get (D := D) (ci := 4) (v := .int v_o_size) (C := RX5) (T := TX5) (N := 3) hx hb hts hinX5 hown hK hP 9 rfl rfl 2 (by decide) k_33_3 (fun _ h9 => h9) rfl dX5_put_17 ?_
    refine lv_iload_n hx hb dX5_put_20 rfl (lv_at hl 1 rfl) ?_
    refine m_i2b hx hb dX5_put_21 (fun x21 e_x21 => ?_)
    have b_x21 := iB x21
    refine va_bast hx hb hK hP hD hS 10 2 rfl rfl (ix (by omega) (by omega)) dX5_put_22 (fun H locs hP hD hS => ?_)
    obtain ⟨a_o_out_22, e_a_o_out_22⟩ : ∃ g, g = upd a_o_out v_o_size.toNatClampNeg (vp_nar .byte x21) := ⟨_, rfl⟩
    have hP : va_P D vwCl (tw cs q v_t_tapeSize v_t_textSize v_t_faultKind a_t_tape a_t_text a_g_beyond v_g_size a_g_steps a_h_beyond v_h_size a_h_steps a_r_scratch a_r_now v_r_takes v_r_negative v_r_namePlace v_r_faultKind v_r_faultPlace v_a_size v_a_limit v_a_digits v_a_kind v_a_from v_a_to v_o_size a_o_out_22 v_b_size v_b_limit v_b_digits v_b_kind v_b_from v_b_to a_u_atom a_u_other a_u_hand v_u_marksMade v_u_came v_u_guesses v_u_right v_u_taken a_u_vars a_u_marks a_u_outcomes a_u_indexes v_s_things v_s_looked v_s_lookedTooOften v_s_arraysMade v_s_cellsMade a_s_classes a_s_starts a_s_lengths a_s_cells a_L a_K a_vc a_vd a_si a_sj a_iv a_inn a_ac) H := by rw [e_a_o_out_22]; exact hP
    have hD : va_D A (tw cs q v_t_tapeSize v_t_textSize v_t_faultKind a_t_tape a_t_text a_g_beyond v_g_size a_g_steps a_h_beyond v_h_size a_h_steps a_r_scratch a_r_now v_r_takes v_r_negative v_r_namePlace v_r_faultKind v_r_faultPlace v_a_size v_a_limit v_a_digits v_a_kind v_a_from v_a_to v_o_size a_o_out_22 v_b_size v_b_limit v_b_digits v_b_kind v_b_from v_b_to a_u_atom a_u_other a_u_hand v_u_marksMade v_u_came v_u_guesses v_u_right v_u_taken a_u_vars a_u_marks a_u_outcomes a_u_indexes v_s_things v_s_looked v_s_lookedTooOften v_s_arraysMade v_s_cellsMade a_s_classes a_s_starts a_s_lengths a_s_cells a_L a_K a_vc a_vd a_si a_sj a_iv a_inn a_ac) := by rw [e_a_o_out_22]; exact hD
    refine lv_aload_n hx hb dX5_put_23 rfl (lv_at hl 0 rfl) ?_
    refine lv_dup hx hb dX5_put_24 rfl ?_
    refine va_get (D := D) (ci := 4) (v := .int v_o_size) (C := RX5) (T := TX5) (N := 3) hx hb hts hinX5 hown hK hP 9 rfl rfl 2 (by decide) k_33_3 (fun _ h9 => h9) rfl dX5_put_25 ?_
    refine lv_iconst (v := 1) hx hb dX5_put_28 (by decide) ?_
    refine m_iadd (X := v_o_size.toInt) (Y := 1) hx hb dX5_put_29 rfl (by decide) (fun x29 e_x29 g9 => ?_)
    obtain ⟨k_x29, g_x29⟩ := g9
    have b_x29 := iB x29
    try (have q_x29 : x29.toInt = v_o_size.toInt + 1 := (by omega); clear g_x29 k_x29)
    refine va_put (D := D) (ci := 4) (v := .int x29) (ty := .int) (C := RX5) (T := TX5) (N := 3) hx hb hts hinX5 tyX5 tyX5_ok nmX5 hown hK hP hD hS 9 rfl rfl 2 (by decide) k_33_3 (fun _ h9 => h9) rfl (by decide +kernel) rfl rfl (Nat.le_of_ble_eq_true rfl) dX5_put_30 (fun H locs hP hD hS => ?_)
    have hP : va_P D vwCl (tw cs q v_t_tapeSize v_t_textSize v_t_faultKind a_t_tape a_t_text a_g_beyond v_g_size a_g_steps a_h_beyond v_h_size a_h_steps a_r_scratch a_r_now v_r_takes v_r_negative v_r_namePlace v_r_faultKind v_r_faultPlace v_a_size v_a_limit v_a_digits v_a_kind v_a_from v_a_to x29 a_o_out_22 v_b_size v_b_limit v_b_digits v_b_kind v_b_from v_b_to a_u_atom a_u_other a_u_hand v_u_marksMade v_u_came v_u_guesses v_u_right v_u_taken a_u_vars a_u_marks a_u_outcomes a_u_indexes v_s_things v_s_looked v_s_lookedTooOften v_s_arraysMade v_s_cellsMade a_s_classes a_s_starts a_s_lengths a_s_cells a_L a_K a_vc a_vd a_si a_sj a_iv a_inn a_ac) H := hP
    have hD : va_D A (tw cs q v_t_tapeSize v_t_textSize v_t_faultKind a_t_tape a_t_text a_g_beyond v_g_size a_g_steps a_h_beyond v_h_size a_h_steps a_r_scratch a_r_now v_r_takes v_r_negative v_r_namePlace v_r_faultKind v_r_faultPlace v_a_size v_a_limit v_a_digits v_a_kind v_a_from v_a_to x29 a_o_out_22 v_b_size v_b_limit v_b_digits v_b_kind v_b_from v_b_to a_u_atom a_u_other a_u_hand v_u_marksMade v_u_came v_u_guesses v_u_right v_u_taken a_u_vars a_u_marks a_u_outcomes a_u_indexes v_s_things v_s_looked v_s_lookedTooOften v_s_arraysMade v_s_cellsMade a_s_classes a_s_starts a_s_lengths a_s_cells a_L a_K a_vc a_vd a_si a_sj a_iv a_inn a_ac) := hD
    subst hAe
    rw [hQ]
    exact W.vret hx hb hr (fun t ht hW => ⟨⟨_, rfl, ⟨x29, a_o_out_22, rfl, by first | assumption | omega | (intros; omega) | decide, by first | assumption | omega | (intros; omega) | decide⟩, by rw [ht]; exact hP, va_K.moved hW.alike hK, hD⟩, hS.F ht⟩) hS.2.2 dX5_put_33

def rmX5_byteAt : Room := { frames := 20, cells := 0, slots := 0, locals := 400 }
set_option maxHeartbeats 4000000 in
set_option maxRecDepth 100000 in
theorem tX5_byteAt {l : Launch} {D : va_G} {K : Nat → Nat → Nat} {cs : Nat → ClassId} {q : Nat → Nat} {v_t_tapeSize v_t_textSize v_t_faultKind v_g_size v_h_size v_r_takes v_r_negative v_r_namePlace v_r_faultKind v_r_faultPlace v_a_size v_a_limit v_a_digits v_a_kind v_a_from v_a_to v_o_size v_b_size v_b_limit v_b_digits v_b_kind v_b_from v_b_to v_u_marksMade v_u_came v_u_guesses v_u_right v_u_taken v_s_things v_s_looked v_s_lookedTooOften v_s_arraysMade v_s_cellsMade : Int32} {a_t_tape a_t_text a_o_out a_u_outcomes a_u_indexes a_s_classes a_s_starts a_s_lengths a_vc : Nat → Int32} {a_g_beyond a_h_beyond a_r_scratch a_r_now a_u_atom a_u_other a_u_hand : Nat} {a_g_steps a_h_steps a_u_vars a_u_marks : Nat → Option Nat} {a_s_cells a_vd a_sj : Nat → Int64} {a_L : List Nat} {a_K a_iv a_inn : Nat → Nat} {a_si a_ac : Nat → Nat → Int32} (i9 : Int32) (p_0 : 0 ≤ v_o_size.toInt) (p_1 : v_o_size.toInt ≤ 256) : CtI l yX5_byteAt (wG yX5_byteAt cX5_byteAt 2 (some .int)) rmX5_byteAt D (twT cs) K [.ref (q 9), .int i9] (tw cs q v_t_tapeSize v_t_textSize v_t_faultKind a_t_tape a_t_text a_g_beyond v_g_size a_g_steps a_h_beyond v_h_size a_h_steps a_r_scratch a_r_now v_r_takes v_r_negative v_r_namePlace v_r_faultKind v_r_faultPlace v_a_size v_a_limit v_a_digits v_a_kind v_a_from v_a_to v_o_size a_o_out v_b_size v_b_limit v_b_digits v_b_kind v_b_from v_b_to a_u_atom a_u_other a_u_hand v_u_marksMade v_u_came v_u_guesses v_u_right v_u_taken a_u_vars a_u_marks a_u_outcomes a_u_indexes v_s_things v_s_looked v_s_lookedTooOften v_s_arraysMade v_s_cellsMade a_s_classes a_s_starts a_s_lengths a_s_cells a_L a_K a_vc a_vd a_si a_sj a_iv a_inn a_ac) (fun r w1 => w1 = (tw cs q v_t_tapeSize v_t_textSize v_t_faultKind a_t_tape a_t_text a_g_beyond v_g_size a_g_steps a_h_beyond v_h_size a_h_steps a_r_scratch a_r_now v_r_takes v_r_negative v_r_namePlace v_r_faultKind v_r_faultPlace v_a_size v_a_limit v_a_digits v_a_kind v_a_from v_a_to v_o_size a_o_out v_b_size v_b_limit v_b_digits v_b_kind v_b_from v_b_to a_u_atom a_u_other a_u_hand v_u_marksMade v_u_came v_u_guesses v_u_right v_u_taken a_u_vars a_u_marks a_u_outcomes a_u_indexes v_s_things v_s_looked v_s_lookedTooOften v_s_arraysMade v_s_cellsMade a_s_classes a_s_starts a_s_lengths a_s_cells a_L a_K a_vc a_vd a_si a_sj a_iv a_inn a_ac)) 0 0 := by
  intro sz
  refine Met.ofW (cc := cX5_byteAt) (maxL := 2) (ret := (some .int)) (by decide) rfl ?_
  intro p e s m args below meth c s₁ B hml hv
  obtain ⟨rfl, hsz, hP, hK, hD0, hE⟩ := hv
  have hx := B.exec
  have hb := B.bytes
  have hr := B.returns
  have hts := atoms_spec (ws := (wG yX5_byteAt cX5_byteAt 2 (some .int))) B.pre
  have hown : s.vm.findClass RX5 = some m.cls := findClass_of_methodNamed B.named
  have hlocks := B.notSynchronized
  subst hsz
  have hD := hD0.self (sz := s.heap.size)
  obtain ⟨A, hAe⟩ : ∃ A : Nat → Prop, A = va_A (tw cs q v_t_tapeSize v_t_textSize v_t_faultKind a_t_tape a_t_text a_g_beyond v_g_size a_g_steps a_h_beyond v_h_size a_h_steps a_r_scratch a_r_now v_r_takes v_r_negative v_r_namePlace v_r_faultKind v_r_faultPlace v_a_size v_a_limit v_a_digits v_a_kind v_a_from v_a_to v_o_size a_o_out v_b_size v_b_limit v_b_digits v_b_kind v_b_from v_b_to a_u_atom a_u_other a_u_hand v_u_marksMade v_u_came v_u_guesses v_u_right v_u_taken a_u_vars a_u_marks a_u_outcomes a_u_indexes v_s_things v_s_looked v_s_lookedTooOften v_s_arraysMade v_s_cellsMade a_s_classes a_s_starts a_s_lengths a_s_cells a_L a_K a_vc a_vd a_si a_sj a_iv a_inn a_ac) s.heap.size := ⟨_, rfl⟩
  rw [← hAe] at hD hE
  have hA : ∀ q : Nat, s.heap.size ≤ q → A q := fun q h => by rw [hAe]; exact Or.inr h
  have hS : va_S A s.heap s.heap [] := va_S.rf
  have hl := lv_entry ([.ref (q 9), .int i9]) (n := 2) (Nat.le_of_ble_eq_true rfl)
  rw [lg_entry_eq]
  generalize (lg_sl ([.ref (q 9), .int i9]) ++ List.replicate (2 - (lg_sl ([.ref (q 9), .int i9])).length) Slot.unset).toArray = ls at hl ⊢
  have hl : lv_has ls 2 [(0, .ref (q 9)), (1, .int i9)] := hl
  refine wq (fun Q hQ => ?_)
  have hinX5 : ∀ w ∈ wsX50, w ∈ (wG yX5_byteAt cX5_byteAt 2 (some .int)) := fun w h => List.mem_cons_of_mem _ (inlX5 w h)
  have kc0 : (0 : Int32).toInt = 0 := by decide
  have k_33_3 := hts (.fieldLink RX5 19 "ArrayTrainer$Speller" "size" "I") (List.mem_cons_of_mem _ (wr33 _ (List.mem_of_getElem? (i := 3) rfl)))
  have k_3_19 := hts (.fieldLink RX5 11 "ArrayTrainer$Speller" "out" "[B") (List.mem_cons_of_mem _ (wr3 _ (List.mem_of_getElem? (i := 19) rfl)))
  obtain ⟨H, hH⟩ : ∃ H : Heap, H = s.heap := ⟨_, rfl⟩
  obtain ⟨locs, hlc⟩ : ∃ L : List Loc, L = [] := ⟨_, rfl⟩
  have hP : va_P D vwCl (tw cs q v_t_tapeSize v_t_textSize v_t_faultKind a_t_tape a_t_text a_g_beyond v_g_size a_g_steps a_h_beyond v_h_size a_h_steps a_r_scratch a_r_now v_r_takes v_r_negative v_r_namePlace v_r_faultKind v_r_faultPlace v_a_size v_a_limit v_a_digits v_a_kind v_a_from v_a_to v_o_size a_o_out v_b_size v_b_limit v_b_digits v_b_kind v_b_from v_b_to a_u_atom a_u_other a_u_hand v_u_marksMade v_u_came v_u_guesses v_u_right v_u_taken a_u_vars a_u_marks a_u_outcomes a_u_indexes v_s_things v_s_looked v_s_lookedTooOften v_s_arraysMade v_s_cellsMade a_s_classes a_s_starts a_s_lengths a_s_cells a_L a_K a_vc a_vd a_si a_sj a_iv a_inn a_ac) H := by rw [hH]; exact hP
  have hS : va_S A s.heap H locs := by rw [hH, hlc]; exact hS
  refine wHL hH hlc ?_
  have b_i9 := iB i9
  refine lv_iload_n hx hb dX5_byteAt_0 rfl (lv_at hl 1 rfl) ?_
  refine m_if_lt (X := i9.toInt) (tgt := 21) hx hb dX5_byteAt_1 (by decide) rfl (fun c1 => ?_) (fun c1 => ?_)
  · skip
    refine lv_iconst (v := 0) hx hb dX5_byteAt_21 (by decide) ?_
    subst hAe
    rw [hQ]
    exact W.iret (v := 0) hx hb hr (fun t ht hW => ⟨⟨0, _, rfl, rfl, by rw [ht]; exact hP, va_K.moved hW.alike hK, hD⟩, hS.F ht⟩) hS.2.2 dX5_byteAt_22
  · skip
    refine lv_iload_n hx hb dX5_byteAt_4 rfl (lv_at hl 1 rfl) ?_
    refine lv_aload_n hx hb dX5_byteAt_5 rfl (lv_at hl 0 rfl) ?_
    refine va_get (D := D) (ci := 4) (v := .int v_o_size) (C := RX5) (T := TX5) (N := 3) hx hb hts hinX5 hown hK hP 9 rfl rfl 2 (by decide) k_33_3 (fun _ h9 => h9) rfl dX5_byteAt_6 ?_
    refine m_icmp_ge (X := i9.toInt) (Y := v_o_size.toInt) (tgt := 21) hx hb dX5_byteAt_9 (by decide) rfl rfl (fun c9 => ?_) (fun c9 => ?_)
    · skip
      refine lv_iconst (v := 0) hx hb dX5_byteAt_21 (by decide) ?_
      subst hAe
      rw [hQ]
      exact W.iret (v := 0) hx hb hr (fun t ht hW => ⟨⟨0, _, rfl, rfl, by rw [ht]; exact hP, va_K.moved hW.alike hK, hD⟩, hS.F ht⟩) hS.2.2 dX5_byteAt_22
    · skip
      refine lv_aload_n hx hb dX5_byteAt_12 rfl (lv_at hl 0 rfl) ?_
      refine va_get (D := D) (ci := 4) (v := .ref (q 10)) (C := RX5) (T := TX5) (N := 3) hx hb hts hinX5 hown hK hP 9 rfl rfl 1 (by decide) k_3_19 (fun _ h9 => h9) rfl dX5_byteAt_13 ?_
      refine lv_iload_n hx hb dX5_byteAt_16 rfl (lv_at hl 1 rfl) ?_
      refine m_bald hx hb hK hP 10 2 rfl rfl (ix (by omega) (by omega)) dX5_byteAt_17 (fun x17 e_x17 => ?_)
      have b_x17 := iB x17
      refine lv_goto (tgt := 22) hx hb dX5_byteAt_18 (by decide) ?_
      subst hAe
      rw [hQ]
      exact W.iret (v := x17) hx hb hr (fun t ht hW => ⟨⟨x17, _, rfl, rfl, by rw [ht]; exact hP, va_K.moved hW.alike hK, hD⟩, hS.F ht⟩) hS.2.2 dX5_byteAt_22

def rmX5_staysClose : Room := { frames := 40, cells := 0, slots := 0, locals := 800 }
set_option maxHeartbeats 4000000 in
set_option maxRecDepth 100000 in
theorem tX5_staysClose {l : Launch} {D : va_G} {K : Nat → Nat → Nat} {cs : Nat → ClassId} {q : Nat → Nat} {v_t_tapeSize v_t_textSize v_t_faultKind v_g_size v_h_size v_r_takes v_r_negative v_r_namePlace v_r_faultKind v_r_faultPlace v_a_size v_a_limit v_a_digits v_a_kind v_a_from v_a_to v_o_size v_b_size v_b_limit v_b_digits v_b_kind v_b_from v_b_to v_u_marksMade v_u_came v_u_guesses v_u_right v_u_taken v_s_things v_s_looked v_s_lookedTooOften v_s_arraysMade v_s_cellsMade : Int32} {a_t_tape a_t_text a_o_out a_u_outcomes a_u_indexes a_s_classes a_s_starts a_s_lengths a_vc : Nat → Int32} {a_g_beyond a_h_beyond a_r_scratch a_r_now a_u_atom a_u_other a_u_hand : Nat} {a_g_steps a_h_steps a_u_vars a_u_marks : Nat → Option Nat} {a_s_cells a_vd a_sj : Nat → Int64} {a_L : List Nat} {a_K a_iv a_inn : Nat → Nat} {a_si a_ac : Nat → Nat → Int32} (p_0 : LI 3000 v_b_size v_b_limit v_b_digits v_b_kind v_b_from v_b_to) : CtI l yX5_staysClose (wG yX5_staysClose cX5_staysClose 1 (some .boolean)) rmX5_staysClose D (twT cs) K [.ref (q 9)] (tw cs q v_t_tapeSize v_t_textSize v_t_faultKind a_t_tape a_t_text a_g_beyond v_g_size a_g_steps a_h_beyond v_h_size a_h_steps a_r_scratch a_r_now v_r_takes v_r_negative v_r_namePlace v_r_faultKind v_r_faultPlace v_a_size v_a_limit v_a_digits v_a_kind v_a_from v_a_to v_o_size a_o_out v_b_size v_b_limit v_b_digits v_b_kind v_b_from v_b_to a_u_atom a_u_other a_u_hand v_u_marksMade v_u_came v_u_guesses v_u_right v_u_taken a_u_vars a_u_marks a_u_outcomes a_u_indexes v_s_things v_s_looked v_s_lookedTooOften v_s_arraysMade v_s_cellsMade a_s_classes a_s_starts a_s_lengths a_s_cells a_L a_K a_vc a_vd a_si a_sj a_iv a_inn a_ac) (fun r w1 => w1 = (tw cs q v_t_tapeSize v_t_textSize v_t_faultKind a_t_tape a_t_text a_g_beyond v_g_size a_g_steps a_h_beyond v_h_size a_h_steps a_r_scratch a_r_now v_r_takes v_r_negative v_r_namePlace v_r_faultKind v_r_faultPlace v_a_size v_a_limit v_a_digits v_a_kind v_a_from v_a_to v_o_size a_o_out v_b_size v_b_limit v_b_digits v_b_kind v_b_from v_b_to a_u_atom a_u_other a_u_hand v_u_marksMade v_u_came v_u_guesses v_u_right v_u_taken a_u_vars a_u_marks a_u_outcomes a_u_indexes v_s_things v_s_looked v_s_lookedTooOften v_s_arraysMade v_s_cellsMade a_s_classes a_s_starts a_s_lengths a_s_cells a_L a_K a_vc a_vd a_si a_sj a_iv a_inn a_ac) ∧ (r.toInt = 0 ∨ r.toInt = 1)) 0 0 := by
  intro sz
  refine Met.ofW (cc := cX5_staysClose) (maxL := 1) (ret := (some .boolean)) (by decide) rfl ?_
  intro p e s m args below meth c s₁ B hml hv
  obtain ⟨rfl, hsz, hP, hK, hD0, hE⟩ := hv
  have hx := B.exec
  have hb := B.bytes
  have hr := B.returns
  have hts := atoms_spec (ws := (wG yX5_staysClose cX5_staysClose 1 (some .boolean))) B.pre
  have hown : s.vm.findClass RX5 = some m.cls := findClass_of_methodNamed B.named
  have hlocks := B.notSynchronized
  subst hsz
  have hD := hD0.self (sz := s.heap.size)
  obtain ⟨A, hAe⟩ : ∃ A : Nat → Prop, A = va_A (tw cs q v_t_tapeSize v_t_textSize v_t_faultKind a_t_tape a_t_text a_g_beyond v_g_size a_g_steps a_h_beyond v_h_size a_h_steps a_r_scratch a_r_now v_r_takes v_r_negative v_r_namePlace v_r_faultKind v_r_faultPlace v_a_size v_a_limit v_a_digits v_a_kind v_a_from v_a_to v_o_size a_o_out v_b_size v_b_limit v_b_digits v_b_kind v_b_from v_b_to a_u_atom a_u_other a_u_hand v_u_marksMade v_u_came v_u_guesses v_u_right v_u_taken a_u_vars a_u_marks a_u_outcomes a_u_indexes v_s_things v_s_looked v_s_lookedTooOften v_s_arraysMade v_s_cellsMade a_s_classes a_s_starts a_s_lengths a_s_cells a_L a_K a_vc a_vd a_si a_sj a_iv a_inn a_ac) s.heap.size := ⟨_, rfl⟩
  rw [← hAe] at hD hE
  have hA : ∀ q : Nat, s.heap.size ≤ q → A q := fun q h => by rw [hAe]; exact Or.inr h
  have hS : va_S A s.heap s.heap [] := va_S.rf
  have hl := lv_entry ([.ref (q 9)]) (n := 1) (Nat.le_of_ble_eq_true rfl)
  rw [lg_entry_eq]
  generalize (lg_sl ([.ref (q 9)]) ++ List.replicate (1 - (lg_sl ([.ref (q 9)])).length) Slot.unset).toArray = ls at hl ⊢
  have hl : lv_has ls 1 [(0, .ref (q 9))] := hl
  refine wq (fun Q hQ => ?_)
  have hinX5 : ∀ w ∈ wsX50, w ∈ (wG yX5_staysClose cX5_staysClose 1 (some .boolean)) := fun w h => List.mem_cons_of_mem _ (inlX5 w h)
  have kc0 : (0 : Int32).toInt = 0 := by decide
  have kc1 : (1 : Int32).toInt = 1 := by decide
  have kc2 : (59 : Int32).toInt = 59 := by decide
  have kc3 : (91 : Int32).toInt = 91 := by decide
  have kc4 : (93 : Int32).toInt = 93 := by decide
  have k_3_20 := hts (.fieldLink RX5 15 "ArrayTrainer$Speller" "lexer" "LArrayTrainer$Lexer;") (List.mem_cons_of_mem _ (wr3 _ (List.mem_of_getElem? (i := 20) rfl)))
  obtain ⟨H, hH⟩ : ∃ H : Heap, H = s.heap := ⟨_, rfl⟩
  obtain ⟨locs, hlc⟩ : ∃ L : List Loc, L = [] := ⟨_, rfl⟩
  have hP : va_P D vwCl (tw cs q v_t_tapeSize v_t_textSize v_t_faultKind a_t_tape a_t_text a_g_beyond v_g_size a_g_steps a_h_beyond v_h_size a_h_steps a_r_scratch a_r_now v_r_takes v_r_negative v_r_namePlace v_r_faultKind v_r_faultPlace v_a_size v_a_limit v_a_digits v_a_kind v_a_from v_a_to v_o_size a_o_out v_b_size v_b_limit v_b_digits v_b_kind v_b_from v_b_to a_u_atom a_u_other a_u_hand v_u_marksMade v_u_came v_u_guesses v_u_right v_u_taken a_u_vars a_u_marks a_u_outcomes a_u_indexes v_s_things v_s_looked v_s_lookedTooOften v_s_arraysMade v_s_cellsMade a_s_classes a_s_starts a_s_lengths a_s_cells a_L a_K a_vc a_vd a_si a_sj a_iv a_inn a_ac) H := by rw [hH]; exact hP
  have hS : va_S A s.heap H locs := by rw [hH, hlc]; exact hS
  refine wHL hH hlc ?_
  refine lv_aload_n hx hb dX5_staysClose_0 rfl (lv_at hl 0 rfl) ?_
  refine va_get (D := D) (ci := 4) (v := .ref (q 11)) (C := RX5) (T := TX5) (N := 3) hx hb hts hinX5 hown hK hP 9 rfl rfl 0 (by decide) k_3_20 (fun _ h9 => h9) rfl dX5_staysClose_1 ?_
  refine lv_bipush (v := 91) hx hb dX5_staysClose_4 (by decide) ?_
  refine call_i (As := [.int 91]) (rest := []) ⟨hx, hb, hml, hown, hts⟩ (tX1_isSign_qb (l := l) (91 : Int32) (by first | assumption | omega | (intros; omega) | decide)) (cwV 1 hts (gV (wr33 _ (List.mem_of_getElem? (i := 11) rfl)) (wr17 _ (List.mem_of_getElem? (i := 19) rfl)) (wr17 _ (List.mem_of_getElem? (i := 20) rfl)) (wr2 _ (List.mem_of_getElem? (i := 2) rfl)) (wr17 _ (List.mem_of_getElem? (i := 21) rfl))) rfl rfl rfl (by decide +kernel) ⟨Nat.le_of_ble_eq_true rfl, Nat.le_of_ble_eq_true rfl⟩) (va_recv hK hP (ci := 0) (q0 := 11) rfl rfl) hK hP hD hE hS hA rfl hl.1 rfl (Nat.le_of_ble_eq_true rfl) dX5_staysClose_6 ⟨Nat.le_of_ble_eq_true rfl, Nat.le_of_ble_eq_true rfl⟩ (fun r6 w9 H locs hw6 hP hD hS => ?_)
  obtain ⟨rfl, hw6_0⟩ := hw6
  have b_r6 := iB r6
  refine m_if_ne (X := r6.toInt) (tgt := 36) hx hb dX5_staysClose_9 (by decide) rfl (fun c9 => ?_) (fun c9 => ?_)
  · skip
    refine lv_iconst (v := 1) hx hb dX5_staysClose_36 (by decide) ?_
    refine lv_goto (tgt := 41) hx hb dX5_staysClose_37 (by decide) ?_
    subst hAe
    rw [hQ]
    exact W.zret (v := 1) hx hb hr (by decide) (fun t ht hW => ⟨⟨1, _, rfl, ⟨rfl, by first | assumption | omega | (intros; omega) | decide⟩, by rw [ht]; exact hP, va_K.moved hW.alike hK, hD⟩, hS.F ht⟩) hS.2.2 dX5_staysClose_41
  · skip
    refine lv_aload_n hx hb dX5_staysClose_12 rfl (lv_at hl 0 rfl) ?_
    refine va_get (D := D) (ci := 4) (v := .ref (q 11)) (C := RX5) (T := TX5) (N := 3) hx hb hts hinX5 hown hK hP 9 rfl rfl 0 (by decide) k_3_20 (fun _ h9 => h9) rfl dX5_staysClose_13 ?_
    refine lv_bipush (v := 93) hx hb dX5_staysClose_16 (by decide) ?_
    refine call_i (As := [.int 93]) (rest := []) ⟨hx, hb, hml, hown, hts⟩ (tX1_isSign_qb (l := l) (93 : Int32) (by first | assumption | omega | (intros; omega) | decide)) (cwV 1 hts (gV (wr33 _ (List.mem_of_getElem? (i := 11) rfl)) (wr17 _ (List.mem_of_getElem? (i := 19) rfl)) (wr17 _ (List.mem_of_getElem? (i := 20) rfl)) (wr2 _ (List.mem_of_getElem? (i := 2) rfl)) (wr17 _ (List.mem_of_getElem? (i := 21) rfl))) rfl rfl rfl (by decide +kernel) ⟨Nat.le_of_ble_eq_true rfl, Nat.le_of_ble_eq_true rfl⟩) (va_recv hK hP (ci := 0) (q0 := 11) rfl rfl) hK hP hD hE hS hA rfl hl.1 rfl (Nat.le_of_ble_eq_true rfl) dX5_staysClose_18 ⟨Nat.le_of_ble_eq_true rfl, Nat.le_of_ble_eq_true rfl⟩ (fun r18 w9 H locs hw18 hP hD hS => ?_)
    obtain ⟨rfl, hw18_0⟩ := hw18
    have b_r18 := iB r18
    refine m_if_ne (X := r18.toInt) (tgt := 36) hx hb dX5_staysClose_21 (by decide) rfl (fun c21 => ?_) (fun c21 => ?_)
    · skip
      refine lv_iconst (v := 1) hx hb dX5_staysClose_36 (by decide) ?_
      refine lv_goto (tgt := 41) hx hb dX5_staysClose_37 (by decide) ?_
      subst hAe
      rw [hQ]
      exact W.zret (v := 1) hx hb hr (by decide) (fun t ht hW => ⟨⟨1, _, rfl, ⟨rfl, by first | assumption | omega | (intros; omega) | decide⟩, by rw [ht]; exact hP, va_K.moved hW.alike hK, hD⟩, hS.F ht⟩) hS.2.2 dX5_staysClose_41
    · skip
      refine lv_aload_n hx hb dX5_staysClose_24 rfl (lv_at hl 0 rfl) ?_
      refine va_get (D := D) (ci := 4) (v := .ref (q 11)) (C := RX5) (T := TX5) (N := 3) hx hb hts hinX5 hown hK hP 9 rfl rfl 0 (by decide) k_3_20 (fun _ h9 => h9) rfl dX5_staysClose_25 ?_
      refine lv_bipush (v := 59) hx hb dX5_staysClose_28 (by decide) ?_
      refine call_i (As := [.int 59]) (rest := []) ⟨hx, hb, hml, hown, hts⟩ (tX1_isSign_qb (l := l) (59 : Int32) (by first | assumption | omega | (intros; omega) | decide)) (cwV 1 hts (gV (wr33 _ (List.mem_of_getElem? (i := 11) rfl)) (wr17 _ (List.mem_of_getElem? (i := 19) rfl)) (wr17 _ (List.mem_of_getElem? (i := 20) rfl)) (wr2 _ (List.mem_of_getElem? (i := 2) rfl)) (wr17 _ (List.mem_of_getElem? (i := 21) rfl))) rfl rfl rfl (by decide +kernel) ⟨Nat.le_of_ble_eq_true rfl, Nat.le_of_ble_eq_true rfl⟩) (va_recv hK hP (ci := 0) (q0 := 11) rfl rfl) hK hP hD hE hS hA rfl hl.1 rfl (Nat.le_of_ble_eq_true rfl) dX5_staysClose_30 ⟨Nat.le_of_ble_eq_true rfl, Nat.le_of_ble_eq_true rfl⟩ (fun r30 w9 H locs hw30 hP hD hS => ?_)
      obtain ⟨rfl, hw30_0⟩ := hw30
      have b_r30 := iB r30
      refine m_if_eq (X := r30.toInt) (tgt := 40) hx hb dX5_staysClose_33 (by decide) rfl (fun c33 => ?_) (fun c33 => ?_)
      · skip
        refine lv_iconst (v := 0) hx hb dX5_staysClose_40 (by decide) ?_
        subst hAe
        rw [hQ]
        exact W.zret (v := 0) hx hb hr (by decide) (fun t ht hW => ⟨⟨0, _, rfl, ⟨rfl, by first | assumption | omega | (intros; omega) | decide⟩, by rw [ht]; exact hP, va_K.moved hW.alike hK, hD⟩, hS.F ht⟩) hS.2.2 dX5_staysClose_41
      · skip
        refine lv_iconst (v := 1) hx hb dX5_staysClose_36 (by decide) ?_
        refine lv_goto (tgt := 41) hx hb dX5_staysClose_37 (by decide) ?_
        subst hAe
        rw [hQ]
        exact W.zret (v := 1) hx hb hr (by decide) (fun t ht hW => ⟨⟨1, _, rfl, ⟨rfl, by first | assumption | omega | (intros; omega) | decide⟩, by rw [ht]; exact hP, va_K.moved hW.alike hK, hD⟩, hS.F ht⟩) hS.2.2 dX5_staysClose_41

def rmX5_putToken : Room := { frames := 40, cells := 0, slots := 0, locals := 800 }
set_option maxHeartbeats 4000000 in
set_option maxRecDepth 100000 in
theorem tX5_putToken {l : Launch} {D : va_G} {K : Nat → Nat → Nat} {cs : Nat → ClassId} {q : Nat → Nat} {v_t_tapeSize v_t_textSize v_t_faultKind v_g_size v_h_size v_r_takes v_r_negative v_r_namePlace v_r_faultKind v_r_faultPlace v_a_size v_a_limit v_a_digits v_a_kind v_a_from v_a_to v_o_size v_b_size v_b_limit v_b_digits v_b_kind v_b_from v_b_to v_u_marksMade v_u_came v_u_guesses v_u_right v_u_taken v_s_things v_s_looked v_s_lookedTooOften v_s_arraysMade v_s_cellsMade : Int32} {a_t_tape a_t_text a_o_out a_u_outcomes a_u_indexes a_s_classes a_s_starts a_s_lengths a_vc : Nat → Int32} {a_g_beyond a_h_beyond a_r_scratch a_r_now a_u_atom a_u_other a_u_hand : Nat} {a_g_steps a_h_steps a_u_vars a_u_marks : Nat → Option Nat} {a_s_cells a_vd a_sj : Nat → Int64} {a_L : List Nat} {a_K a_iv a_inn : Nat → Nat} {a_si a_ac : Nat → Nat → Int32} (p_0 : LI 3000 v_b_size v_b_limit v_b_digits v_b_kind v_b_from v_b_to) (p_1 : 0 ≤ v_o_size.toInt) (p_2 : v_o_size.toInt ≤ 256) : CtV l yX5_putToken (wG yX5_putToken cX5_putToken 2 none) rmX5_putToken D (twT cs) K [.ref (q 9)] (tw cs q v_t_tapeSize v_t_textSize v_t_faultKind a_t_tape a_t_text a_g_beyond v_g_size a_g_steps a_h_beyond v_h_size a_h_steps a_r_scratch a_r_now v_r_takes v_r_negative v_r_namePlace v_r_faultKind v_r_faultPlace v_a_size v_a_limit v_a_digits v_a_kind v_a_from v_a_to v_o_size a_o_out v_b_size v_b_limit v_b_digits v_b_kind v_b_from v_b_to a_u_atom a_u_other a_u_hand v_u_marksMade v_u_came v_u_guesses v_u_right v_u_taken a_u_vars a_u_marks a_u_outcomes a_u_indexes v_s_things v_s_looked v_s_lookedTooOften v_s_arraysMade v_s_cellsMade a_s_classes a_s_starts a_s_lengths a_s_cells a_L a_K a_vc a_vd a_si a_sj a_iv a_inn a_ac) (fun w1 => ∃ (v_o_size' : Int32) (a_o_out' : Nat → Int32), w1 = (tw cs q v_t_tapeSize v_t_textSize v_t_faultKind a_t_tape a_t_text a_g_beyond v_g_size a_g_steps a_h_beyond v_h_size a_h_steps a_r_scratch a_r_now v_r_takes v_r_negative v_r_namePlace v_r_faultKind v_r_faultPlace v_a_size v_a_limit v_a_digits v_a_kind v_a_from v_a_to v_o_size' a_o_out' v_b_size v_b_limit v_b_digits v_b_kind v_b_from v_b_to a_u_atom a_u_other a_u_hand v_u_marksMade v_u_came v_u_guesses v_u_right v_u_taken a_u_vars a_u_marks a_u_outcomes a_u_indexes v_s_things v_s_looked v_s_lookedTooOften v_s_arraysMade v_s_cellsMade a_s_classes a_s_starts a_s_lengths a_s_cells a_L a_K a_vc a_vd a_si a_sj a_iv a_inn a_ac) ∧ (0 ≤ v_o_size'.toInt) ∧ (v_o_size'.toInt ≤ 256)) 0 0 := by
  intro sz
  refine Met.ofW (cc := cX5_putToken) (maxL := 2) (ret := none) (by decide) rfl ?_
  intro p e s m args below meth c s₁ B hml hv
  obtain ⟨rfl, hsz, hP, hK, hD0, hE⟩ := hv
  have hx := B.exec
  have hb := B.bytes
  have hr := B.returns
  have hts := atoms_spec (ws := (wG yX5_putToken cX5_putToken 2 none)) B.pre
  have hown : s.vm.findClass RX5 = some m.cls := findClass_of_methodNamed B.named
  have hlocks := B.notSynchronized
  subst hsz
  have hD := hD0.self (sz := s.heap.size)
  obtain ⟨A, hAe⟩ : ∃ A : Nat → Prop, A = va_A (tw cs q v_t_tapeSize v_t_textSize v_t_faultKind a_t_tape a_t_text a_g_beyond v_g_size a_g_steps a_h_beyond v_h_size a_h_steps a_r_scratch a_r_now v_r_takes v_r_negative v_r_namePlace v_r_faultKind v_r_faultPlace v_a_size v_a_limit v_a_digits v_a_kind v_a_from v_a_to v_o_size a_o_out v_b_size v_b_limit v_b_digits v_b_kind v_b_from v_b_to a_u_atom a_u_other a_u_hand v_u_marksMade v_u_came v_u_guesses v_u_right v_u_taken a_u_vars a_u_marks a_u_outcomes a_u_indexes v_s_things v_s_looked v_s_lookedTooOften v_s_arraysMade v_s_cellsMade a_s_classes a_s_starts a_s_lengths a_s_cells a_L a_K a_vc a_vd a_si a_sj a_iv a_inn a_ac) s.heap.size := ⟨_, rfl⟩
  rw [← hAe] at hD hE
  have hA : ∀ q : Nat, s.heap.size ≤ q → A q := fun q h => by rw [hAe]; exact Or.inr h
  have hS : va_S A s.heap s.heap [] := va_S.rf
  have hl := lv_entry ([.ref (q 9)]) (n := 2) (Nat.le_of_ble_eq_true rfl)
  rw [lg_entry_eq]
  generalize (lg_sl ([.ref (q 9)]) ++ List.replicate (2 - (lg_sl ([.ref (q 9)])).length) Slot.unset).toArray = ls at hl ⊢
  have hl : lv_has ls 2 [(0, .ref (q 9))] := hl
  refine wq (fun Q hQ => ?_)
  have hinX1 : ∀ w ∈ wsX10, w ∈ (wG yX5_putToken cX5_putToken 2 none) := fun w h => List.mem_cons_of_mem _ (inlX1 w h)
  have hinX5 : ∀ w ∈ wsX50, w ∈ (wG yX5_putToken cX5_putToken 2 none) := fun w h => List.mem_cons_of_mem _ (inlX5 w h)
  have k_3_20 := hts (.fieldLink RX5 15 "ArrayTrainer$Speller" "lexer" "LArrayTrainer$Lexer;") (List.mem_cons_of_mem _ (wr3 _ (List.mem_of_getElem? (i := 20) rfl)))
  have k_33_20 := hts (.fieldLink RX5 54 "ArrayTrainer$Lexer" "to" "I") (List.mem_cons_of_mem _ (wr33 _ (List.mem_of_getElem? (i := 20) rfl)))
  obtain ⟨H, hH⟩ : ∃ H : Heap, H = s.heap := ⟨_, rfl⟩
  obtain ⟨locs, hlc⟩ : ∃ L : List Loc, L = [] := ⟨_, rfl⟩
  have hP : va_P D vwCl (tw cs q v_t_tapeSize v_t_textSize v_t_faultKind a_t_tape a_t_text a_g_beyond v_g_size a_g_steps a_h_beyond v_h_size a_h_steps a_r_scratch a_r_now v_r_takes v_r_negative v_r_namePlace v_r_faultKind v_r_faultPlace v_a_size v_a_limit v_a_digits v_a_kind v_a_from v_a_to v_o_size a_o_out v_b_size v_b_limit v_b_digits v_b_kind v_b_from v_b_to a_u_atom a_u_other a_u_hand v_u_marksMade v_u_came v_u_guesses v_u_right v_u_taken a_u_vars a_u_marks a_u_outcomes a_u_indexes v_s_things v_s_looked v_s_lookedTooOften v_s_arraysMade v_s_cellsMade a_s_classes a_s_starts a_s_lengths a_s_cells a_L a_K a_vc a_vd a_si a_sj a_iv a_inn a_ac) H := by rw [hH]; exact hP
  have hS : va_S A s.heap H locs := by rw [hH, hlc]; exact hS
  refine wHL hH hlc ?_
  obtain ⟨⟨h1, h2⟩, ⟨h3, h4⟩, ⟨h5, h6⟩, ⟨h7, h8⟩, h9, h10⟩ := id p_0
  have bto := iB v_b_to
  refine lv_aload_n hx hb dX5_putToken_0 rfl (lv_at hl 0 rfl) ?_
  refine va_get (D := D) (ci := 4) (v := .ref (q 11)) (C := RX5) (T := TX5) (N := 3) hx hb hts hinX5 hown hK hP 9 rfl rfl 0 (by decide) k_3_20 (fun _ h9 => h9) rfl dX5_putToken_1 ?_
  refine call_i (As := []) (rest := []) ⟨hx, hb, hml, hown, hts⟩ (tX1_spelledFrom_qb (l := l)  (by first | assumption | omega | (intros; omega) | decide)) (cwV 0 hts (gV (wr33 _ (List.mem_of_getElem? (i := 21) rfl)) (wr33 _ (List.mem_of_getElem? (i := 22) rfl)) (wr33 _ (List.mem_of_getElem? (i := 23) rfl)) (wr2 _ (List.mem_of_getElem? (i := 2) rfl)) (wr34 _ (List.mem_of_getElem? (i := 0) rfl))) rfl rfl rfl (by decide +kernel) ⟨Nat.le_of_ble_eq_true rfl, Nat.le_of_ble_eq_true rfl⟩) (va_recv hK hP (ci := 0) (q0 := 11) rfl rfl) hK hP hD hE hS hA rfl hl.1 rfl (Nat.le_of_ble_eq_true rfl) dX5_putToken_4 ⟨Nat.le_of_ble_eq_true rfl, Nat.le_of_ble_eq_true rfl⟩ (fun r4 w9 H locs hw4 hP hD hS => ?_)
  obtain ⟨rfl, hw4_0⟩ := hw4
  have b_r4 := iB r4
  refine lv_istore_n (lv' := [(1, .int r4), (0, .ref (q 9))]) hx hb dX5_putToken_7 rfl hl (by decide) rfl (fun ls hl => ?_)
  have J8 : ∀ (n8 : Nat) (l1_8 : Int32) (a_o_out_8 : Nat → Int32) (v_o_size_8 : Int32) (H : Heap) (locs : List Loc) (ls : Array Slot), (0 ≤ l1_8.toInt) → (l1_8.toInt ≤ 2147483647) → (0 ≤ v_o_size_8.toInt) → (v_o_size_8.toInt ≤ 256) → (2147483647 - l1_8.toInt < (n8 : Int)) → va_P D vwCl (tw cs q v_t_tapeSize v_t_textSize v_t_faultKind a_t_tape a_t_text a_g_beyond v_g_size a_g_steps a_h_beyond v_h_size a_h_steps a_r_scratch a_r_now v_r_takes v_r_negative v_r_namePlace v_r_faultKind v_r_faultPlace v_a_size v_a_limit v_a_digits v_a_kind v_a_from v_a_to v_o_size_8 a_o_out_8 v_b_size v_b_limit v_b_digits v_b_kind v_b_from v_b_to a_u_atom a_u_other a_u_hand v_u_marksMade v_u_came v_u_guesses v_u_right v_u_taken a_u_vars a_u_marks a_u_outcomes a_u_indexes v_s_things v_s_looked v_s_lookedTooOften v_s_arraysMade v_s_cellsMade a_s_classes a_s_starts a_s_lengths a_s_cells a_L a_K a_vc a_vd a_si a_sj a_iv a_inn a_ac) H → va_D A (tw cs q v_t_tapeSize v_t_textSize v_t_faultKind a_t_tape a_t_text a_g_beyond v_g_size a_g_steps a_h_beyond v_h_size a_h_steps a_r_scratch a_r_now v_r_takes v_r_negative v_r_namePlace v_r_faultKind v_r_faultPlace v_a_size v_a_limit v_a_digits v_a_kind v_a_from v_a_to v_o_size_8 a_o_out_8 v_b_size v_b_limit v_b_digits v_b_kind v_b_from v_b_to a_u_atom a_u_other a_u_hand v_u_marksMade v_u_came v_u_guesses v_u_right v_u_taken a_u_vars a_u_marks a_u_outcomes a_u_indexes v_s_things v_s_looked v_s_lookedTooOften v_s_arraysMade v_s_cellsMade a_s_classes a_s_starts a_s_lengths a_s_cells a_L a_K a_vc a_vd a_si a_sj a_iv a_inn a_ac) → va_S A s.heap H locs → lv_has ls 2 [(0, .ref (q 9)), (1, .int l1_8)] → W p l e (headSpec (wG yX5_putToken cX5_putToken 2 none) rmX5_putToken).room s m ([.ref (q 9)] : List Value).toArray below meth c H locs 0 0 Q (F0 m 8 ls []) := by
    intro n8
    induction n8 with
    | zero =>
      intro l1_8 a_o_out_8 v_o_size_8 H locs ls f8_0 f8_1 f8_2 f8_3 hm8
      exfalso
      omega
    | succ n8 ih8 =>
      intro l1_8 a_o_out_8 v_o_size_8 H locs ls f8_0 f8_1 f8_2 f8_3 hm8 hP hD hS hl
      refine lv_iload_n hx hb dX5_putToken_8 rfl (lv_at hl 1 rfl) ?_
      refine lv_aload_n hx hb dX5_putToken_9 rfl (lv_at hl 0 rfl) ?_
      refine va_get (D := D) (ci := 4) (v := .ref (q 11)) (C := RX5) (T := TX5) (N := 3) hx hb hts hinX5 hown hK hP 9 rfl rfl 0 (by decide) k_3_20 (fun _ h9 => h9) rfl dX5_putToken_10 ?_
      refine va_get (D := D) (ci := 0) (v := .int v_b_to) (C := RX1) (T := TX1) (N := 7) hx hb hts hinX1 hown hK hP 11 rfl rfl 6 (by decide) k_33_20 (fun _ h9 => h9) rfl dX5_putToken_13 ?_
      refine m_icmp_ge (X := l1_8.toInt) (Y := v_b_to.toInt) (tgt := 37) hx hb dX5_putToken_16 (by decide) rfl rfl (fun c16 => ?_) (fun c16 => ?_)
      · skip
        subst hAe
        rw [hQ]
        exact W.vret hx hb hr (fun t ht hW => ⟨⟨_, rfl, ⟨v_o_size_8, a_o_out_8, rfl, by first | assumption | omega | (intros; omega) | decide, by first | assumption | omega | (intros; omega) | decide⟩, by rw [ht]; exact hP, va_K.moved hW.alike hK, hD⟩, hS.F ht⟩) hS.2.2 dX5_putToken_37
      · skip
        refine lv_aload_n hx hb dX5_putToken_19 rfl (lv_at hl 0 rfl) ?_
        refine lv_aload_n hx hb dX5_putToken_20 rfl (lv_at hl 0 rfl) ?_
        refine va_get (D := D) (ci := 4) (v := .ref (q 11)) (C := RX5) (T := TX5) (N := 3) hx hb hts hinX5 hown hK hP 9 rfl rfl 0 (by decide) k_3_20 (fun _ h9 => h9) rfl dX5_putToken_21 ?_
        refine lv_iload_n hx hb dX5_putToken_24 rfl (lv_at hl 1 rfl) ?_
        refine call_i (As := [.int l1_8]) (rest := [.ref (q 9)]) ⟨hx, hb, hml, hown, hts⟩ (tX1_byteAt_qb (l := l) l1_8 (by first | assumption | omega | (intros; omega) | decide) (by first | assumption | omega | (intros; omega) | decide)) (cwV 1 hts (gV (wr34 _ (List.mem_of_getElem? (i := 1) rfl)) (wr34 _ (List.mem_of_getElem? (i := 2) rfl)) (wr34 _ (List.mem_of_getElem? (i := 3) rfl)) (wr2 _ (List.mem_of_getElem? (i := 2) rfl)) (wr34 _ (List.mem_of_getElem? (i := 4) rfl))) rfl rfl rfl (by decide +kernel) ⟨Nat.le_of_ble_eq_true rfl, Nat.le_of_ble_eq_true rfl⟩) (va_recv hK hP (ci := 0) (q0 := 11) rfl rfl) hK hP hD hE hS hA rfl hl.1 rfl (Nat.le_of_ble_eq_true rfl) dX5_putToken_25 ⟨Nat.le_of_ble_eq_true rfl, Nat.le_of_ble_eq_true rfl⟩ (fun r25 w9 H locs hw25 hP hD hS => ?_)
        obtain ⟨rfl⟩ := hw25
        have b_r25 := iB r25
        refine call_v (As := [.int r25]) (rest := []) ⟨hx, hb, hml, hown, hts⟩ (tX5_put (l := l) r25 (by first | assumption | omega | (intros; omega) | decide) (by first | assumption | omega | (intros; omega) | decide)) (cwV 1 hts (gV (wr33 _ (List.mem_of_getElem? (i := 12) rfl)) (wr33 _ (List.mem_of_getElem? (i := 13) rfl)) (wr33 _ (List.mem_of_getElem? (i := 14) rfl)) (wr2 _ (List.mem_of_getElem? (i := 6) rfl)) (wr33 _ (List.mem_of_getElem? (i := 15) rfl))) rfl rfl rfl (by decide +kernel) ⟨Nat.le_of_ble_eq_true rfl, Nat.le_of_ble_eq_true rfl⟩) (va_recv hK hP (ci := 4) (q0 := 9) rfl rfl) hK hP hD hE hS hA rfl hl.1 rfl (Nat.le_of_ble_eq_true rfl) dX5_putToken_28 ⟨Nat.le_of_ble_eq_true rfl, Nat.le_of_ble_eq_true rfl⟩ (fun w9 H locs hw28 hP hD hS => ?_)
        obtain ⟨v_o_size_28, a_o_out_28, rfl, hw28_0, hw28_1⟩ := hw28
        have b_v_o_size_28 := iB v_o_size_28
        obtain ⟨x31, e_x31⟩ : ∃ z : Int32, z = l1_8 + (1 : Int32) := ⟨_, rfl⟩
        obtain ⟨k_x31, g_x31⟩ : ∃ k : Int, x31.toInt = l1_8.toInt + (1) + k * 4294967296 := by rw [e_x31]; exact iAdd l1_8 (1)
        have b_x31 := iB x31
        try (have q_x31 : x31.toInt = l1_8.toInt + (1) := (by omega); clear g_x31 k_x31)
        refine lv_iinc (v := x31) (lv' := [(1, .int x31), (0, .ref (q 9))]) hx hb dX5_putToken_31 hl (k := 1) rfl (by rw [e_x31]; rfl) (by decide) rfl (fun ls hl => ?_)
        refine lv_goto (tgt := 8) hx hb dX5_putToken_34 (by decide) ?_
        exact ih8 x31 a_o_out_28 v_o_size_28 H locs ls (by first | assumption | omega | (intros; omega) | decide) (by first | assumption | omega | (intros; omega) | decide) (by first | assumption | omega | (intros; omega) | decide) (by first | assumption | omega | (intros; omega) | decide) (by omega) hP hD hS (lv_sub hl [1, 0] rfl)
  exact J8 ((2147483647 - r4.toInt).toNat + 1) r4 a_o_out v_o_size H locs ls (by first | assumption | omega | (intros; omega) | decide) (by first | assumption | omega | (intros; omega) | decide) (by first | assumption | omega | (intros; omega) | decide) (by first | assumption | omega | (intros; omega) | decide) (by omega) hP hD hS (lv_sub hl [1, 0] rfl)

def rmX5_write : Room := { frames := 140, cells := 0, slots := 0, locals := 2800 }
set_option maxHeartbeats 4000000 in
set_option maxRecDepth 100000 in
theorem tX5_write {l : Launch} {D : va_G} {K : Nat → Nat → Nat} {cs : Nat → ClassId} {q : Nat → Nat} {v_t_tapeSize v_t_textSize v_t_faultKind v_g_size v_h_size v_r_takes v_r_negative v_r_namePlace v_r_faultKind v_r_faultPlace v_a_size v_a_limit v_a_digits v_a_kind v_a_from v_a_to v_o_size v_b_size v_b_limit v_b_digits v_b_kind v_b_from v_b_to v_u_marksMade v_u_came v_u_guesses v_u_right v_u_taken v_s_things v_s_looked v_s_lookedTooOften v_s_arraysMade v_s_cellsMade : Int32} {a_t_tape a_t_text a_o_out a_u_outcomes a_u_indexes a_s_classes a_s_starts a_s_lengths a_vc : Nat → Int32} {a_g_beyond a_h_beyond a_r_scratch a_r_now a_u_atom a_u_other a_u_hand : Nat} {a_g_steps a_h_steps a_u_vars a_u_marks : Nat → Option Nat} {a_s_cells a_vd a_sj : Nat → Int64} {a_L : List Nat} {a_K a_iv a_inn : Nat → Nat} {a_si a_ac : Nat → Nat → Int32} (n9 : Int32) (p9 : Int32) (p_0 : LI 3000 v_b_size v_b_limit v_b_digits v_b_kind v_b_from v_b_to) (p_1 : 0 ≤ v_o_size.toInt) (p_2 : v_o_size.toInt ≤ 256) : CtV l yX5_write (wG yX5_write cX5_write 6 none) rmX5_write D (twT cs) K [.ref (q 9), .int n9, .int p9] (tw cs q v_t_tapeSize v_t_textSize v_t_faultKind a_t_tape a_t_text a_g_beyond v_g_size a_g_steps a_h_beyond v_h_size a_h_steps a_r_scratch a_r_now v_r_takes v_r_negative v_r_namePlace v_r_faultKind v_r_faultPlace v_a_size v_a_limit v_a_digits v_a_kind v_a_from v_a_to v_o_size a_o_out v_b_size v_b_limit v_b_digits v_b_kind v_b_from v_b_to a_u_atom a_u_other a_u_hand v_u_marksMade v_u_came v_u_guesses v_u_right v_u_taken a_u_vars a_u_marks a_u_outcomes a_u_indexes v_s_things v_s_looked v_s_lookedTooOften v_s_arraysMade v_s_cellsMade a_s_classes a_s_starts a_s_lengths a_s_cells a_L a_K a_vc a_vd a_si a_sj a_iv a_inn a_ac) (fun w1 => ∃ (v_o_size' : Int32) (a_o_out' : Nat → Int32) (v_b_size' : Int32) (v_b_limit' : Int32) (v_b_digits' : Int32) (v_b_kind' : Int32) (v_b_from' : Int32) (v_b_to' : Int32), w1 = (tw cs q v_t_tapeSize v_t_textSize v_t_faultKind a_t_tape a_t_text a_g_beyond v_g_size a_g_steps a_h_beyond v_h_size a_h_steps a_r_scratch a_r_now v_r_takes v_r_negative v_r_namePlace v_r_faultKind v_r_faultPlace v_a_size v_a_limit v_a_digits v_a_kind v_a_from v_a_to v_o_size' a_o_out' v_b_size' v_b_limit' v_b_digits' v_b_kind' v_b_from' v_b_to' a_u_atom a_u_other a_u_hand v_u_marksMade v_u_came v_u_guesses v_u_right v_u_taken a_u_vars a_u_marks a_u_outcomes a_u_indexes v_s_things v_s_looked v_s_lookedTooOften v_s_arraysMade v_s_cellsMade a_s_classes a_s_starts a_s_lengths a_s_cells a_L a_K a_vc a_vd a_si a_sj a_iv a_inn a_ac) ∧ (LI 3000 v_b_size' v_b_limit' v_b_digits' v_b_kind' v_b_from' v_b_to') ∧ (0 ≤ v_o_size'.toInt) ∧ (v_o_size'.toInt ≤ 256)) 0 0 := by
  intro sz
  refine Met.ofW (cc := cX5_write) (maxL := 6) (ret := none) (by decide) rfl ?_
  intro p e s m args below meth c s₁ B hml hv
  obtain ⟨rfl, hsz, hP, hK, hD0, hE⟩ := hv
  have hx := B.exec
  have hb := B.bytes
  have hr := B.returns
  have hts := atoms_spec (ws := (wG yX5_write cX5_write 6 none)) B.pre
  have hown : s.vm.findClass RX5 = some m.cls := findClass_of_methodNamed B.named
  have hlocks := B.notSynchronized
  subst hsz
  have hD := hD0.self (sz := s.heap.size)
  obtain ⟨A, hAe⟩ : ∃ A : Nat → Prop, A = va_A (tw cs q v_t_tapeSize v_t_textSize v_t_faultKind a_t_tape a_t_text a_g_beyond v_g_size a_g_steps a_h_beyond v_h_size a_h_steps a_r_scratch a_r_now v_r_takes v_r_negative v_r_namePlace v_r_faultKind v_r_faultPlace v_a_size v_a_limit v_a_digits v_a_kind v_a_from v_a_to v_o_size a_o_out v_b_size v_b_limit v_b_digits v_b_kind v_b_from v_b_to a_u_atom a_u_other a_u_hand v_u_marksMade v_u_came v_u_guesses v_u_right v_u_taken a_u_vars a_u_marks a_u_outcomes a_u_indexes v_s_things v_s_looked v_s_lookedTooOften v_s_arraysMade v_s_cellsMade a_s_classes a_s_starts a_s_lengths a_s_cells a_L a_K a_vc a_vd a_si a_sj a_iv a_inn a_ac) s.heap.size := ⟨_, rfl⟩
  rw [← hAe] at hD hE
  have hA : ∀ q : Nat, s.heap.size ≤ q → A q := fun q h => by rw [hAe]; exact Or.inr h
  have hS : va_S A s.heap s.heap [] := va_S.rf
  have hl := lv_entry ([.ref (q 9), .int n9, .int p9]) (n := 6) (Nat.le_of_ble_eq_true rfl)
  rw [lg_entry_eq]
  generalize (lg_sl ([.ref (q 9), .int n9, .int p9]) ++ List.replicate (6 - (lg_sl ([.ref (q 9), .int n9, .int p9])).length) Slot.unset).toArray = ls at hl ⊢
  have hl : lv_has ls 6 [(0, .ref (q 9)), (1, .int n9), (2, .int p9)] := hl
  refine wq (fun Q hQ => ?_)
  have hinX1 : ∀ w ∈ wsX10, w ∈ (wG yX5_write cX5_write 6 none) := fun w h => List.mem_cons_of_mem _ (inlX1 w h)
  have hinX5 : ∀ w ∈ wsX50, w ∈ (wG yX5_write cX5_write 6 none) := fun w h => List.mem_cons_of_mem _ (inlX5 w h)
  have kc0 : (0 : Int32).toInt = 0 := by decide
  have kc1 : (1 : Int32).toInt = 1 := by decide
  have kc2 : (32 : Int32).toInt = 32 := by decide
  have kc3 : (45 : Int32).toInt = 45 := by decide
  have kc4 : (59 : Int32).toInt = 59 := by decide
  have kc5 : (64 : Int32).toInt = 64 := by decide
  have kc6 : (91 : Int32).toInt = 91 := by decide
  have kc7 : (3000 : Int32).toInt = 3000 := by decide
  have k_33_3 := hts (.fieldLink RX5 19 "ArrayTrainer$Speller" "size" "I") (List.mem_cons_of_mem _ (wr33 _ (List.mem_of_getElem? (i := 3) rfl)))
  have k_3_20 := hts (.fieldLink RX5 15 "ArrayTrainer$Speller" "lexer" "LArrayTrainer$Lexer;") (List.mem_cons_of_mem _ (wr3 _ (List.mem_of_getElem? (i := 20) rfl)))
  have k_33_4 := hts (.fieldLink RX5 47 "ArrayTrainer$Lexer" "kind" "I") (List.mem_cons_of_mem _ (wr33 _ (List.mem_of_getElem? (i := 4) rfl)))
  obtain ⟨H, hH⟩ : ∃ H : Heap, H = s.heap := ⟨_, rfl⟩
  obtain ⟨locs, hlc⟩ : ∃ L : List Loc, L = [] := ⟨_, rfl⟩
  have hP : va_P D vwCl (tw cs q v_t_tapeSize v_t_textSize v_t_faultKind a_t_tape a_t_text a_g_beyond v_g_size a_g_steps a_h_beyond v_h_size a_h_steps a_r_scratch a_r_now v_r_takes v_r_negative v_r_namePlace v_r_faultKind v_r_faultPlace v_a_size v_a_limit v_a_digits v_a_kind v_a_from v_a_to v_o_size a_o_out v_b_size v_b_limit v_b_digits v_b_kind v_b_from v_b_to a_u_atom a_u_other a_u_hand v_u_marksMade v_u_came v_u_guesses v_u_right v_u_taken a_u_vars a_u_marks a_u_outcomes a_u_indexes v_s_things v_s_looked v_s_lookedTooOften v_s_arraysMade v_s_cellsMade a_s_classes a_s_starts a_s_lengths a_s_cells a_L a_K a_vc a_vd a_si a_sj a_iv a_inn a_ac) H := by rw [hH]; exact hP
  have hS : va_S A s.heap H locs := by rw [hH, hlc]; exact hS
  refine wHL hH hlc ?_
  have b_n9 := iB n9
  have b_p9 := iB p9
  obtain ⟨⟨h1, h2⟩, ⟨h3, h4⟩, ⟨h5, h6⟩, ⟨h7, h8⟩, h9, h10⟩ := id p_0
  refine lv_aload_n hx hb dX5_write_0 rfl (lv_at hl 0 rfl) ?_
  refine lv_iconst (v := 0) hx hb dX5_write_1 (by decide) ?_
  refine va_put (D := D) (ci := 4) (v := .int 0) (ty := .int) (C := RX5) (T := TX5) (N := 3) hx hb hts hinX5 tyX5 tyX5_ok nmX5 hown hK hP hD hS 9 rfl rfl 2 (by decide) k_33_3 (fun _ h9 => h9) rfl (by decide +kernel) rfl rfl (Nat.le_of_ble_eq_true rfl) dX5_write_2 (fun H locs hP hD hS => ?_)
  have hP : va_P D vwCl (tw cs q v_t_tapeSize v_t_textSize v_t_faultKind a_t_tape a_t_text a_g_beyond v_g_size a_g_steps a_h_beyond v_h_size a_h_steps a_r_scratch a_r_now v_r_takes v_r_negative v_r_namePlace v_r_faultKind v_r_faultPlace v_a_size v_a_limit v_a_digits v_a_kind v_a_from v_a_to (0 : Int32) a_o_out v_b_size v_b_limit v_b_digits v_b_kind v_b_from v_b_to a_u_atom a_u_other a_u_hand v_u_marksMade v_u_came v_u_guesses v_u_right v_u_taken a_u_vars a_u_marks a_u_outcomes a_u_indexes v_s_things v_s_looked v_s_lookedTooOften v_s_arraysMade v_s_cellsMade a_s_classes a_s_starts a_s_lengths a_s_cells a_L a_K a_vc a_vd a_si a_sj a_iv a_inn a_ac) H := hP
  have hD : va_D A (tw cs q v_t_tapeSize v_t_textSize v_t_faultKind a_t_tape a_t_text a_g_beyond v_g_size a_g_steps a_h_beyond v_h_size a_h_steps a_r_scratch a_r_now v_r_takes v_r_negative v_r_namePlace v_r_faultKind v_r_faultPlace v_a_size v_a_limit v_a_digits v_a_kind v_a_from v_a_to (0 : Int32) a_o_out v_b_size v_b_limit v_b_digits v_b_kind v_b_from v_b_to a_u_atom a_u_other a_u_hand v_u_marksMade v_u_came v_u_guesses v_u_right v_u_taken a_u_vars a_u_marks a_u_outcomes a_u_indexes v_s_things v_s_looked v_s_lookedTooOften v_s_arraysMade v_s_cellsMade a_s_classes a_s_starts a_s_lengths a_s_cells a_L a_K a_vc a_vd a_si a_sj a_iv a_inn a_ac) := hD
  refine lv_aload_n hx hb dX5_write_5 rfl (lv_at hl 0 rfl) ?_
  refine va_get (D := D) (ci := 4) (v := .ref (q 11)) (C := RX5) (T := TX5) (N := 3) hx hb hts hinX5 hown hK hP 9 rfl rfl 0 (by decide) k_3_20 (fun _ h9 => h9) rfl dX5_write_6 ?_
  refine lv_iload_n hx hb dX5_write_9 rfl (lv_at hl 1 rfl) ?_
  refine lv_sipush (v := 3000) hx hb dX5_write_10 (by decide) ?_
  refine lv_iload_n hx hb dX5_write_13 rfl (lv_at hl 2 rfl) ?_
  refine call_v (As := [.int n9, .int 3000, .int p9]) (rest := []) ⟨hx, hb, hml, hown, hts⟩ (tX1_open_qb (l := l) n9 (3000 : Int32) p9 (by first | assumption | omega | (intros; omega) | decide) (by first | assumption | omega | (intros; omega) | decide) (by first | assumption | omega | (intros; omega) | decide) (by first | assumption | omega | (intros; omega) | decide)) (cwV 3 hts (gV (wr33 _ (List.mem_of_getElem? (i := 5) rfl)) (wr9 _ (List.mem_of_getElem? (i := 4) rfl)) (wr9 _ (List.mem_of_getElem? (i := 5) rfl)) (wr2 _ (List.mem_of_getElem? (i := 2) rfl)) (wr9 _ (List.mem_of_getElem? (i := 6) rfl))) rfl rfl rfl (by decide +kernel) ⟨Nat.le_of_ble_eq_true rfl, Nat.le_of_ble_eq_true rfl⟩) (va_recv hK hP (ci := 0) (q0 := 11) rfl rfl) hK hP hD hE hS hA rfl hl.1 rfl (Nat.le_of_ble_eq_true rfl) dX5_write_14 ⟨Nat.le_of_ble_eq_true rfl, Nat.le_of_ble_eq_true rfl⟩ (fun w9 H locs hw14 hP hD hS => ?_)
  obtain ⟨v_b_size_14, v_b_limit_14, v_b_to_14, rfl, hw14_0⟩ := hw14
  have b_v_b_size_14 := iB v_b_size_14
  have b_v_b_limit_14 := iB v_b_limit_14
  have b_v_b_to_14 := iB v_b_to_14
  refine lv_iconst (v := 1) hx hb dX5_write_17 (by decide) ?_
  refine lv_istore_n (lv' := [(3, .int 1), (0, .ref (q 9)), (1, .int n9), (2, .int p9)]) hx hb dX5_write_18 rfl hl (by decide) rfl (fun ls hl => ?_)
  refine lv_iconst (v := 1) hx hb dX5_write_19 (by decide) ?_
  refine lv_istore (lv' := [(4, .int 1), (3, .int 1), (0, .ref (q 9)), (1, .int n9), (2, .int p9)]) hx hb dX5_write_20 hl (by decide) rfl (fun ls hl => ?_)
  refine lv_iconst (v := 0) hx hb dX5_write_22 (by decide) ?_
  refine lv_istore (lv' := [(5, .int 0), (4, .int 1), (3, .int 1), (0, .ref (q 9)), (1, .int n9), (2, .int p9)]) hx hb dX5_write_23 hl (by decide) rfl (fun ls hl => ?_)
  have J25 : ∀ (n25 : Nat) (l3_25 : Int32) (l4_25 : Int32) (l5_25 : Int32) (v_b_digits_25 : Int32) (v_b_from_25 : Int32) (v_b_kind_25 : Int32) (v_b_to_25 : Int32) (a_o_out_25 : Nat → Int32) (v_o_size_25 : Int32) (H : Heap) (locs : List Loc) (ls : Array Slot), (0 ≤ l5_25.toInt) → (l5_25.toInt ≤ 64) → (LI0 3000 v_b_size_14 v_b_limit_14 v_b_digits_25 v_b_to_25) → (l5_25.toInt = 0 ∨ LI 3000 v_b_size_14 v_b_limit_14 v_b_digits_25 v_b_kind_25 v_b_from_25 v_b_to_25) → (l5_25.toInt = 0 → l4_25.toInt = 1) → (0 ≤ v_o_size_25.toInt) → (v_o_size_25.toInt ≤ 256) → (64 - l5_25.toInt < (n25 : Int)) → va_P D vwCl (tw cs q v_t_tapeSize v_t_textSize v_t_faultKind a_t_tape a_t_text a_g_beyond v_g_size a_g_steps a_h_beyond v_h_size a_h_steps a_r_scratch a_r_now v_r_takes v_r_negative v_r_namePlace v_r_faultKind v_r_faultPlace v_a_size v_a_limit v_a_digits v_a_kind v_a_from v_a_to v_o_size_25 a_o_out_25 v_b_size_14 v_b_limit_14 v_b_digits_25 v_b_kind_25 v_b_from_25 v_b_to_25 a_u_atom a_u_other a_u_hand v_u_marksMade v_u_came v_u_guesses v_u_right v_u_taken a_u_vars a_u_marks a_u_outcomes a_u_indexes v_s_things v_s_looked v_s_lookedTooOften v_s_arraysMade v_s_cellsMade a_s_classes a_s_starts a_s_lengths a_s_cells a_L a_K a_vc a_vd a_si a_sj a_iv a_inn a_ac) H → va_D A (tw cs q v_t_tapeSize v_t_textSize v_t_faultKind a_t_tape a_t_text a_g_beyond v_g_size a_g_steps a_h_beyond v_h_size a_h_steps a_r_scratch a_r_now v_r_takes v_r_negative v_r_namePlace v_r_faultKind v_r_faultPlace v_a_size v_a_limit v_a_digits v_a_kind v_a_from v_a_to v_o_size_25 a_o_out_25 v_b_size_14 v_b_limit_14 v_b_digits_25 v_b_kind_25 v_b_from_25 v_b_to_25 a_u_atom a_u_other a_u_hand v_u_marksMade v_u_came v_u_guesses v_u_right v_u_taken a_u_vars a_u_marks a_u_outcomes a_u_indexes v_s_things v_s_looked v_s_lookedTooOften v_s_arraysMade v_s_cellsMade a_s_classes a_s_starts a_s_lengths a_s_cells a_L a_K a_vc a_vd a_si a_sj a_iv a_inn a_ac) → va_S A s.heap H locs → lv_has ls 6 [(0, .ref (q 9)), (3, .int l3_25), (4, .int l4_25), (5, .int l5_25)] → W p l e (headSpec (wG yX5_write cX5_write 6 none) rmX5_write).room s m ([.ref (q 9), .int n9, .int p9] : List Value).toArray below meth c H locs 0 0 Q (F0 m 25 ls []) := by
    intro n25
    induction n25 with
    | zero =>
      intro l3_25 l4_25 l5_25 v_b_digits_25 v_b_from_25 v_b_kind_25 v_b_to_25 a_o_out_25 v_o_size_25 H locs ls f25_0 f25_1 f25_2 f25_3 f25_4 f25_5 f25_6 hm25
      exfalso
      omega
    | succ n25 ih25 =>
      intro l3_25 l4_25 l5_25 v_b_digits_25 v_b_from_25 v_b_kind_25 v_b_to_25 a_o_out_25 v_o_size_25 H locs ls f25_0 f25_1 f25_2 f25_3 f25_4 f25_5 f25_6 hm25 hP hD hS hl
      refine lv_iload hx hb dX5_write_25 (lv_at hl 3 rfl) ?_
      refine lv_bipush (v := 64) hx hb dX5_write_27 (by decide) ?_
      refine m_icmp_ge (X := l5_25.toInt) (Y := 64) (tgt := 130) hx hb dX5_write_29 (by decide) rfl (by decide) (fun c29 => ?_) (fun c29 => ?_)
      · skip
        subst hAe
        rw [hQ]
        exact W.vret hx hb hr (fun t ht hW => ⟨⟨_, rfl, ⟨v_o_size_25, a_o_out_25, v_b_size_14, v_b_limit_14, v_b_digits_25, v_b_kind_25, v_b_from_25, v_b_to_25, rfl, by first | assumption | exact f25_3.resolve_left (fun q => by omega), by first | assumption | omega | (intros; omega) | decide, by first | assumption | omega | (intros; omega) | decide⟩, by rw [ht]; exact hP, va_K.moved hW.alike hK, hD⟩, hS.F ht⟩) hS.2.2 dX5_write_130
      · skip
        refine lv_iload hx hb dX5_write_32 (lv_at hl 2 rfl) ?_
        refine m_if_eq (X := l4_25.toInt) (tgt := 130) hx hb dX5_write_34 (by decide) rfl (fun c34 => ?_) (fun c34 => ?_)
        · skip
          subst hAe
          rw [hQ]
          exact W.vret hx hb hr (fun t ht hW => ⟨⟨_, rfl, ⟨v_o_size_25, a_o_out_25, v_b_size_14, v_b_limit_14, v_b_digits_25, v_b_kind_25, v_b_from_25, v_b_to_25, rfl, by first | assumption | exact f25_3.resolve_left (fun q => by omega), by first | assumption | omega | (intros; omega) | decide, by first | assumption | omega | (intros; omega) | decide⟩, by rw [ht]; exact hP, va_K.moved hW.alike hK, hD⟩, hS.F ht⟩) hS.2.2 dX5_write_130
        · skip
          refine lv_aload_n hx hb dX5_write_37 rfl (lv_at hl 0 rfl) ?_
          refine va_get (D := D) (ci := 4) (v := .ref (q 11)) (C := RX5) (T := TX5) (N := 3) hx hb hts hinX5 hown hK hP 9 rfl rfl 0 (by decide) k_3_20 (fun _ h9 => h9) rfl dX5_write_38 ?_
          refine call_v (As := []) (rest := []) ⟨hx, hb, hml, hown, hts⟩ (tX1_next_qb (l := l)  (by first | assumption | exact LI.z (by assumption))) (cwV 0 hts (gV (wr33 _ (List.mem_of_getElem? (i := 6) rfl)) (wr9 _ (List.mem_of_getElem? (i := 18) rfl)) (wr9 _ (List.mem_of_getElem? (i := 19) rfl)) (wr2 _ (List.mem_of_getElem? (i := 2) rfl)) (wr9 _ (List.mem_of_getElem? (i := 20) rfl))) rfl rfl rfl (by decide +kernel) ⟨Nat.le_of_ble_eq_true rfl, Nat.le_of_ble_eq_true rfl⟩) (va_recv hK hP (ci := 0) (q0 := 11) rfl rfl) hK hP hD hE hS hA rfl hl.1 rfl (Nat.le_of_ble_eq_true rfl) dX5_write_41 ⟨Nat.le_of_ble_eq_true rfl, Nat.le_of_ble_eq_true rfl⟩ (fun w9 H locs hw41 hP hD hS => ?_)
          obtain ⟨v_b_digits_41, v_b_kind_41, v_b_from_41, v_b_to_41, rfl, hw41_0⟩ := hw41
          have b_v_b_digits_41 := iB v_b_digits_41
          have b_v_b_kind_41 := iB v_b_kind_41
          have b_v_b_from_41 := iB v_b_from_41
          have b_v_b_to_41 := iB v_b_to_41
          refine lv_iload_n hx hb dX5_write_44 rfl (lv_at hl 1 rfl) ?_
          have J61 : ∀ (a_o_out_61 : Nat → Int32) (v_o_size_61 : Int32) (H : Heap) (locs : List Loc) (ls : Array Slot), (0 ≤ v_o_size_61.toInt) → (v_o_size_61.toInt ≤ 256) → va_P D vwCl (tw cs q v_t_tapeSize v_t_textSize v_t_faultKind a_t_tape a_t_text a_g_beyond v_g_size a_g_steps a_h_beyond v_h_size a_h_steps a_r_scratch a_r_now v_r_takes v_r_negative v_r_namePlace v_r_faultKind v_r_faultPlace v_a_size v_a_limit v_a_digits v_a_kind v_a_from v_a_to v_o_size_61 a_o_out_61 v_b_size_14 v_b_limit_14 v_b_digits_41 v_b_kind_41 v_b_from_41 v_b_to_41 a_u_atom a_u_other a_u_hand v_u_marksMade v_u_came v_u_guesses v_u_right v_u_taken a_u_vars a_u_marks a_u_outcomes a_u_indexes v_s_things v_s_looked v_s_lookedTooOften v_s_arraysMade v_s_cellsMade a_s_classes a_s_starts a_s_lengths a_s_cells a_L a_K a_vc a_vd a_si a_sj a_iv a_inn a_ac) H → va_D A (tw cs q v_t_tapeSize v_t_textSize v_t_faultKind a_t_tape a_t_text a_g_beyond v_g_size a_g_steps a_h_beyond v_h_size a_h_steps a_r_scratch a_r_now v_r_takes v_r_negative v_r_namePlace v_r_faultKind v_r_faultPlace v_a_size v_a_limit v_a_digits v_a_kind v_a_from v_a_to v_o_size_61 a_o_out_61 v_b_size_14 v_b_limit_14 v_b_digits_41 v_b_kind_41 v_b_from_41 v_b_to_41 a_u_atom a_u_other a_u_hand v_u_marksMade v_u_came v_u_guesses v_u_right v_u_taken a_u_vars a_u_marks a_u_outcomes a_u_indexes v_s_things v_s_looked v_s_lookedTooOften v_s_arraysMade v_s_cellsMade a_s_classes a_s_starts a_s_lengths a_s_cells a_L a_K a_vc a_vd a_si a_sj a_iv a_inn a_ac) → va_S A s.heap H locs → lv_has ls 6 [(0, .ref (q 9)), (5, .int l5_25)] → W p l e (headSpec (wG yX5_write cX5_write 6 none) rmX5_write).room s m ([.ref (q 9), .int n9, .int p9] : List Value).toArray below meth c H locs 0 0 Q (F0 m 61 ls []) := by
            intro a_o_out_61 v_o_size_61 H locs ls f61_0 f61_1 hP hD hS hl
            refine lv_aload_n hx hb dX5_write_61 rfl (lv_at hl 0 rfl) ?_
            refine call_v (As := []) (rest := []) ⟨hx, hb, hml, hown, hts⟩ (tX5_putToken (l := l)  (by first | assumption | omega | (intros; omega) | decide) (by first | assumption | omega | (intros; omega) | decide) (by first | assumption | omega | (intros; omega) | decide)) (cwV 0 hts (gV (wr33 _ (List.mem_of_getElem? (i := 16) rfl)) (wr33 _ (List.mem_of_getElem? (i := 17) rfl)) (wr33 _ (List.mem_of_getElem? (i := 18) rfl)) (wr2 _ (List.mem_of_getElem? (i := 6) rfl)) (wr33 _ (List.mem_of_getElem? (i := 19) rfl))) rfl rfl rfl (by decide +kernel) ⟨Nat.le_of_ble_eq_true rfl, Nat.le_of_ble_eq_true rfl⟩) (va_recv hK hP (ci := 4) (q0 := 9) rfl rfl) hK hP hD hE hS hA rfl hl.1 rfl (Nat.le_of_ble_eq_true rfl) dX5_write_62 ⟨Nat.le_of_ble_eq_true rfl, Nat.le_of_ble_eq_true rfl⟩ (fun w9 H locs hw62 hP hD hS => ?_)
            obtain ⟨v_o_size_62, a_o_out_62, rfl, hw62_0, hw62_1⟩ := hw62
            have b_v_o_size_62 := iB v_o_size_62
            refine lv_aload_n hx hb dX5_write_65 rfl (lv_at hl 0 rfl) ?_
            refine va_get (D := D) (ci := 4) (v := .ref (q 11)) (C := RX5) (T := TX5) (N := 3) hx hb hts hinX5 hown hK hP 9 rfl rfl 0 (by decide) k_3_20 (fun _ h9 => h9) rfl dX5_write_66 ?_
            refine lv_bipush (v := 91) hx hb dX5_write_69 (by decide) ?_
            refine call_i (As := [.int 91]) (rest := []) ⟨hx, hb, hml, hown, hts⟩ (tX1_isSign_qb (l := l) (91 : Int32) (by first | assumption | omega | (intros; omega) | decide)) (cwV 1 hts (gV (wr33 _ (List.mem_of_getElem? (i := 11) rfl)) (wr17 _ (List.mem_of_getElem? (i := 19) rfl)) (wr17 _ (List.mem_of_getElem? (i := 20) rfl)) (wr2 _ (List.mem_of_getElem? (i := 2) rfl)) (wr17 _ (List.mem_of_getElem? (i := 21) rfl))) rfl rfl rfl (by decide +kernel) ⟨Nat.le_of_ble_eq_true rfl, Nat.le_of_ble_eq_true rfl⟩) (va_recv hK hP (ci := 0) (q0 := 11) rfl rfl) hK hP hD hE hS hA rfl hl.1 rfl (Nat.le_of_ble_eq_true rfl) dX5_write_71 ⟨Nat.le_of_ble_eq_true rfl, Nat.le_of_ble_eq_true rfl⟩ (fun r71 w9 H locs hw71 hP hD hS => ?_)
            obtain ⟨rfl, hw71_0⟩ := hw71
            have b_r71 := iB r71
            have J94 : ∀ (s0_94 : Int32) (H : Heap) (locs : List Loc) (ls : Array Slot), (s0_94.toInt = 0 ∨ s0_94.toInt = 1) → va_P D vwCl (tw cs q v_t_tapeSize v_t_textSize v_t_faultKind a_t_tape a_t_text a_g_beyond v_g_size a_g_steps a_h_beyond v_h_size a_h_steps a_r_scratch a_r_now v_r_takes v_r_negative v_r_namePlace v_r_faultKind v_r_faultPlace v_a_size v_a_limit v_a_digits v_a_kind v_a_from v_a_to v_o_size_62 a_o_out_62 v_b_size_14 v_b_limit_14 v_b_digits_41 v_b_kind_41 v_b_from_41 v_b_to_41 a_u_atom a_u_other a_u_hand v_u_marksMade v_u_came v_u_guesses v_u_right v_u_taken a_u_vars a_u_marks a_u_outcomes a_u_indexes v_s_things v_s_looked v_s_lookedTooOften v_s_arraysMade v_s_cellsMade a_s_classes a_s_starts a_s_lengths a_s_cells a_L a_K a_vc a_vd a_si a_sj a_iv a_inn a_ac) H → va_D A (tw cs q v_t_tapeSize v_t_textSize v_t_faultKind a_t_tape a_t_text a_g_beyond v_g_size a_g_steps a_h_beyond v_h_size a_h_steps a_r_scratch a_r_now v_r_takes v_r_negative v_r_namePlace v_r_faultKind v_r_faultPlace v_a_size v_a_limit v_a_digits v_a_kind v_a_from v_a_to v_o_size_62 a_o_out_62 v_b_size_14 v_b_limit_14 v_b_digits_41 v_b_kind_41 v_b_from_41 v_b_to_41 a_u_atom a_u_other a_u_hand v_u_marksMade v_u_came v_u_guesses v_u_right v_u_taken a_u_vars a_u_marks a_u_outcomes a_u_indexes v_s_things v_s_looked v_s_lookedTooOften v_s_arraysMade v_s_cellsMade a_s_classes a_s_starts a_s_lengths a_s_cells a_L a_K a_vc a_vd a_si a_sj a_iv a_inn a_ac) → va_S A s.heap H locs → lv_has ls 6 [(0, .ref (q 9)), (5, .int l5_25)] → W p l e (headSpec (wG yX5_write cX5_write 6 none) rmX5_write).room s m ([.ref (q 9), .int n9, .int p9] : List Value).toArray below meth c H locs 0 0 Q (F0 m 94 ls [.int s0_94]) := by
              intro s0_94 H locs ls f94_0 hP hD hS hl
              refine lv_istore_n (lv' := [(3, .int s0_94), (0, .ref (q 9)), (5, .int l5_25)]) hx hb dX5_write_94 rfl hl (by decide) rfl (fun ls hl => ?_)
              refine lv_aload_n hx hb dX5_write_95 rfl (lv_at hl 1 rfl) ?_
              refine va_get (D := D) (ci := 4) (v := .ref (q 11)) (C := RX5) (T := TX5) (N := 3) hx hb hts hinX5 hown hK hP 9 rfl rfl 0 (by decide) k_3_20 (fun _ h9 => h9) rfl dX5_write_96 ?_
              refine lv_bipush (v := 59) hx hb dX5_write_99 (by decide) ?_
              refine call_i (As := [.int 59]) (rest := []) ⟨hx, hb, hml, hown, hts⟩ (tX1_isSign_qb (l := l) (59 : Int32) (by first | assumption | omega | (intros; omega) | decide)) (cwV 1 hts (gV (wr33 _ (List.mem_of_getElem? (i := 11) rfl)) (wr17 _ (List.mem_of_getElem? (i := 19) rfl)) (wr17 _ (List.mem_of_getElem? (i := 20) rfl)) (wr2 _ (List.mem_of_getElem? (i := 2) rfl)) (wr17 _ (List.mem_of_getElem? (i := 21) rfl))) rfl rfl rfl (by decide +kernel) ⟨Nat.le_of_ble_eq_true rfl, Nat.le_of_ble_eq_true rfl⟩) (va_recv hK hP (ci := 0) (q0 := 11) rfl rfl) hK hP hD hE hS hA rfl hl.1 rfl (Nat.le_of_ble_eq_true rfl) dX5_write_101 ⟨Nat.le_of_ble_eq_true rfl, Nat.le_of_ble_eq_true rfl⟩ (fun r101 w9 H locs hw101 hP hD hS => ?_)
              obtain ⟨rfl, hw101_0⟩ := hw101
              have b_r101 := iB r101
              have J122 : ∀ (s0_122 : Int32) (H : Heap) (locs : List Loc) (ls : Array Slot), (s0_122.toInt = 0 ∨ s0_122.toInt = 1) → va_P D vwCl (tw cs q v_t_tapeSize v_t_textSize v_t_faultKind a_t_tape a_t_text a_g_beyond v_g_size a_g_steps a_h_beyond v_h_size a_h_steps a_r_scratch a_r_now v_r_takes v_r_negative v_r_namePlace v_r_faultKind v_r_faultPlace v_a_size v_a_limit v_a_digits v_a_kind v_a_from v_a_to v_o_size_62 a_o_out_62 v_b_size_14 v_b_limit_14 v_b_digits_41 v_b_kind_41 v_b_from_41 v_b_to_41 a_u_atom a_u_other a_u_hand v_u_marksMade v_u_came v_u_guesses v_u_right v_u_taken a_u_vars a_u_marks a_u_outcomes a_u_indexes v_s_things v_s_looked v_s_lookedTooOften v_s_arraysMade v_s_cellsMade a_s_classes a_s_starts a_s_lengths a_s_cells a_L a_K a_vc a_vd a_si a_sj a_iv a_inn a_ac) H → va_D A (tw cs q v_t_tapeSize v_t_textSize v_t_faultKind a_t_tape a_t_text a_g_beyond v_g_size a_g_steps a_h_beyond v_h_size a_h_steps a_r_scratch a_r_now v_r_takes v_r_negative v_r_namePlace v_r_faultKind v_r_faultPlace v_a_size v_a_limit v_a_digits v_a_kind v_a_from v_a_to v_o_size_62 a_o_out_62 v_b_size_14 v_b_limit_14 v_b_digits_41 v_b_kind_41 v_b_from_41 v_b_to_41 a_u_atom a_u_other a_u_hand v_u_marksMade v_u_came v_u_guesses v_u_right v_u_taken a_u_vars a_u_marks a_u_outcomes a_u_indexes v_s_things v_s_looked v_s_lookedTooOften v_s_arraysMade v_s_cellsMade a_s_classes a_s_starts a_s_lengths a_s_cells a_L a_K a_vc a_vd a_si a_sj a_iv a_inn a_ac) → va_S A s.heap H locs → lv_has ls 6 [(0, .ref (q 9)), (3, .int s0_94), (5, .int l5_25)] → W p l e (headSpec (wG yX5_write cX5_write 6 none) rmX5_write).room s m ([.ref (q 9), .int n9, .int p9] : List Value).toArray below meth c H locs 0 0 Q (F0 m 122 ls [.int s0_122]) := by
                intro s0_122 H locs ls f122_0 hP hD hS hl
                refine lv_istore (lv' := [(4, .int s0_122), (0, .ref (q 9)), (3, .int s0_94), (5, .int l5_25)]) hx hb dX5_write_122 hl (by decide) rfl (fun ls hl => ?_)
                obtain ⟨x124, e_x124⟩ : ∃ z : Int32, z = l5_25 + (1 : Int32) := ⟨_, rfl⟩
                obtain ⟨k_x124, g_x124⟩ : ∃ k : Int, x124.toInt = l5_25.toInt + (1) + k * 4294967296 := by rw [e_x124]; exact iAdd l5_25 (1)
                have b_x124 := iB x124
                try (have q_x124 : x124.toInt = l5_25.toInt + (1) := (by omega); clear g_x124 k_x124)
                refine lv_iinc (v := x124) (lv' := [(5, .int x124), (4, .int s0_122), (0, .ref (q 9)), (3, .int s0_94)]) hx hb dX5_write_124 hl (k := 3) rfl (by rw [e_x124]; rfl) (by decide) rfl (fun ls hl => ?_)
                refine lv_goto (tgt := 25) hx hb dX5_write_127 (by decide) ?_
                exact ih25 s0_94 s0_122 x124 v_b_digits_41 v_b_from_41 v_b_kind_41 v_b_to_41 a_o_out_62 v_o_size_62 H locs ls (by first | assumption | omega | (intros; omega) | decide) (by first | assumption | omega | (intros; omega) | decide) (by first | assumption | exact LI.z (by assumption)) (by first | exact Or.inl (by decide) | exact Or.inr (by assumption)) (by first | assumption | omega | (intros; omega) | decide) (by first | assumption | omega | (intros; omega) | decide) (by first | assumption | omega | (intros; omega) | decide) (by omega) hP hD hS (lv_sub hl [2, 3, 1, 0] rfl)
              have J121 : ∀ (H : Heap) (locs : List Loc) (ls : Array Slot), va_P D vwCl (tw cs q v_t_tapeSize v_t_textSize v_t_faultKind a_t_tape a_t_text a_g_beyond v_g_size a_g_steps a_h_beyond v_h_size a_h_steps a_r_scratch a_r_now v_r_takes v_r_negative v_r_namePlace v_r_faultKind v_r_faultPlace v_a_size v_a_limit v_a_digits v_a_kind v_a_from v_a_to v_o_size_62 a_o_out_62 v_b_size_14 v_b_limit_14 v_b_digits_41 v_b_kind_41 v_b_from_41 v_b_to_41 a_u_atom a_u_other a_u_hand v_u_marksMade v_u_came v_u_guesses v_u_right v_u_taken a_u_vars a_u_marks a_u_outcomes a_u_indexes v_s_things v_s_looked v_s_lookedTooOften v_s_arraysMade v_s_cellsMade a_s_classes a_s_starts a_s_lengths a_s_cells a_L a_K a_vc a_vd a_si a_sj a_iv a_inn a_ac) H → va_D A (tw cs q v_t_tapeSize v_t_textSize v_t_faultKind a_t_tape a_t_text a_g_beyond v_g_size a_g_steps a_h_beyond v_h_size a_h_steps a_r_scratch a_r_now v_r_takes v_r_negative v_r_namePlace v_r_faultKind v_r_faultPlace v_a_size v_a_limit v_a_digits v_a_kind v_a_from v_a_to v_o_size_62 a_o_out_62 v_b_size_14 v_b_limit_14 v_b_digits_41 v_b_kind_41 v_b_from_41 v_b_to_41 a_u_atom a_u_other a_u_hand v_u_marksMade v_u_came v_u_guesses v_u_right v_u_taken a_u_vars a_u_marks a_u_outcomes a_u_indexes v_s_things v_s_looked v_s_lookedTooOften v_s_arraysMade v_s_cellsMade a_s_classes a_s_starts a_s_lengths a_s_cells a_L a_K a_vc a_vd a_si a_sj a_iv a_inn a_ac) → va_S A s.heap H locs → lv_has ls 6 [(0, .ref (q 9)), (3, .int s0_94), (5, .int l5_25)] → W p l e (headSpec (wG yX5_write cX5_write 6 none) rmX5_write).room s m ([.ref (q 9), .int n9, .int p9] : List Value).toArray below meth c H locs 0 0 Q (F0 m 121 ls []) := by
                intro H locs ls hP hD hS hl
                refine lv_iconst (v := 0) hx hb dX5_write_121 (by decide) ?_
                exact J122 (0 : Int32) H locs ls (by first | decide | omega) hP hD hS (lv_sub hl [0, 1, 2] rfl)
              refine m_if_ne (X := r101.toInt) (tgt := 121) hx hb dX5_write_104 (by decide) rfl (fun c104 => ?_) (fun c104 => ?_)
              · skip
                exact J121 H locs ls hP hD hS (lv_sub hl [1, 0, 2] rfl)
              · skip
                refine lv_aload_n hx hb dX5_write_107 rfl (lv_at hl 1 rfl) ?_
                refine va_get (D := D) (ci := 4) (v := .ref (q 11)) (C := RX5) (T := TX5) (N := 3) hx hb hts hinX5 hown hK hP 9 rfl rfl 0 (by decide) k_3_20 (fun _ h9 => h9) rfl dX5_write_108 ?_
                refine va_get (D := D) (ci := 0) (v := .int v_b_kind_41) (C := RX1) (T := TX1) (N := 7) hx hb hts hinX1 hown hK hP 11 rfl rfl 4 (by decide) k_33_4 (fun _ h9 => h9) rfl dX5_write_111 ?_
                refine m_if_eq (X := v_b_kind_41.toInt) (tgt := 121) hx hb dX5_write_114 (by decide) rfl (fun c114 => ?_) (fun c114 => ?_)
                · skip
                  exact J121 H locs ls hP hD hS (lv_sub hl [1, 0, 2] rfl)
                · skip
                  refine lv_iconst (v := 1) hx hb dX5_write_117 (by decide) ?_
                  refine lv_goto (tgt := 122) hx hb dX5_write_118 (by decide) ?_
                  exact J122 (1 : Int32) H locs ls (by first | decide | omega) hP hD hS (lv_sub hl [1, 0, 2] rfl)
            have J89 : ∀ (H : Heap) (locs : List Loc) (ls : Array Slot), va_P D vwCl (tw cs q v_t_tapeSize v_t_textSize v_t_faultKind a_t_tape a_t_text a_g_beyond v_g_size a_g_steps a_h_beyond v_h_size a_h_steps a_r_scratch a_r_now v_r_takes v_r_negative v_r_namePlace v_r_faultKind v_r_faultPlace v_a_size v_a_limit v_a_digits v_a_kind v_a_from v_a_to v_o_size_62 a_o_out_62 v_b_size_14 v_b_limit_14 v_b_digits_41 v_b_kind_41 v_b_from_41 v_b_to_41 a_u_atom a_u_other a_u_hand v_u_marksMade v_u_came v_u_guesses v_u_right v_u_taken a_u_vars a_u_marks a_u_outcomes a_u_indexes v_s_things v_s_looked v_s_lookedTooOften v_s_arraysMade v_s_cellsMade a_s_classes a_s_starts a_s_lengths a_s_cells a_L a_K a_vc a_vd a_si a_sj a_iv a_inn a_ac) H → va_D A (tw cs q v_t_tapeSize v_t_textSize v_t_faultKind a_t_tape a_t_text a_g_beyond v_g_size a_g_steps a_h_beyond v_h_size a_h_steps a_r_scratch a_r_now v_r_takes v_r_negative v_r_namePlace v_r_faultKind v_r_faultPlace v_a_size v_a_limit v_a_digits v_a_kind v_a_from v_a_to v_o_size_62 a_o_out_62 v_b_size_14 v_b_limit_14 v_b_digits_41 v_b_kind_41 v_b_from_41 v_b_to_41 a_u_atom a_u_other a_u_hand v_u_marksMade v_u_came v_u_guesses v_u_right v_u_taken a_u_vars a_u_marks a_u_outcomes a_u_indexes v_s_things v_s_looked v_s_lookedTooOften v_s_arraysMade v_s_cellsMade a_s_classes a_s_starts a_s_lengths a_s_cells a_L a_K a_vc a_vd a_si a_sj a_iv a_inn a_ac) → va_S A s.heap H locs → lv_has ls 6 [(0, .ref (q 9)), (5, .int l5_25)] → W p l e (headSpec (wG yX5_write cX5_write 6 none) rmX5_write).room s m ([.ref (q 9), .int n9, .int p9] : List Value).toArray below meth c H locs 0 0 Q (F0 m 89 ls []) := by
              intro H locs ls hP hD hS hl
              refine lv_iconst (v := 1) hx hb dX5_write_89 (by decide) ?_
              refine lv_goto (tgt := 94) hx hb dX5_write_90 (by decide) ?_
              exact J94 (1 : Int32) H locs ls (by first | decide | omega) hP hD hS (lv_sub hl [0, 1] rfl)
            refine m_if_ne (X := r71.toInt) (tgt := 89) hx hb dX5_write_74 (by decide) rfl (fun c74 => ?_) (fun c74 => ?_)
            · skip
              exact J89 H locs ls hP hD hS (lv_sub hl [0, 1] rfl)
            · skip
              refine lv_aload_n hx hb dX5_write_77 rfl (lv_at hl 0 rfl) ?_
              refine va_get (D := D) (ci := 4) (v := .ref (q 11)) (C := RX5) (T := TX5) (N := 3) hx hb hts hinX5 hown hK hP 9 rfl rfl 0 (by decide) k_3_20 (fun _ h9 => h9) rfl dX5_write_78 ?_
              refine lv_bipush (v := 45) hx hb dX5_write_81 (by decide) ?_
              refine call_i (As := [.int 45]) (rest := []) ⟨hx, hb, hml, hown, hts⟩ (tX1_isSign_qb (l := l) (45 : Int32) (by first | assumption | omega | (intros; omega) | decide)) (cwV 1 hts (gV (wr33 _ (List.mem_of_getElem? (i := 11) rfl)) (wr17 _ (List.mem_of_getElem? (i := 19) rfl)) (wr17 _ (List.mem_of_getElem? (i := 20) rfl)) (wr2 _ (List.mem_of_getElem? (i := 2) rfl)) (wr17 _ (List.mem_of_getElem? (i := 21) rfl))) rfl rfl rfl (by decide +kernel) ⟨Nat.le_of_ble_eq_true rfl, Nat.le_of_ble_eq_true rfl⟩) (va_recv hK hP (ci := 0) (q0 := 11) rfl rfl) hK hP hD hE hS hA rfl hl.1 rfl (Nat.le_of_ble_eq_true rfl) dX5_write_83 ⟨Nat.le_of_ble_eq_true rfl, Nat.le_of_ble_eq_true rfl⟩ (fun r83 w9 H locs hw83 hP hD hS => ?_)
              obtain ⟨rfl, hw83_0⟩ := hw83
              have b_r83 := iB r83
              refine m_if_eq (X := r83.toInt) (tgt := 93) hx hb dX5_write_86 (by decide) rfl (fun c86 => ?_) (fun c86 => ?_)
              · skip
                refine lv_iconst (v := 0) hx hb dX5_write_93 (by decide) ?_
                exact J94 (0 : Int32) H locs ls (by first | decide | omega) hP hD hS (lv_sub hl [0, 1] rfl)
              · skip
                exact J89 H locs ls hP hD hS (lv_sub hl [0, 1] rfl)
          refine m_if_ne (X := l3_25.toInt) (tgt := 61) hx hb dX5_write_45 (by decide) rfl (fun c45 => ?_) (fun c45 => ?_)
          · skip
            exact J61 a_o_out_25 v_o_size_25 H locs ls (by first | assumption | omega | (intros; omega) | decide) (by first | assumption | omega | (intros; omega) | decide) hP hD hS (lv_sub hl [0, 3] rfl)
          · skip
            refine lv_aload_n hx hb dX5_write_48 rfl (lv_at hl 0 rfl) ?_
            refine call_i (As := []) (rest := []) ⟨hx, hb, hml, hown, hts⟩ (tX5_staysClose (l := l)  (by first | assumption | omega | (intros; omega) | decide)) (cwV 0 hts (gV (wr33 _ (List.mem_of_getElem? (i := 7) rfl)) (wr33 _ (List.mem_of_getElem? (i := 8) rfl)) (wr33 _ (List.mem_of_getElem? (i := 9) rfl)) (wr2 _ (List.mem_of_getElem? (i := 6) rfl)) (wr33 _ (List.mem_of_getElem? (i := 10) rfl))) rfl rfl rfl (by decide +kernel) ⟨Nat.le_of_ble_eq_true rfl, Nat.le_of_ble_eq_true rfl⟩) (va_recv hK hP (ci := 4) (q0 := 9) rfl rfl) hK hP hD hE hS hA rfl hl.1 rfl (Nat.le_of_ble_eq_true rfl) dX5_write_49 ⟨Nat.le_of_ble_eq_true rfl, Nat.le_of_ble_eq_true rfl⟩ (fun r49 w9 H locs hw49 hP hD hS => ?_)
            obtain ⟨rfl, hw49_0⟩ := hw49
            have b_r49 := iB r49
            refine m_if_ne (X := r49.toInt) (tgt := 61) hx hb dX5_write_52 (by decide) rfl (fun c52 => ?_) (fun c52 => ?_)
            · skip
              exact J61 a_o_out_25 v_o_size_25 H locs ls (by first | assumption | omega | (intros; omega) | decide) (by first | assumption | omega | (intros; omega) | decide) hP hD hS (lv_sub hl [0, 3] rfl)
            · skip
              refine lv_aload_n hx hb dX5_write_55 rfl (lv_at hl 0 rfl) ?_
              refine lv_bipush (v := 32) hx hb dX5_write_56 (by decide) ?_
              refine call_v (As := [.int 32]) (rest := []) ⟨hx, hb, hml, hown, hts⟩ (tX5_put (l := l) (32 : Int32) (by first | assumption | omega | (intros; omega) | decide) (by first | assumption | omega | (intros; omega) | decide)) (cwV 1 hts (gV (wr33 _ (List.mem_of_getElem? (i := 12) rfl)) (wr33 _ (List.mem_of_getElem? (i := 13) rfl)) (wr33 _ (List.mem_of_getElem? (i := 14) rfl)) (wr2 _ (List.mem_of_getElem? (i := 6) rfl)) (wr33 _ (List.mem_of_getElem? (i := 15) rfl))) rfl rfl rfl (by decide +kernel) ⟨Nat.le_of_ble_eq_true rfl, Nat.le_of_ble_eq_true rfl⟩) (va_recv hK hP (ci := 4) (q0 := 9) rfl rfl) hK hP hD hE hS hA rfl hl.1 rfl (Nat.le_of_ble_eq_true rfl) dX5_write_58 ⟨Nat.le_of_ble_eq_true rfl, Nat.le_of_ble_eq_true rfl⟩ (fun w9 H locs hw58 hP hD hS => ?_)
              obtain ⟨v_o_size_58, a_o_out_58, rfl, hw58_0, hw58_1⟩ := hw58
              have b_v_o_size_58 := iB v_o_size_58
              exact J61 a_o_out_58 v_o_size_58 H locs ls (by first | assumption | omega | (intros; omega) | decide) (by first | assumption | omega | (intros; omega) | decide) hP hD hS (lv_sub hl [0, 3] rfl)
  exact J25 ((64 - (0 : Int32).toInt).toNat + 1) (1 : Int32) (1 : Int32) (0 : Int32) v_b_digits v_b_from v_b_kind v_b_to_14 a_o_out (0 : Int32) H locs ls (by first | assumption | omega | (intros; omega) | decide) (by first | assumption | omega | (intros; omega) | decide) (by first | assumption | exact LI.z (by assumption)) (by first | exact Or.inl (by decide) | exact Or.inr (by assumption)) (by first | assumption | omega | (intros; omega) | decide) (by first | assumption | omega | (intros; omega) | decide) (by first | assumption | omega | (intros; omega) | decide) (by omega) hP hD hS (lv_sub hl [3, 2, 1, 0] rfl)

def rmX2_leads : Room := { frames := 20, cells := 0, slots := 0, locals := 400 }
set_option maxHeartbeats 4000000 in
set_option maxRecDepth 100000 in
theorem tX2_leads {l : Launch} {D : va_G} {K : Nat → Nat → Nat} (a9 : Int32) : CtI l yX2_leads (wG yX2_leads cX2_leads 1 (some .boolean)) rmX2_leads D [] K [.int a9] [] (fun r w1 => w1 = [] ∧ (r.toInt = 0 ∨ r.toInt = 1)) 0 0 := by
  intro sz
  refine Met.ofW (cc := cX2_leads) (maxL := 1) (ret := (some .boolean)) (by decide) rfl ?_
  intro p e s m args below meth c s₁ B hml hv
  obtain ⟨rfl, hsz, hP, hK, hD0, hE⟩ := hv
  have hx := B.exec
  have hb := B.bytes
  have hr := B.returns
  have hts := atoms_spec (ws := (wG yX2_leads cX2_leads 1 (some .boolean))) B.pre
  have hown : s.vm.findClass RX2 = some m.cls := findClass_of_methodNamed B.named
  have hlocks := B.notSynchronized
  subst hsz
  have hD := hD0.self (sz := s.heap.size)
  obtain ⟨A, hAe⟩ : ∃ A : Nat → Prop, A = va_A [] s.heap.size := ⟨_, rfl⟩
  rw [← hAe] at hD hE
  have hA : ∀ q : Nat, s.heap.size ≤ q → A q := fun q h => by rw [hAe]; exact Or.inr h
  have hS : va_S A s.heap s.heap [] := va_S.rf
  have hl := lv_entry ([.int a9]) (n := 1) (Nat.le_of_ble_eq_true rfl)
  rw [lg_entry_eq]
  generalize (lg_sl ([.int a9]) ++ List.replicate (1 - (lg_sl ([.int a9])).length) Slot.unset).toArray = ls at hl ⊢
  have hl : lv_has ls 1 [(0, .int a9)] := hl
  refine wq (fun Q hQ => ?_)
  have kc0 : (0 : Int32).toInt = 0 := by decide
  have kc1 : (1 : Int32).toInt = 1 := by decide
  have kc2 : (5 : Int32).toInt = 5 := by decide
  have kc3 : (7 : Int32).toInt = 7 := by decide
  have kc4 : (17 : Int32).toInt = 17 := by decide
  obtain ⟨H, hH⟩ : ∃ H : Heap, H = s.heap := ⟨_, rfl⟩
  obtain ⟨locs, hlc⟩ : ∃ L : List Loc, L = [] := ⟨_, rfl⟩
  have hP : va_P D vwCl [] H := by rw [hH]; exact hP
  have hS : va_S A s.heap H locs := by rw [hH, hlc]; exact hS
  refine wHL hH hlc ?_
  have b_a9 := iB a9
  refine lv_iload_n hx hb dX2_leads_0 rfl (lv_at hl 0 rfl) ?_
  refine lv_iconst (v := 5) hx hb dX2_leads_1 (by decide) ?_
  refine m_icmp_eq (X := a9.toInt) (Y := 5) (tgt := 17) hx hb dX2_leads_2 (by decide) rfl (by decide) (fun c2 => ?_) (fun c2 => ?_)
  · skip
    refine lv_iconst (v := 1) hx hb dX2_leads_17 (by decide) ?_
    refine lv_goto (tgt := 22) hx hb dX2_leads_18 (by decide) ?_
    subst hAe
    rw [hQ]
    exact W.zret (v := 1) hx hb hr (by decide) (fun t ht hW => ⟨⟨1, _, rfl, ⟨rfl, by first | assumption | omega | (intros; omega) | decide⟩, by rw [ht]; exact hP, va_K.moved hW.alike hK, hD⟩, hS.F ht⟩) hS.2.2 dX2_leads_22
  · skip
    refine lv_iload_n hx hb dX2_leads_5 rfl (lv_at hl 0 rfl) ?_
    refine lv_bipush (v := 7) hx hb dX2_leads_6 (by decide) ?_
    refine m_icmp_eq (X := a9.toInt) (Y := 7) (tgt := 17) hx hb dX2_leads_8 (by decide) rfl (by decide) (fun c8 => ?_) (fun c8 => ?_)
    · skip
      refine lv_iconst (v := 1) hx hb dX2_leads_17 (by decide) ?_
      refine lv_goto (tgt := 22) hx hb dX2_leads_18 (by decide) ?_
      subst hAe
      rw [hQ]
      exact W.zret (v := 1) hx hb hr (by decide) (fun t ht hW => ⟨⟨1, _, rfl, ⟨rfl, by first | assumption | omega | (intros; omega) | decide⟩, by rw [ht]; exact hP, va_K.moved hW.alike hK, hD⟩, hS.F ht⟩) hS.2.2 dX2_leads_22
    · skip
      refine lv_iload_n hx hb dX2_leads_11 rfl (lv_at hl 0 rfl) ?_
      refine lv_bipush (v := 17) hx hb dX2_leads_12 (by decide) ?_
      refine m_icmp_lt (X := a9.toInt) (Y := 17) (tgt := 21) hx hb dX2_leads_14 (by decide) rfl (by decide) (fun c14 => ?_) (fun c14 => ?_)
      · skip
        refine lv_iconst (v := 0) hx hb dX2_leads_21 (by decide) ?_
        subst hAe
        rw [hQ]
        exact W.zret (v := 0) hx hb hr (by decide) (fun t ht hW => ⟨⟨0, _, rfl, ⟨rfl, by first | assumption | omega | (intros; omega) | decide⟩, by rw [ht]; exact hP, va_K.moved hW.alike hK, hD⟩, hS.F ht⟩) hS.2.2 dX2_leads_22
      · skip
        refine lv_iconst (v := 1) hx hb dX2_leads_17 (by decide) ?_
        refine lv_goto (tgt := 22) hx hb dX2_leads_18 (by decide) ?_
        subst hAe
        rw [hQ]
        exact W.zret (v := 1) hx hb hr (by decide) (fun t ht hW => ⟨⟨1, _, rfl, ⟨rfl, by first | assumption | omega | (intros; omega) | decide⟩, by rw [ht]; exact hP, va_K.moved hW.alike hK, hD⟩, hS.F ht⟩) hS.2.2 dX2_leads_22

def rmX2_comesBehindEquals : Room := { frames := 40, cells := 0, slots := 0, locals := 800 }
set_option maxHeartbeats 4000000 in
set_option maxRecDepth 100000 in
theorem tX2_comesBehindEquals {l : Launch} {D : va_G} {K : Nat → Nat → Nat} (a9 : Int32) : CtI l yX2_comesBehindEquals (wG yX2_comesBehindEquals cX2_comesBehindEquals 1 (some .boolean)) rmX2_comesBehindEquals D [] K [.int a9] [] (fun r w1 => w1 = [] ∧ (r.toInt = 0 ∨ r.toInt = 1)) 0 0 := by
  intro sz
  refine Met.ofW (cc := cX2_comesBehindEquals) (maxL := 1) (ret := (some .boolean)) (by decide) rfl ?_
  intro p e s m args below meth c s₁ B hml hv
  obtain ⟨rfl, hsz, hP, hK, hD0, hE⟩ := hv
  have hx := B.exec
  have hb := B.bytes
  have hr := B.returns
  have hts := atoms_spec (ws := (wG yX2_comesBehindEquals cX2_comesBehindEquals 1 (some .boolean))) B.pre
  have hown : s.vm.findClass RX2 = some m.cls := findClass_of_methodNamed B.named
  have hlocks := B.notSynchronized
  subst hsz
  have hD := hD0.self (sz := s.heap.size)
  obtain ⟨A, hAe⟩ : ∃ A : Nat → Prop, A = va_A [] s.heap.size := ⟨_, rfl⟩
  rw [← hAe] at hD hE
  have hA : ∀ q : Nat, s.heap.size ≤ q → A q := fun q h => by rw [hAe]; exact Or.inr h
  have hS : va_S A s.heap s.heap [] := va_S.rf
  have hl := lv_entry ([.int a9]) (n := 1) (Nat.le_of_ble_eq_true rfl)
  rw [lg_entry_eq]
  generalize (lg_sl ([.int a9]) ++ List.replicate (1 - (lg_sl ([.int a9])).length) Slot.unset).toArray = ls at hl ⊢
  have hl : lv_has ls 1 [(0, .int a9)] := hl
  refine wq (fun Q hQ => ?_)
  have kc0 : (0 : Int32).toInt = 0 := by decide
  have kc1 : (1 : Int32).toInt = 1 := by decide
  have kc2 : (4 : Int32).toInt = 4 := by decide
  obtain ⟨H, hH⟩ : ∃ H : Heap, H = s.heap := ⟨_, rfl⟩
  obtain ⟨locs, hlc⟩ : ∃ L : List Loc, L = [] := ⟨_, rfl⟩
  have hP : va_P D vwCl [] H := by rw [hH]; exact hP
  have hS : va_S A s.heap H locs := by rw [hH, hlc]; exact hS
  refine wHL hH hlc ?_
  have b_a9 := iB a9
  refine lv_iload_n hx hb dX2_comesBehindEquals_0 rfl (lv_at hl 0 rfl) ?_
  refine lv_iconst (v := 4) hx hb dX2_comesBehindEquals_1 (by decide) ?_
  refine m_icmp_lt (X := a9.toInt) (Y := 4) (tgt := 16) hx hb dX2_comesBehindEquals_2 (by decide) rfl (by decide) (fun c2 => ?_) (fun c2 => ?_)
  · skip
    refine lv_iconst (v := 0) hx hb dX2_comesBehindEquals_16 (by decide) ?_
    subst hAe
    rw [hQ]
    exact W.zret (v := 0) hx hb hr (by decide) (fun t ht hW => ⟨⟨0, _, rfl, ⟨rfl, by first | assumption | omega | (intros; omega) | decide⟩, by rw [ht]; exact hP, va_K.moved hW.alike hK, hD⟩, hS.F ht⟩) hS.2.2 dX2_comesBehindEquals_17
  · skip
    refine lv_iload_n hx hb dX2_comesBehindEquals_5 rfl (lv_at hl 0 rfl) ?_
    refine call_iSP (As := [.int a9]) (rest := []) ⟨hx, hb, hml, hown, hts⟩ (tX2_leads (l := l) a9) (va_cwS 1 hts (gS (wr15 _ (List.mem_of_getElem? (i := 17) rfl)) (wr15 _ (List.mem_of_getElem? (i := 18) rfl)) (wr1 _ (List.mem_of_getElem? (i := 23) rfl)) (wr15 _ (List.mem_of_getElem? (i := 19) rfl))) rfl rfl rfl (by decide +kernel) ⟨Nat.le_of_ble_eq_true rfl, Nat.le_of_ble_eq_true rfl⟩) (hK.sub [] rfl) hP hD hE hS hA rfl hl.1 rfl (Nat.le_of_ble_eq_true rfl) dX2_comesBehindEquals_6 ⟨Nat.le_of_ble_eq_true rfl, Nat.le_of_ble_eq_true rfl⟩ (fun r6 w9 H locs hw6 hP hD hS => ?_)
    obtain ⟨rfl, hw6_0⟩ := hw6
    have b_r6 := iB r6
    refine m_if_ne (X := r6.toInt) (tgt := 16) hx hb dX2_comesBehindEquals_9 (by decide) rfl (fun c9 => ?_) (fun c9 => ?_)
    · skip
      refine lv_iconst (v := 0) hx hb dX2_comesBehindEquals_16 (by decide) ?_
      subst hAe
      rw [hQ]
      exact W.zret (v := 0) hx hb hr (by decide) (fun t ht hW => ⟨⟨0, _, rfl, ⟨rfl, by first | assumption | omega | (intros; omega) | decide⟩, by rw [ht]; exact hP, va_K.moved hW.alike hK, hD⟩, hS.F ht⟩) hS.2.2 dX2_comesBehindEquals_17
    · skip
      refine lv_iconst (v := 1) hx hb dX2_comesBehindEquals_12 (by decide) ?_
      refine lv_goto (tgt := 17) hx hb dX2_comesBehindEquals_13 (by decide) ?_
      subst hAe
      rw [hQ]
      exact W.zret (v := 1) hx hb hr (by decide) (fun t ht hW => ⟨⟨1, _, rfl, ⟨rfl, by first | assumption | omega | (intros; omega) | decide⟩, by rw [ht]; exact hP, va_K.moved hW.alike hK, hD⟩, hS.F ht⟩) hS.2.2 dX2_comesBehindEquals_17

def rmX2_start : Room := { frames := 140, cells := 0, slots := 0, locals := 2800 }
set_option maxHeartbeats 4000000 in
set_option maxRecDepth 100000 in
theorem tX2_start {l : Launch} {D : va_G} {K : Nat → Nat → Nat} {cs : Nat → ClassId} {q : Nat → Nat} {v_t_tapeSize v_t_textSize v_t_faultKind v_g_size v_h_size v_r_takes v_r_negative v_r_namePlace v_r_faultKind v_r_faultPlace v_a_size v_a_limit v_a_digits v_a_kind v_a_from v_a_to v_o_size v_b_size v_b_limit v_b_digits v_b_kind v_b_from v_b_to v_u_marksMade v_u_came v_u_guesses v_u_right v_u_taken v_s_things v_s_looked v_s_lookedTooOften v_s_arraysMade v_s_cellsMade : Int32} {a_t_tape a_t_text a_o_out a_u_outcomes a_u_indexes a_s_classes a_s_starts a_s_lengths a_vc : Nat → Int32} {a_g_beyond a_h_beyond a_r_scratch a_r_now a_u_atom a_u_other a_u_hand : Nat} {a_g_steps a_h_steps a_u_vars a_u_marks : Nat → Option Nat} {a_s_cells a_vd a_sj : Nat → Int64} {a_L : List Nat} {a_K a_iv a_inn : Nat → Nat} {a_si a_ac : Nat → Nat → Int32} (n9 : Int32) (m9 : Int32) (p_0 : LI 3100 v_a_size v_a_limit v_a_digits v_a_kind v_a_from v_a_to) (p_1 : 0 ≤ m9.toInt) (p_2 : m9.toInt ≤ 3100) : CtV l yX2_start (wG yX2_start cX2_start 3 none) rmX2_start D (twT cs) K [.ref (q 7), .int n9, .int m9] (tw cs q v_t_tapeSize v_t_textSize v_t_faultKind a_t_tape a_t_text a_g_beyond v_g_size a_g_steps a_h_beyond v_h_size a_h_steps a_r_scratch a_r_now v_r_takes v_r_negative v_r_namePlace v_r_faultKind v_r_faultPlace v_a_size v_a_limit v_a_digits v_a_kind v_a_from v_a_to v_o_size a_o_out v_b_size v_b_limit v_b_digits v_b_kind v_b_from v_b_to a_u_atom a_u_other a_u_hand v_u_marksMade v_u_came v_u_guesses v_u_right v_u_taken a_u_vars a_u_marks a_u_outcomes a_u_indexes v_s_things v_s_looked v_s_lookedTooOften v_s_arraysMade v_s_cellsMade a_s_classes a_s_starts a_s_lengths a_s_cells a_L a_K a_vc a_vd a_si a_sj a_iv a_inn a_ac) (fun w1 => ∃ (v_r_takes' : Int32) (v_r_negative' : Int32) (v_r_faultKind' : Int32) (v_r_faultPlace' : Int32) (v_a_size' : Int32) (v_a_limit' : Int32) (v_a_digits' : Int32) (v_a_kind' : Int32) (v_a_from' : Int32) (v_a_to' : Int32), w1 = (tw cs q v_t_tapeSize v_t_textSize v_t_faultKind a_t_tape a_t_text a_g_beyond v_g_size a_g_steps a_h_beyond v_h_size a_h_steps a_r_scratch a_r_now v_r_takes' v_r_negative' v_r_namePlace v_r_faultKind' v_r_faultPlace' v_a_size' v_a_limit' v_a_digits' v_a_kind' v_a_from' v_a_to' v_o_size a_o_out v_b_size v_b_limit v_b_digits v_b_kind v_b_from v_b_to a_u_atom a_u_other a_u_hand v_u_marksMade v_u_came v_u_guesses v_u_right v_u_taken a_u_vars a_u_marks a_u_outcomes a_u_indexes v_s_things v_s_looked v_s_lookedTooOften v_s_arraysMade v_s_cellsMade a_s_classes a_s_starts a_s_lengths a_s_cells a_L a_K a_vc a_vd a_si a_sj a_iv a_inn a_ac) ∧ (LI 3100 v_a_size' v_a_limit' v_a_digits' v_a_kind' v_a_from' v_a_to')) 0 0 := by
  intro sz
  refine Met.ofW (cc := cX2_start) (maxL := 3) (ret := none) (by decide) rfl ?_
  intro p e s m args below meth c s₁ B hml hv
  obtain ⟨rfl, hsz, hP, hK, hD0, hE⟩ := hv
  have hx := B.exec
  have hb := B.bytes
  have hr := B.returns
  have hts := atoms_spec (ws := (wG yX2_start cX2_start 3 none)) B.pre
  have hown : s.vm.findClass RX2 = some m.cls := findClass_of_methodNamed B.named
  have hlocks := B.notSynchronized
  subst hsz
  have hD := hD0.self (sz := s.heap.size)
  obtain ⟨A, hAe⟩ : ∃ A : Nat → Prop, A = va_A (tw cs q v_t_tapeSize v_t_textSize v_t_faultKind a_t_tape a_t_text a_g_beyond v_g_size a_g_steps a_h_beyond v_h_size a_h_steps a_r_scratch a_r_now v_r_takes v_r_negative v_r_namePlace v_r_faultKind v_r_faultPlace v_a_size v_a_limit v_a_digits v_a_kind v_a_from v_a_to v_o_size a_o_out v_b_size v_b_limit v_b_digits v_b_kind v_b_from v_b_to a_u_atom a_u_other a_u_hand v_u_marksMade v_u_came v_u_guesses v_u_right v_u_taken a_u_vars a_u_marks a_u_outcomes a_u_indexes v_s_things v_s_looked v_s_lookedTooOften v_s_arraysMade v_s_cellsMade a_s_classes a_s_starts a_s_lengths a_s_cells a_L a_K a_vc a_vd a_si a_sj a_iv a_inn a_ac) s.heap.size := ⟨_, rfl⟩
  rw [← hAe] at hD hE
  have hA : ∀ q : Nat, s.heap.size ≤ q → A q := fun q h => by rw [hAe]; exact Or.inr h
  have hS : va_S A s.heap s.heap [] := va_S.rf
  have hl := lv_entry ([.ref (q 7), .int n9, .int m9]) (n := 3) (Nat.le_of_ble_eq_true rfl)
  rw [lg_entry_eq]
  generalize (lg_sl ([.ref (q 7), .int n9, .int m9]) ++ List.replicate (3 - (lg_sl ([.ref (q 7), .int n9, .int m9])).length) Slot.unset).toArray = ls at hl ⊢
  have hl : lv_has ls 3 [(0, .ref (q 7)), (1, .int n9), (2, .int m9)] := hl
  refine wq (fun Q hQ => ?_)
  have hinX2 : ∀ w ∈ wsX20, w ∈ (wG yX2_start cX2_start 3 none) := fun w h => List.mem_cons_of_mem _ (inlX2 w h)
  have kc0 : (0 : Int32).toInt = 0 := by decide
  have k_8_23 := hts (.fieldLink RX2 81 "ArrayTrainer$Parser" "faultKind" "I") (List.mem_cons_of_mem _ (wr8 _ (List.mem_of_getElem? (i := 23) rfl)))
  have k_9_0 := hts (.fieldLink RX2 84 "ArrayTrainer$Parser" "faultPlace" "I") (List.mem_cons_of_mem _ (wr9 _ (List.mem_of_getElem? (i := 0) rfl)))
  have k_9_1 := hts (.fieldLink RX2 87 "ArrayTrainer$Parser" "takes" "I") (List.mem_cons_of_mem _ (wr9 _ (List.mem_of_getElem? (i := 1) rfl)))
  have k_9_2 := hts (.fieldLink RX2 90 "ArrayTrainer$Parser" "negative" "Z") (List.mem_cons_of_mem _ (wr9 _ (List.mem_of_getElem? (i := 2) rfl)))
  have k_3_11 := hts (.fieldLink RX2 9 "ArrayTrainer$Parser" "lexer" "LArrayTrainer$Lexer;") (List.mem_cons_of_mem _ (wr3 _ (List.mem_of_getElem? (i := 11) rfl)))
  obtain ⟨H, hH⟩ : ∃ H : Heap, H = s.heap := ⟨_, rfl⟩
  obtain ⟨locs, hlc⟩ : ∃ L : List Loc, L = [] := ⟨_, rfl⟩
  have hP : va_P D vwCl (tw cs q v_t_tapeSize v_t_textSize v_t_faultKind a_t_tape a_t_text a_g_beyond v_g_size a_g_steps a_h_beyond v_h_size a_h_steps a_r_scratch a_r_now v_r_takes v_r_negative v_r_namePlace v_r_faultKind v_r_faultPlace v_a_size v_a_limit v_a_digits v_a_kind v_a_from v_a_to v_o_size a_o_out v_b_size v_b_limit v_b_digits v_b_kind v_b_from v_b_to a_u_atom a_u_other a_u_hand v_u_marksMade v_u_came v_u_guesses v_u_right v_u_taken a_u_vars a_u_marks a_u_outcomes a_u_indexes v_s_things v_s_looked v_s_lookedTooOften v_s_arraysMade v_s_cellsMade a_s_classes a_s_starts a_s_lengths a_s_cells a_L a_K a_vc a_vd a_si a_sj a_iv a_inn a_ac) H := by rw [hH]; exact hP
  have hS : va_S A s.heap H locs := by rw [hH, hlc]; exact hS
  refine wHL hH hlc ?_
  have b_n9 := iB n9
  have b_m9 := iB m9
  obtain ⟨⟨h1, h2⟩, ⟨h3, h4⟩, ⟨h5, h6⟩, ⟨h7, h8⟩, h9, h10⟩ := id p_0
  refine lv_aload_n hx hb dX2_start_0 rfl (lv_at hl 0 rfl) ?_
  refine lv_iconst (v := 0) hx hb dX2_start_1 (by decide) ?_
  refine va_put (D := D) (ci := 1) (v := .int 0) (ty := .int) (C := RX2) (T := TX2) (N := 8) hx hb hts hinX2 tyX2 tyX2_ok nmX2 hown hK hP hD hS 7 rfl rfl 6 (by decide) k_8_23 (fun _ h9 => h9) rfl (by decide +kernel) rfl rfl (Nat.le_of_ble_eq_true rfl) dX2_start_2 (fun H locs hP hD hS => ?_)
  have hP : va_P D vwCl (tw cs q v_t_tapeSize v_t_textSize v_t_faultKind a_t_tape a_t_text a_g_beyond v_g_size a_g_steps a_h_beyond v_h_size a_h_steps a_r_scratch a_r_now v_r_takes v_r_negative v_r_namePlace (0 : Int32) v_r_faultPlace v_a_size v_a_limit v_a_digits v_a_kind v_a_from v_a_to v_o_size a_o_out v_b_size v_b_limit v_b_digits v_b_kind v_b_from v_b_to a_u_atom a_u_other a_u_hand v_u_marksMade v_u_came v_u_guesses v_u_right v_u_taken a_u_vars a_u_marks a_u_outcomes a_u_indexes v_s_things v_s_looked v_s_lookedTooOften v_s_arraysMade v_s_cellsMade a_s_classes a_s_starts a_s_lengths a_s_cells a_L a_K a_vc a_vd a_si a_sj a_iv a_inn a_ac) H := hP
  have hD : va_D A (tw cs q v_t_tapeSize v_t_textSize v_t_faultKind a_t_tape a_t_text a_g_beyond v_g_size a_g_steps a_h_beyond v_h_size a_h_steps a_r_scratch a_r_now v_r_takes v_r_negative v_r_namePlace (0 : Int32) v_r_faultPlace v_a_size v_a_limit v_a_digits v_a_kind v_a_from v_a_to v_o_size a_o_out v_b_size v_b_limit v_b_digits v_b_kind v_b_from v_b_to a_u_atom a_u_other a_u_hand v_u_marksMade v_u_came v_u_guesses v_u_right v_u_taken a_u_vars a_u_marks a_u_outcomes a_u_indexes v_s_things v_s_looked v_s_lookedTooOften v_s_arraysMade v_s_cellsMade a_s_classes a_s_starts a_s_lengths a_s_cells a_L a_K a_vc a_vd a_si a_sj a_iv a_inn a_ac) := hD
  refine lv_aload_n hx hb dX2_start_5 rfl (lv_at hl 0 rfl) ?_
  refine lv_iconst (v := 0) hx hb dX2_start_6 (by decide) ?_
  refine va_put (D := D) (ci := 1) (v := .int 0) (ty := .int) (C := RX2) (T := TX2) (N := 8) hx hb hts hinX2 tyX2 tyX2_ok nmX2 hown hK hP hD hS 7 rfl rfl 7 (by decide) k_9_0 (fun _ h9 => h9) rfl (by decide +kernel) rfl rfl (Nat.le_of_ble_eq_true rfl) dX2_start_7 (fun H locs hP hD hS => ?_)
  have hP : va_P D vwCl (tw cs q v_t_tapeSize v_t_textSize v_t_faultKind a_t_tape a_t_text a_g_beyond v_g_size a_g_steps a_h_beyond v_h_size a_h_steps a_r_scratch a_r_now v_r_takes v_r_negative v_r_namePlace (0 : Int32) (0 : Int32) v_a_size v_a_limit v_a_digits v_a_kind v_a_from v_a_to v_o_size a_o_out v_b_size v_b_limit v_b_digits v_b_kind v_b_from v_b_to a_u_atom a_u_other a_u_hand v_u_marksMade v_u_came v_u_guesses v_u_right v_u_taken a_u_vars a_u_marks a_u_outcomes a_u_indexes v_s_things v_s_looked v_s_lookedTooOften v_s_arraysMade v_s_cellsMade a_s_classes a_s_starts a_s_lengths a_s_cells a_L a_K a_vc a_vd a_si a_sj a_iv a_inn a_ac) H := hP
  have hD : va_D A (tw cs q v_t_tapeSize v_t_textSize v_t_faultKind a_t_tape a_t_text a_g_beyond v_g_size a_g_steps a_h_beyond v_h_size a_h_steps a_r_scratch a_r_now v_r_takes v_r_negative v_r_namePlace (0 : Int32) (0 : Int32) v_a_size v_a_limit v_a_digits v_a_kind v_a_from v_a_to v_o_size a_o_out v_b_size v_b_limit v_b_digits v_b_kind v_b_from v_b_to a_u_atom a_u_other a_u_hand v_u_marksMade v_u_came v_u_guesses v_u_right v_u_taken a_u_vars a_u_marks a_u_outcomes a_u_indexes v_s_things v_s_looked v_s_lookedTooOften v_s_arraysMade v_s_cellsMade a_s_classes a_s_starts a_s_lengths a_s_cells a_L a_K a_vc a_vd a_si a_sj a_iv a_inn a_ac) := hD
  refine lv_aload_n hx hb dX2_start_10 rfl (lv_at hl 0 rfl) ?_
  refine lv_iconst (v := 0) hx hb dX2_start_11 (by decide) ?_
  refine va_put (D := D) (ci := 1) (v := .int 0) (ty := .int) (C := RX2) (T := TX2) (N := 8) hx hb hts hinX2 tyX2 tyX2_ok nmX2 hown hK hP hD hS 7 rfl rfl 3 (by decide) k_9_1 (fun _ h9 => h9) rfl (by decide +kernel) rfl rfl (Nat.le_of_ble_eq_true rfl) dX2_start_12 (fun H locs hP hD hS => ?_)
  have hP : va_P D vwCl (tw cs q v_t_tapeSize v_t_textSize v_t_faultKind a_t_tape a_t_text a_g_beyond v_g_size a_g_steps a_h_beyond v_h_size a_h_steps a_r_scratch a_r_now (0 : Int32) v_r_negative v_r_namePlace (0 : Int32) (0 : Int32) v_a_size v_a_limit v_a_digits v_a_kind v_a_from v_a_to v_o_size a_o_out v_b_size v_b_limit v_b_digits v_b_kind v_b_from v_b_to a_u_atom a_u_other a_u_hand v_u_marksMade v_u_came v_u_guesses v_u_right v_u_taken a_u_vars a_u_marks a_u_outcomes a_u_indexes v_s_things v_s_looked v_s_lookedTooOften v_s_arraysMade v_s_cellsMade a_s_classes a_s_starts a_s_lengths a_s_cells a_L a_K a_vc a_vd a_si a_sj a_iv a_inn a_ac) H := hP
  have hD : va_D A (tw cs q v_t_tapeSize v_t_textSize v_t_faultKind a_t_tape a_t_text a_g_beyond v_g_size a_g_steps a_h_beyond v_h_size a_h_steps a_r_scratch a_r_now (0 : Int32) v_r_negative v_r_namePlace (0 : Int32) (0 : Int32) v_a_size v_a_limit v_a_digits v_a_kind v_a_from v_a_to v_o_size a_o_out v_b_size v_b_limit v_b_digits v_b_kind v_b_from v_b_to a_u_atom a_u_other a_u_hand v_u_marksMade v_u_came v_u_guesses v_u_right v_u_taken a_u_vars a_u_marks a_u_outcomes a_u_indexes v_s_things v_s_looked v_s_lookedTooOften v_s_arraysMade v_s_cellsMade a_s_classes a_s_starts a_s_lengths a_s_cells a_L a_K a_vc a_vd a_si a_sj a_iv a_inn a_ac) := hD
  refine lv_aload_n hx hb dX2_start_15 rfl (lv_at hl 0 rfl) ?_
  refine lv_iconst (v := 0) hx hb dX2_start_16 (by decide) ?_
  refine va_put (D := D) (ci := 1) (v := .int 0) (ty := .boolean) (C := RX2) (T := TX2) (N := 8) hx hb hts hinX2 tyX2 tyX2_ok nmX2 hown hK hP hD hS 7 rfl rfl 4 (by decide) k_9_2 (fun _ h9 => h9) rfl (by decide +kernel) (by decide) (by decide) (Nat.le_of_ble_eq_true rfl) dX2_start_17 (fun H locs hP hD hS => ?_)
  have hP : va_P D vwCl (tw cs q v_t_tapeSize v_t_textSize v_t_faultKind a_t_tape a_t_text a_g_beyond v_g_size a_g_steps a_h_beyond v_h_size a_h_steps a_r_scratch a_r_now (0 : Int32) (0 : Int32) v_r_namePlace (0 : Int32) (0 : Int32) v_a_size v_a_limit v_a_digits v_a_kind v_a_from v_a_to v_o_size a_o_out v_b_size v_b_limit v_b_digits v_b_kind v_b_from v_b_to a_u_atom a_u_other a_u_hand v_u_marksMade v_u_came v_u_guesses v_u_right v_u_taken a_u_vars a_u_marks a_u_outcomes a_u_indexes v_s_things v_s_looked v_s_lookedTooOften v_s_arraysMade v_s_cellsMade a_s_classes a_s_starts a_s_lengths a_s_cells a_L a_K a_vc a_vd a_si a_sj a_iv a_inn a_ac) H := hP
  have hD : va_D A (tw cs q v_t_tapeSize v_t_textSize v_t_faultKind a_t_tape a_t_text a_g_beyond v_g_size a_g_steps a_h_beyond v_h_size a_h_steps a_r_scratch a_r_now (0 : Int32) (0 : Int32) v_r_namePlace (0 : Int32) (0 : Int32) v_a_size v_a_limit v_a_digits v_a_kind v_a_from v_a_to v_o_size a_o_out v_b_size v_b_limit v_b_digits v_b_kind v_b_from v_b_to a_u_atom a_u_other a_u_hand v_u_marksMade v_u_came v_u_guesses v_u_right v_u_taken a_u_vars a_u_marks a_u_outcomes a_u_indexes v_s_things v_s_looked v_s_lookedTooOften v_s_arraysMade v_s_cellsMade a_s_classes a_s_starts a_s_lengths a_s_cells a_L a_K a_vc a_vd a_si a_sj a_iv a_inn a_ac) := hD
  refine lv_aload_n hx hb dX2_start_20 rfl (lv_at hl 0 rfl) ?_
  refine va_get (D := D) (ci := 1) (v := .ref (q 8)) (C := RX2) (T := TX2) (N := 8) hx hb hts hinX2 hown hK hP 7 rfl rfl 0 (by decide) k_3_11 (fun _ h9 => h9) rfl dX2_start_21 ?_
  refine lv_iload_n hx hb dX2_start_24 rfl (lv_at hl 1 rfl) ?_
  refine lv_iload_n hx hb dX2_start_25 rfl (lv_at hl 2 rfl) ?_
  refine lv_iconst (v := 0) hx hb dX2_start_26 (by decide) ?_
  refine call_v (As := [.int n9, .int m9, .int 0]) (rest := []) ⟨hx, hb, hml, hown, hts⟩ (tX1_open_qa (l := l) n9 m9 (0 : Int32) (by first | assumption | omega | (intros; omega) | decide) (by first | assumption | omega | (intros; omega) | decide) (by first | assumption | omega | (intros; omega) | decide) (by first | assumption | omega | (intros; omega) | decide)) (cwV 3 hts (gV (wr9 _ (List.mem_of_getElem? (i := 3) rfl)) (wr9 _ (List.mem_of_getElem? (i := 4) rfl)) (wr9 _ (List.mem_of_getElem? (i := 5) rfl)) (wr2 _ (List.mem_of_getElem? (i := 2) rfl)) (wr9 _ (List.mem_of_getElem? (i := 6) rfl))) rfl rfl rfl (by decide +kernel) ⟨Nat.le_of_ble_eq_true rfl, Nat.le_of_ble_eq_true rfl⟩) (va_recv hK hP (ci := 0) (q0 := 8) rfl rfl) hK hP hD hE hS hA rfl hl.1 rfl (Nat.le_of_ble_eq_true rfl) dX2_start_27 ⟨Nat.le_of_ble_eq_true rfl, Nat.le_of_ble_eq_true rfl⟩ (fun w9 H locs hw27 hP hD hS => ?_)
  obtain ⟨v_a_size_27, v_a_limit_27, v_a_to_27, rfl, hw27_0⟩ := hw27
  have b_v_a_size_27 := iB v_a_size_27
  have b_v_a_limit_27 := iB v_a_limit_27
  have b_v_a_to_27 := iB v_a_to_27
  refine lv_aload_n hx hb dX2_start_30 rfl (lv_at hl 0 rfl) ?_
  refine va_get (D := D) (ci := 1) (v := .ref (q 8)) (C := RX2) (T := TX2) (N := 8) hx hb hts hinX2 hown hK hP 7 rfl rfl 0 (by decide) k_3_11 (fun _ h9 => h9) rfl dX2_start_31 ?_
  refine call_v (As := []) (rest := []) ⟨hx, hb, hml, hown, hts⟩ (tX1_next_qa (l := l)  (by first | assumption | exact LI.z (by assumption))) (cwV 0 hts (gV (wr9 _ (List.mem_of_getElem? (i := 17) rfl)) (wr9 _ (List.mem_of_getElem? (i := 18) rfl)) (wr9 _ (List.mem_of_getElem? (i := 19) rfl)) (wr2 _ (List.mem_of_getElem? (i := 2) rfl)) (wr9 _ (List.mem_of_getElem? (i := 20) rfl))) rfl rfl rfl (by decide +kernel) ⟨Nat.le_of_ble_eq_true rfl, Nat.le_of_ble_eq_true rfl⟩) (va_recv hK hP (ci := 0) (q0 := 8) rfl rfl) hK hP hD hE hS hA rfl hl.1 rfl (Nat.le_of_ble_eq_true rfl) dX2_start_34 ⟨Nat.le_of_ble_eq_true rfl, Nat.le_of_ble_eq_true rfl⟩ (fun w9 H locs hw34 hP hD hS => ?_)
  obtain ⟨v_a_digits_34, v_a_kind_34, v_a_from_34, v_a_to_34, rfl, hw34_0⟩ := hw34
  have b_v_a_digits_34 := iB v_a_digits_34
  have b_v_a_kind_34 := iB v_a_kind_34
  have b_v_a_from_34 := iB v_a_from_34
  have b_v_a_to_34 := iB v_a_to_34
  subst hAe
  rw [hQ]
  exact W.vret hx hb hr (fun t ht hW => ⟨⟨_, rfl, ⟨(0 : Int32), (0 : Int32), (0 : Int32), (0 : Int32), v_a_size_27, v_a_limit_27, v_a_digits_34, v_a_kind_34, v_a_from_34, v_a_to_34, rfl, by first | assumption | omega | (intros; omega) | decide⟩, by rw [ht]; exact hP, va_K.moved hW.alike hK, hD⟩, hS.F ht⟩) hS.2.2 dX2_start_37

def rmX2_refuse : Room := { frames := 20, cells := 0, slots := 0, locals := 400 }
set_option maxHeartbeats 4000000 in
set_option maxRecDepth 100000 in
theorem tX2_refuse {l : Launch} {D : va_G} {K : Nat → Nat → Nat} {cs : Nat → ClassId} {q : Nat → Nat} {v_t_tapeSize v_t_textSize v_t_faultKind v_g_size v_h_size v_r_takes v_r_negative v_r_namePlace v_r_faultKind v_r_faultPlace v_a_size v_a_limit v_a_digits v_a_kind v_a_from v_a_to v_o_size v_b_size v_b_limit v_b_digits v_b_kind v_b_from v_b_to v_u_marksMade v_u_came v_u_guesses v_u_right v_u_taken v_s_things v_s_looked v_s_lookedTooOften v_s_arraysMade v_s_cellsMade : Int32} {a_t_tape a_t_text a_o_out a_u_outcomes a_u_indexes a_s_classes a_s_starts a_s_lengths a_vc : Nat → Int32} {a_g_beyond a_h_beyond a_r_scratch a_r_now a_u_atom a_u_other a_u_hand : Nat} {a_g_steps a_h_steps a_u_vars a_u_marks : Nat → Option Nat} {a_s_cells a_vd a_sj : Nat → Int64} {a_L : List Nat} {a_K a_iv a_inn : Nat → Nat} {a_si a_ac : Nat → Nat → Int32} (k9 : Int32) : CtI l yX2_refuse (wG yX2_refuse cX2_refuse 2 (some .boolean)) rmX2_refuse D (twT cs) K [.ref (q 7), .int k9] (tw cs q v_t_tapeSize v_t_textSize v_t_faultKind a_t_tape a_t_text a_g_beyond v_g_size a_g_steps a_h_beyond v_h_size a_h_steps a_r_scratch a_r_now v_r_takes v_r_negative v_r_namePlace v_r_faultKind v_r_faultPlace v_a_size v_a_limit v_a_digits v_a_kind v_a_from v_a_to v_o_size a_o_out v_b_size v_b_limit v_b_digits v_b_kind v_b_from v_b_to a_u_atom a_u_other a_u_hand v_u_marksMade v_u_came v_u_guesses v_u_right v_u_taken a_u_vars a_u_marks a_u_outcomes a_u_indexes v_s_things v_s_looked v_s_lookedTooOften v_s_arraysMade v_s_cellsMade a_s_classes a_s_starts a_s_lengths a_s_cells a_L a_K a_vc a_vd a_si a_sj a_iv a_inn a_ac) (fun r w1 => ∃ (v_r_faultKind' : Int32) (v_r_faultPlace' : Int32), w1 = (tw cs q v_t_tapeSize v_t_textSize v_t_faultKind a_t_tape a_t_text a_g_beyond v_g_size a_g_steps a_h_beyond v_h_size a_h_steps a_r_scratch a_r_now v_r_takes v_r_negative v_r_namePlace v_r_faultKind' v_r_faultPlace' v_a_size v_a_limit v_a_digits v_a_kind v_a_from v_a_to v_o_size a_o_out v_b_size v_b_limit v_b_digits v_b_kind v_b_from v_b_to a_u_atom a_u_other a_u_hand v_u_marksMade v_u_came v_u_guesses v_u_right v_u_taken a_u_vars a_u_marks a_u_outcomes a_u_indexes v_s_things v_s_looked v_s_lookedTooOften v_s_arraysMade v_s_cellsMade a_s_classes a_s_starts a_s_lengths a_s_cells a_L a_K a_vc a_vd a_si a_sj a_iv a_inn a_ac) ∧ (r.toInt = 0)) 0 0 := by
  intro sz
  refine Met.ofW (cc := cX2_refuse) (maxL := 2) (ret := (some .boolean)) (by decide) rfl ?_
  intro p e s m args below meth c s₁ B hml hv
  obtain ⟨rfl, hsz, hP, hK, hD0, hE⟩ := hv
  have hx := B.exec
  have hb := B.bytes
  have hr := B.returns
  have hts := atoms_spec (ws := (wG yX2_refuse cX2_refuse 2 (some .boolean))) B.pre
  have hown : s.vm.findClass RX2 = some m.cls := findClass_of_methodNamed B.named
  have hlocks := B.notSynchronized
  subst hsz
  have hD := hD0.self (sz := s.heap.size)
  obtain ⟨A, hAe⟩ : ∃ A : Nat → Prop, A = va_A (tw cs q v_t_tapeSize v_t_textSize v_t_faultKind a_t_tape a_t_text a_g_beyond v_g_size a_g_steps a_h_beyond v_h_size a_h_steps a_r_scratch a_r_now v_r_takes v_r_negative v_r_namePlace v_r_faultKind v_r_faultPlace v_a_size v_a_limit v_a_digits v_a_kind v_a_from v_a_to v_o_size a_o_out v_b_size v_b_limit v_b_digits v_b_kind v_b_from v_b_to a_u_atom a_u_other a_u_hand v_u_marksMade v_u_came v_u_guesses v_u_right v_u_taken a_u_vars a_u_marks a_u_outcomes a_u_indexes v_s_things v_s_looked v_s_lookedTooOften v_s_arraysMade v_s_cellsMade a_s_classes a_s_starts a_s_lengths a_s_cells a_L a_K a_vc a_vd a_si a_sj a_iv a_inn a_ac) s.heap.size := ⟨_, rfl⟩
  rw [← hAe] at hD hE
  have hA : ∀ q : Nat, s.heap.size ≤ q → A q := fun q h => by rw [hAe]; exact Or.inr h
  have hS : va_S A s.heap s.heap [] := va_S.rf
  have hl := lv_entry ([.ref (q 7), .int k9]) (n := 2) (Nat.le_of_ble_eq_true rfl)
  rw [lg_entry_eq]
  generalize (lg_sl ([.ref (q 7), .int k9]) ++ List.replicate (2 - (lg_sl ([.ref (q 7), .int k9])).length) Slot.unset).toArray = ls at hl ⊢
  have hl : lv_has ls 2 [(0, .ref (q 7)), (1, .int k9)] := hl
  refine wq (fun Q hQ => ?_)
  have hinX1 : ∀ w ∈ wsX10, w ∈ (wG yX2_refuse cX2_refuse 2 (some .boolean)) := fun w h => List.mem_cons_of_mem _ (inlX1 w h)
  have hinX2 : ∀ w ∈ wsX20, w ∈ (wG yX2_refuse cX2_refuse 2 (some .boolean)) := fun w h => List.mem_cons_of_mem _ (inlX2 w h)
  have kc0 : (0 : Int32).toInt = 0 := by decide
  have kc1 : (1 : Int32).toInt = 1 := by decide
  have k_3_11 := hts (.fieldLink RX2 9 "ArrayTrainer$Parser" "lexer" "LArrayTrainer$Lexer;") (List.mem_cons_of_mem _ (wr3 _ (List.mem_of_getElem? (i := 11) rfl)))
  have k_8_17 := hts (.fieldLink RX2 35 "ArrayTrainer$Lexer" "kind" "I") (List.mem_cons_of_mem _ (wr8 _ (List.mem_of_getElem? (i := 17) rfl)))
  have k_8_23 := hts (.fieldLink RX2 81 "ArrayTrainer$Parser" "faultKind" "I") (List.mem_cons_of_mem _ (wr8 _ (List.mem_of_getElem? (i := 23) rfl)))
  have k_8_18 := hts (.fieldLink RX2 52 "ArrayTrainer$Lexer" "from" "I") (List.mem_cons_of_mem _ (wr8 _ (List.mem_of_getElem? (i := 18) rfl)))
  have k_9_0 := hts (.fieldLink RX2 84 "ArrayTrainer$Parser" "faultPlace" "I") (List.mem_cons_of_mem _ (wr9 _ (List.mem_of_getElem? (i := 0) rfl)))
  obtain ⟨H, hH⟩ : ∃ H : Heap, H = s.heap := ⟨_, rfl⟩
  obtain ⟨locs, hlc⟩ : ∃ L : List Loc, L = [] := ⟨_, rfl⟩
  have hP : va_P D vwCl (tw cs q v_t_tapeSize v_t_textSize v_t_faultKind a_t_tape a_t_text a_g_beyond v_g_size a_g_steps a_h_beyond v_h_size a_h_steps a_r_scratch a_r_now v_r_takes v_r_negative v_r_namePlace v_r_faultKind v_r_faultPlace v_a_size v_a_limit v_a_digits v_a_kind v_a_from v_a_to v_o_size a_o_out v_b_size v_b_limit v_b_digits v_b_kind v_b_from v_b_to a_u_atom a_u_other a_u_hand v_u_marksMade v_u_came v_u_guesses v_u_right v_u_taken a_u_vars a_u_marks a_u_outcomes a_u_indexes v_s_things v_s_looked v_s_lookedTooOften v_s_arraysMade v_s_cellsMade a_s_classes a_s_starts a_s_lengths a_s_cells a_L a_K a_vc a_vd a_si a_sj a_iv a_inn a_ac) H := by rw [hH]; exact hP
  have hS : va_S A s.heap H locs := by rw [hH, hlc]; exact hS
  refine wHL hH hlc ?_
  have b_k9 := iB k9
  refine lv_aload_n hx hb dX2_refuse_0 rfl (lv_at hl 0 rfl) ?_
  refine lv_aload_n hx hb dX2_refuse_1 rfl (lv_at hl 0 rfl) ?_
  refine va_get (D := D) (ci := 1) (v := .ref (q 8)) (C := RX2) (T := TX2) (N := 8) hx hb hts hinX2 hown hK hP 7 rfl rfl 0 (by decide) k_3_11 (fun _ h9 => h9) rfl dX2_refuse_2 ?_
  refine va_get (D := D) (ci := 0) (v := .int v_a_kind) (C := RX1) (T := TX1) (N := 7) hx hb hts hinX1 hown hK hP 8 rfl rfl 4 (by decide) k_8_17 (fun _ h9 => h9) rfl dX2_refuse_5 ?_
  refine lv_iconst (v := 1) hx hb dX2_refuse_8 (by decide) ?_
  have J17 : ∀ (s1_17 : Int32) (H : Heap) (locs : List Loc) (ls : Array Slot), va_P D vwCl (tw cs q v_t_tapeSize v_t_textSize v_t_faultKind a_t_tape a_t_text a_g_beyond v_g_size a_g_steps a_h_beyond v_h_size a_h_steps a_r_scratch a_r_now v_r_takes v_r_negative v_r_namePlace v_r_faultKind v_r_faultPlace v_a_size v_a_limit v_a_digits v_a_kind v_a_from v_a_to v_o_size a_o_out v_b_size v_b_limit v_b_digits v_b_kind v_b_from v_b_to a_u_atom a_u_other a_u_hand v_u_marksMade v_u_came v_u_guesses v_u_right v_u_taken a_u_vars a_u_marks a_u_outcomes a_u_indexes v_s_things v_s_looked v_s_lookedTooOften v_s_arraysMade v_s_cellsMade a_s_classes a_s_starts a_s_lengths a_s_cells a_L a_K a_vc a_vd a_si a_sj a_iv a_inn a_ac) H → va_D A (tw cs q v_t_tapeSize v_t_textSize v_t_faultKind a_t_tape a_t_text a_g_beyond v_g_size a_g_steps a_h_beyond v_h_size a_h_steps a_r_scratch a_r_now v_r_takes v_r_negative v_r_namePlace v_r_faultKind v_r_faultPlace v_a_size v_a_limit v_a_digits v_a_kind v_a_from v_a_to v_o_size a_o_out v_b_size v_b_limit v_b_digits v_b_kind v_b_from v_b_to a_u_atom a_u_other a_u_hand v_u_marksMade v_u_came v_u_guesses v_u_right v_u_taken a_u_vars a_u_marks a_u_outcomes a_u_indexes v_s_things v_s_looked v_s_lookedTooOften v_s_arraysMade v_s_cellsMade a_s_classes a_s_starts a_s_lengths a_s_cells a_L a_K a_vc a_vd a_si a_sj a_iv a_inn a_ac) → va_S A s.heap H locs → lv_has ls 2 [(0, .ref (q 7))] → W p l e (headSpec (wG yX2_refuse cX2_refuse 2 (some .boolean)) rmX2_refuse).room s m ([.ref (q 7), .int k9] : List Value).toArray below meth c H locs 0 0 Q (F0 m 17 ls [.int s1_17, .ref (q 7)]) := by
    intro s1_17 H locs ls hP hD hS hl
    refine va_put (D := D) (ci := 1) (v := .int s1_17) (ty := .int) (C := RX2) (T := TX2) (N := 8) hx hb hts hinX2 tyX2 tyX2_ok nmX2 hown hK hP hD hS 7 rfl rfl 6 (by decide) k_8_23 (fun _ h9 => h9) rfl (by decide +kernel) rfl rfl (Nat.le_of_ble_eq_true rfl) dX2_refuse_17 (fun H locs hP hD hS => ?_)
    have hP : va_P D vwCl (tw cs q v_t_tapeSize v_t_textSize v_t_faultKind a_t_tape a_t_text a_g_beyond v_g_size a_g_steps a_h_beyond v_h_size a_h_steps a_r_scratch a_r_now v_r_takes v_r_negative v_r_namePlace s1_17 v_r_faultPlace v_a_size v_a_limit v_a_digits v_a_kind v_a_from v_a_to v_o_size a_o_out v_b_size v_b_limit v_b_digits v_b_kind v_b_from v_b_to a_u_atom a_u_other a_u_hand v_u_marksMade v_u_came v_u_guesses v_u_right v_u_taken a_u_vars a_u_marks a_u_outcomes a_u_indexes v_s_things v_s_looked v_s_lookedTooOften v_s_arraysMade v_s_cellsMade a_s_classes a_s_starts a_s_lengths a_s_cells a_L a_K a_vc a_vd a_si a_sj a_iv a_inn a_ac) H := hP
    have hD : va_D A (tw cs q v_t_tapeSize v_t_textSize v_t_faultKind a_t_tape a_t_text a_g_beyond v_g_size a_g_steps a_h_beyond v_h_size a_h_steps a_r_scratch a_r_now v_r_takes v_r_negative v_r_namePlace s1_17 v_r_faultPlace v_a_size v_a_limit v_a_digits v_a_kind v_a_from v_a_to v_o_size a_o_out v_b_size v_b_limit v_b_digits v_b_kind v_b_from v_b_to a_u_atom a_u_other a_u_hand v_u_marksMade v_u_came v_u_guesses v_u_right v_u_taken a_u_vars a_u_marks a_u_outcomes a_u_indexes v_s_things v_s_looked v_s_lookedTooOften v_s_arraysMade v_s_cellsMade a_s_classes a_s_starts a_s_lengths a_s_cells a_L a_K a_vc a_vd a_si a_sj a_iv a_inn a_ac) := hD
    refine lv_aload_n hx hb dX2_refuse_20 rfl (lv_at hl 0 rfl) ?_
    refine lv_aload_n hx hb dX2_refuse_21 rfl (lv_at hl 0 rfl) ?_
    refine va_get (D := D) (ci := 1) (v := .ref (q 8)) (C := RX2) (T := TX2) (N := 8) hx hb hts hinX2 hown hK hP 7 rfl rfl 0 (by decide) k_3_11 (fun _ h9 => h9) rfl dX2_refuse_22 ?_
    refine va_get (D := D) (ci := 0) (v := .int v_a_from) (C := RX1) (T := TX1) (N := 7) hx hb hts hinX1 hown hK hP 8 rfl rfl 5 (by decide) k_8_18 (fun _ h9 => h9) rfl dX2_refuse_25 ?_
    refine va_put (D := D) (ci := 1) (v := .int v_a_from) (ty := .int) (C := RX2) (T := TX2) (N := 8) hx hb hts hinX2 tyX2 tyX2_ok nmX2 hown hK hP hD hS 7 rfl rfl 7 (by decide) k_9_0 (fun _ h9 => h9) rfl (by decide +kernel) rfl rfl (Nat.le_of_ble_eq_true rfl) dX2_refuse_28 (fun H locs hP hD hS => ?_)
    have hP : va_P D vwCl (tw cs q v_t_tapeSize v_t_textSize v_t_faultKind a_t_tape a_t_text a_g_beyond v_g_size a_g_steps a_h_beyond v_h_size a_h_steps a_r_scratch a_r_now v_r_takes v_r_negative v_r_namePlace s1_17 v_a_from v_a_size v_a_limit v_a_digits v_a_kind v_a_from v_a_to v_o_size a_o_out v_b_size v_b_limit v_b_digits v_b_kind v_b_from v_b_to a_u_atom a_u_other a_u_hand v_u_marksMade v_u_came v_u_guesses v_u_right v_u_taken a_u_vars a_u_marks a_u_outcomes a_u_indexes v_s_things v_s_looked v_s_lookedTooOften v_s_arraysMade v_s_cellsMade a_s_classes a_s_starts a_s_lengths a_s_cells a_L a_K a_vc a_vd a_si a_sj a_iv a_inn a_ac) H := hP
    have hD : va_D A (tw cs q v_t_tapeSize v_t_textSize v_t_faultKind a_t_tape a_t_text a_g_beyond v_g_size a_g_steps a_h_beyond v_h_size a_h_steps a_r_scratch a_r_now v_r_takes v_r_negative v_r_namePlace s1_17 v_a_from v_a_size v_a_limit v_a_digits v_a_kind v_a_from v_a_to v_o_size a_o_out v_b_size v_b_limit v_b_digits v_b_kind v_b_from v_b_to a_u_atom a_u_other a_u_hand v_u_marksMade v_u_came v_u_guesses v_u_right v_u_taken a_u_vars a_u_marks a_u_outcomes a_u_indexes v_s_things v_s_looked v_s_lookedTooOften v_s_arraysMade v_s_cellsMade a_s_classes a_s_starts a_s_lengths a_s_cells a_L a_K a_vc a_vd a_si a_sj a_iv a_inn a_ac) := hD
    refine lv_iconst (v := 0) hx hb dX2_refuse_31 (by decide) ?_
    subst hAe
    rw [hQ]
    exact W.zret (v := 0) hx hb hr (by decide) (fun t ht hW => ⟨⟨0, _, rfl, ⟨s1_17, v_a_from, rfl, by first | assumption | omega | (intros; omega) | decide⟩, by rw [ht]; exact hP, va_K.moved hW.alike hK, hD⟩, hS.F ht⟩) hS.2.2 dX2_refuse_32
  refine m_icmp_ne (X := v_a_kind.toInt) (Y := 1) (tgt := 16) hx hb dX2_refuse_9 (by decide) rfl (by decide) (fun c9 => ?_) (fun c9 => ?_)
  · skip
    refine lv_iload_n hx hb dX2_refuse_16 rfl (lv_at hl 1 rfl) ?_
    exact J17 k9 H locs ls hP hD hS (lv_sub hl [0] rfl)
  · skip
    refine lv_iconst (v := 1) hx hb dX2_refuse_12 (by decide) ?_
    refine lv_goto (tgt := 17) hx hb dX2_refuse_13 (by decide) ?_
    exact J17 (1 : Int32) H locs ls hP hD hS (lv_sub hl [0] rfl)

def rmX2_passIf : Room := { frames := 140, cells := 0, slots := 0, locals := 2800 }
set_option maxHeartbeats 4000000 in
set_option maxRecDepth 100000 in
theorem tX2_passIf {l : Launch} {D : va_G} {K : Nat → Nat → Nat} {cs : Nat → ClassId} {q : Nat → Nat} {v_t_tapeSize v_t_textSize v_t_faultKind v_g_size v_h_size v_r_takes v_r_negative v_r_namePlace v_r_faultKind v_r_faultPlace v_a_size v_a_limit v_a_digits v_a_kind v_a_from v_a_to v_o_size v_b_size v_b_limit v_b_digits v_b_kind v_b_from v_b_to v_u_marksMade v_u_came v_u_guesses v_u_right v_u_taken v_s_things v_s_looked v_s_lookedTooOften v_s_arraysMade v_s_cellsMade : Int32} {a_t_tape a_t_text a_o_out a_u_outcomes a_u_indexes a_s_classes a_s_starts a_s_lengths a_vc : Nat → Int32} {a_g_beyond a_h_beyond a_r_scratch a_r_now a_u_atom a_u_other a_u_hand : Nat} {a_g_steps a_h_steps a_u_vars a_u_marks : Nat → Option Nat} {a_s_cells a_vd a_sj : Nat → Int64} {a_L : List Nat} {a_K a_iv a_inn : Nat → Nat} {a_si a_ac : Nat → Nat → Int32} (z9 : Int32) (p_0 : LI 3100 v_a_size v_a_limit v_a_digits v_a_kind v_a_from v_a_to) : CtI l yX2_passIf (wG yX2_passIf cX2_passIf 2 (some .boolean)) rmX2_passIf D (twT cs) K [.ref (q 7), .int z9] (tw cs q v_t_tapeSize v_t_textSize v_t_faultKind a_t_tape a_t_text a_g_beyond v_g_size a_g_steps a_h_beyond v_h_size a_h_steps a_r_scratch a_r_now v_r_takes v_r_negative v_r_namePlace v_r_faultKind v_r_faultPlace v_a_size v_a_limit v_a_digits v_a_kind v_a_from v_a_to v_o_size a_o_out v_b_size v_b_limit v_b_digits v_b_kind v_b_from v_b_to a_u_atom a_u_other a_u_hand v_u_marksMade v_u_came v_u_guesses v_u_right v_u_taken a_u_vars a_u_marks a_u_outcomes a_u_indexes v_s_things v_s_looked v_s_lookedTooOften v_s_arraysMade v_s_cellsMade a_s_classes a_s_starts a_s_lengths a_s_cells a_L a_K a_vc a_vd a_si a_sj a_iv a_inn a_ac) (fun r w1 => ∃ (v_r_faultKind' : Int32) (v_r_faultPlace' : Int32) (v_a_digits' : Int32) (v_a_kind' : Int32) (v_a_from' : Int32) (v_a_to' : Int32), w1 = (tw cs q v_t_tapeSize v_t_textSize v_t_faultKind a_t_tape a_t_text a_g_beyond v_g_size a_g_steps a_h_beyond v_h_size a_h_steps a_r_scratch a_r_now v_r_takes v_r_negative v_r_namePlace v_r_faultKind' v_r_faultPlace' v_a_size v_a_limit v_a_digits' v_a_kind' v_a_from' v_a_to' v_o_size a_o_out v_b_size v_b_limit v_b_digits v_b_kind v_b_from v_b_to a_u_atom a_u_other a_u_hand v_u_marksMade v_u_came v_u_guesses v_u_right v_u_taken a_u_vars a_u_marks a_u_outcomes a_u_indexes v_s_things v_s_looked v_s_lookedTooOften v_s_arraysMade v_s_cellsMade a_s_classes a_s_starts a_s_lengths a_s_cells a_L a_K a_vc a_vd a_si a_sj a_iv a_inn a_ac) ∧ (LI 3100 v_a_size v_a_limit v_a_digits' v_a_kind' v_a_from' v_a_to') ∧ (r.toInt = 0 ∨ r.toInt = 1)) 0 0 := by
  intro sz
  refine Met.ofW (cc := cX2_passIf) (maxL := 2) (ret := (some .boolean)) (by decide) rfl ?_
  intro p e s m args below meth c s₁ B hml hv
  obtain ⟨rfl, hsz, hP, hK, hD0, hE⟩ := hv
  have hx := B.exec
  have hb := B.bytes
  have hr := B.returns
  have hts := atoms_spec (ws := (wG yX2_passIf cX2_passIf 2 (some .boolean))) B.pre
  have hown : s.vm.findClass RX2 = some m.cls := findClass_of_methodNamed B.named
  have hlocks := B.notSynchronized
  subst hsz
  have hD := hD0.self (sz := s.heap.size)
  obtain ⟨A, hAe⟩ : ∃ A : Nat → Prop, A = va_A (tw cs q v_t_tapeSize v_t_textSize v_t_faultKind a_t_tape a_t_text a_g_beyond v_g_size a_g_steps a_h_beyond v_h_size a_h_steps a_r_scratch a_r_now v_r_takes v_r_negative v_r_namePlace v_r_faultKind v_r_faultPlace v_a_size v_a_limit v_a_digits v_a_kind v_a_from v_a_to v_o_size a_o_out v_b_size v_b_limit v_b_digits v_b_kind v_b_from v_b_to a_u_atom a_u_other a_u_hand v_u_marksMade v_u_came v_u_guesses v_u_right v_u_taken a_u_vars a_u_marks a_u_outcomes a_u_indexes v_s_things v_s_looked v_s_lookedTooOften v_s_arraysMade v_s_cellsMade a_s_classes a_s_starts a_s_lengths a_s_cells a_L a_K a_vc a_vd a_si a_sj a_iv a_inn a_ac) s.heap.size := ⟨_, rfl⟩
  rw [← hAe] at hD hE
  have hA : ∀ q : Nat, s.heap.size ≤ q → A q := fun q h => by rw [hAe]; exact Or.inr h
  have hS : va_S A s.heap s.heap [] := va_S.rf
  have hl := lv_entry ([.ref (q 7), .int z9]) (n := 2) (Nat.le_of_ble_eq_true rfl)
  rw [lg_entry_eq]
  generalize (lg_sl ([.ref (q 7), .int z9]) ++ List.replicate (2 - (lg_sl ([.ref (q 7), .int z9])).length) Slot.unset).toArray = ls at hl ⊢
  have hl : lv_has ls 2 [(0, .ref (q 7)), (1, .int z9)] := hl
  refine wq (fun Q hQ => ?_)
  have hinX2 : ∀ w ∈ wsX20, w ∈ (wG yX2_passIf cX2_passIf 2 (some .boolean)) := fun w h => List.mem_cons_of_mem _ (inlX2 w h)
  have kc0 : (1 : Int32).toInt = 1 := by decide
  have kc1 : (2 : Int32).toInt = 2 := by decide
  have k_3_11 := hts (.fieldLink RX2 9 "ArrayTrainer$Parser" "lexer" "LArrayTrainer$Lexer;") (List.mem_cons_of_mem _ (wr3 _ (List.mem_of_getElem? (i := 11) rfl)))
  obtain ⟨H, hH⟩ : ∃ H : Heap, H = s.heap := ⟨_, rfl⟩
  obtain ⟨locs, hlc⟩ : ∃ L : List Loc, L = [] := ⟨_, rfl⟩
  have hP : va_P D vwCl (tw cs q v_t_tapeSize v_t_textSize v_t_faultKind a_t_tape a_t_text a_g_beyond v_g_size a_g_steps a_h_beyond v_h_size a_h_steps a_r_scratch a_r_now v_r_takes v_r_negative v_r_namePlace v_r_faultKind v_r_faultPlace v_a_size v_a_limit v_a_digits v_a_kind v_a_from v_a_to v_o_size a_o_out v_b_size v_b_limit v_b_digits v_b_kind v_b_from v_b_to a_u_atom a_u_other a_u_hand v_u_marksMade v_u_came v_u_guesses v_u_right v_u_taken a_u_vars a_u_marks a_u_outcomes a_u_indexes v_s_things v_s_looked v_s_lookedTooOften v_s_arraysMade v_s_cellsMade a_s_classes a_s_starts a_s_lengths a_s_cells a_L a_K a_vc a_vd a_si a_sj a_iv a_inn a_ac) H := by rw [hH]; exact hP
  have hS : va_S A s.heap H locs := by rw [hH, hlc]; exact hS
  refine wHL hH hlc ?_
  have b_z9 := iB z9
  refine lv_iload_n hx hb dX2_passIf_0 rfl (lv_at hl 1 rfl) ?_
  refine m_if_ne (X := z9.toInt) (tgt := 10) hx hb dX2_passIf_1 (by decide) rfl (fun c1 => ?_) (fun c1 => ?_)
  · skip
    refine lv_aload_n hx hb dX2_passIf_10 rfl (lv_at hl 0 rfl) ?_
    refine va_get (D := D) (ci := 1) (v := .ref (q 8)) (C := RX2) (T := TX2) (N := 8) hx hb hts hinX2 hown hK hP 7 rfl rfl 0 (by decide) k_3_11 (fun _ h9 => h9) rfl dX2_passIf_11 ?_
    refine call_v (As := []) (rest := []) ⟨hx, hb, hml, hown, hts⟩ (tX1_next_qa (l := l)  (by first | assumption | exact LI.z (by assumption))) (cwV 0 hts (gV (wr9 _ (List.mem_of_getElem? (i := 17) rfl)) (wr9 _ (List.mem_of_getElem? (i := 18) rfl)) (wr9 _ (List.mem_of_getElem? (i := 19) rfl)) (wr2 _ (List.mem_of_getElem? (i := 2) rfl)) (wr9 _ (List.mem_of_getElem? (i := 20) rfl))) rfl rfl rfl (by decide +kernel) ⟨Nat.le_of_ble_eq_true rfl, Nat.le_of_ble_eq_true rfl⟩) (va_recv hK hP (ci := 0) (q0 := 8) rfl rfl) hK hP hD hE hS hA rfl hl.1 rfl (Nat.le_of_ble_eq_true rfl) dX2_passIf_14 ⟨Nat.le_of_ble_eq_true rfl, Nat.le_of_ble_eq_true rfl⟩ (fun w9 H locs hw14 hP hD hS => ?_)
    obtain ⟨v_a_digits_14, v_a_kind_14, v_a_from_14, v_a_to_14, rfl, hw14_0⟩ := hw14
    have b_v_a_digits_14 := iB v_a_digits_14
    have b_v_a_kind_14 := iB v_a_kind_14
    have b_v_a_from_14 := iB v_a_from_14
    have b_v_a_to_14 := iB v_a_to_14
    refine lv_iconst (v := 1) hx hb dX2_passIf_17 (by decide) ?_
    subst hAe
    rw [hQ]
    exact W.zret (v := 1) hx hb hr (by decide) (fun t ht hW => ⟨⟨1, _, rfl, ⟨v_r_faultKind, v_r_faultPlace, v_a_digits_14, v_a_kind_14, v_a_from_14, v_a_to_14, rfl, by first | assumption | omega | (intros; omega) | decide, by first | assumption | omega | (intros; omega) | decide⟩, by rw [ht]; exact hP, va_K.moved hW.alike hK, hD⟩, hS.F ht⟩) hS.2.2 dX2_passIf_18
  · skip
    refine lv_aload_n hx hb dX2_passIf_4 rfl (lv_at hl 0 rfl) ?_
    refine lv_iconst (v := 2) hx hb dX2_passIf_5 (by decide) ?_
    refine call_i (As := [.int 2]) (rest := []) ⟨hx, hb, hml, hown, hts⟩ (tX2_refuse (l := l) (2 : Int32)) (cwV 1 hts (gV (wr15 _ (List.mem_of_getElem? (i := 20) rfl)) (wr15 _ (List.mem_of_getElem? (i := 21) rfl)) (wr15 _ (List.mem_of_getElem? (i := 22) rfl)) (wr1 _ (List.mem_of_getElem? (i := 23) rfl)) (wr15 _ (List.mem_of_getElem? (i := 23) rfl))) rfl rfl rfl (by decide +kernel) ⟨Nat.le_of_ble_eq_true rfl, Nat.le_of_ble_eq_true rfl⟩) (va_recv hK hP (ci := 1) (q0 := 7) rfl rfl) hK hP hD hE hS hA rfl hl.1 rfl (Nat.le_of_ble_eq_true rfl) dX2_passIf_6 ⟨Nat.le_of_ble_eq_true rfl, Nat.le_of_ble_eq_true rfl⟩ (fun r6 w9 H locs hw6 hP hD hS => ?_)
    obtain ⟨v_r_faultKind_6, v_r_faultPlace_6, rfl, hw6_0⟩ := hw6
    have b_v_r_faultKind_6 := iB v_r_faultKind_6
    have b_v_r_faultPlace_6 := iB v_r_faultPlace_6
    have b_r6 := iB r6
    subst hAe
    rw [hQ]
    exact W.zret (v := r6) hx hb hr (nbool (by first | omega | decide)) (fun t ht hW => ⟨⟨r6, _, rfl, ⟨v_r_faultKind_6, v_r_faultPlace_6, v_a_digits, v_a_kind, v_a_from, v_a_to, rfl, by first | assumption | omega | (intros; omega) | decide, by first | assumption | omega | (intros; omega) | decide⟩, by rw [ht]; exact hP, va_K.moved hW.alike hK, hD⟩, hS.F ht⟩) hS.2.2 dX2_passIf_9

def rmX2_acceptIf : Room := { frames := 40, cells := 0, slots := 0, locals := 800 }
set_option maxHeartbeats 4000000 in
set_option maxRecDepth 100000 in
theorem tX2_acceptIf {l : Launch} {D : va_G} {K : Nat → Nat → Nat} {cs : Nat → ClassId} {q : Nat → Nat} {v_t_tapeSize v_t_textSize v_t_faultKind v_g_size v_h_size v_r_takes v_r_negative v_r_namePlace v_r_faultKind v_r_faultPlace v_a_size v_a_limit v_a_digits v_a_kind v_a_from v_a_to v_o_size v_b_size v_b_limit v_b_digits v_b_kind v_b_from v_b_to v_u_marksMade v_u_came v_u_guesses v_u_right v_u_taken v_s_things v_s_looked v_s_lookedTooOften v_s_arraysMade v_s_cellsMade : Int32} {a_t_tape a_t_text a_o_out a_u_outcomes a_u_indexes a_s_classes a_s_starts a_s_lengths a_vc : Nat → Int32} {a_g_beyond a_h_beyond a_r_scratch a_r_now a_u_atom a_u_other a_u_hand : Nat} {a_g_steps a_h_steps a_u_vars a_u_marks : Nat → Option Nat} {a_s_cells a_vd a_sj : Nat → Int64} {a_L : List Nat} {a_K a_iv a_inn : Nat → Nat} {a_si a_ac : Nat → Nat → Int32} (z9 : Int32) : CtI l yX2_acceptIf (wG yX2_acceptIf cX2_acceptIf 2 (some .boolean)) rmX2_acceptIf D (twT cs) K [.ref (q 7), .int z9] (tw cs q v_t_tapeSize v_t_textSize v_t_faultKind a_t_tape a_t_text a_g_beyond v_g_size a_g_steps a_h_beyond v_h_size a_h_steps a_r_scratch a_r_now v_r_takes v_r_negative v_r_namePlace v_r_faultKind v_r_faultPlace v_a_size v_a_limit v_a_digits v_a_kind v_a_from v_a_to v_o_size a_o_out v_b_size v_b_limit v_b_digits v_b_kind v_b_from v_b_to a_u_atom a_u_other a_u_hand v_u_marksMade v_u_came v_u_guesses v_u_right v_u_taken a_u_vars a_u_marks a_u_outcomes a_u_indexes v_s_things v_s_looked v_s_lookedTooOften v_s_arraysMade v_s_cellsMade a_s_classes a_s_starts a_s_lengths a_s_cells a_L a_K a_vc a_vd a_si a_sj a_iv a_inn a_ac) (fun r w1 => ∃ (v_r_faultKind' : Int32) (v_r_faultPlace' : Int32), w1 = (tw cs q v_t_tapeSize v_t_textSize v_t_faultKind a_t_tape a_t_text a_g_beyond v_g_size a_g_steps a_h_beyond v_h_size a_h_steps a_r_scratch a_r_now v_r_takes v_r_negative v_r_namePlace v_r_faultKind' v_r_faultPlace' v_a_size v_a_limit v_a_digits v_a_kind v_a_from v_a_to v_o_size a_o_out v_b_size v_b_limit v_b_digits v_b_kind v_b_from v_b_to a_u_atom a_u_other a_u_hand v_u_marksMade v_u_came v_u_guesses v_u_right v_u_taken a_u_vars a_u_marks a_u_outcomes a_u_indexes v_s_things v_s_looked v_s_lookedTooOften v_s_arraysMade v_s_cellsMade a_s_classes a_s_starts a_s_lengths a_s_cells a_L a_K a_vc a_vd a_si a_sj a_iv a_inn a_ac) ∧ (r.toInt = 0 ∨ r.toInt = 1)) 0 0 := by
  intro sz
  refine Met.ofW (cc := cX2_acceptIf) (maxL := 2) (ret := (some .boolean)) (by decide) rfl ?_
  intro p e s m args below meth c s₁ B hml hv
  obtain ⟨rfl, hsz, hP, hK, hD0, hE⟩ := hv
  have hx := B.exec
  have hb := B.bytes
  have hr := B.returns
  have hts := atoms_spec (ws := (wG yX2_acceptIf cX2_acceptIf 2 (some .boolean))) B.pre
  have hown : s.vm.findClass RX2 = some m.cls := findClass_of_methodNamed B.named
  have hlocks := B.notSynchronized
  subst hsz
  have hD := hD0.self (sz := s.heap.size)
  obtain ⟨A, hAe⟩ : ∃ A : Nat → Prop, A = va_A (tw cs q v_t_tapeSize v_t_textSize v_t_faultKind a_t_tape a_t_text a_g_beyond v_g_size a_g_steps a_h_beyond v_h_size a_h_steps a_r_scratch a_r_now v_r_takes v_r_negative v_r_namePlace v_r_faultKind v_r_faultPlace v_a_size v_a_limit v_a_digits v_a_kind v_a_from v_a_to v_o_size a_o_out v_b_size v_b_limit v_b_digits v_b_kind v_b_from v_b_to a_u_atom a_u_other a_u_hand v_u_marksMade v_u_came v_u_guesses v_u_right v_u_taken a_u_vars a_u_marks a_u_outcomes a_u_indexes v_s_things v_s_looked v_s_lookedTooOften v_s_arraysMade v_s_cellsMade a_s_classes a_s_starts a_s_lengths a_s_cells a_L a_K a_vc a_vd a_si a_sj a_iv a_inn a_ac) s.heap.size := ⟨_, rfl⟩
  rw [← hAe] at hD hE
  have hA : ∀ q : Nat, s.heap.size ≤ q → A q := fun q h => by rw [hAe]; exact Or.inr h
  have hS : va_S A s.heap s.heap [] := va_S.rf
  have hl := lv_entry ([.ref (q 7), .int z9]) (n := 2) (Nat.le_of_ble_eq_true rfl)
  rw [lg_entry_eq]
  generalize (lg_sl ([.ref (q 7), .int z9]) ++ List.replicate (2 - (lg_sl ([.ref (q 7), .int z9])).length) Slot.unset).toArray = ls at hl ⊢
  have hl : lv_has ls 2 [(0, .ref (q 7)), (1, .int z9)] := hl
  refine wq (fun Q hQ => ?_)
  have kc0 : (0 : Int32).toInt = 0 := by decide
  have kc1 : (1 : Int32).toInt = 1 := by decide
  have kc2 : (2 : Int32).toInt = 2 := by decide
  obtain ⟨H, hH⟩ : ∃ H : Heap, H = s.heap := ⟨_, rfl⟩
  obtain ⟨locs, hlc⟩ : ∃ L : List Loc, L = [] := ⟨_, rfl⟩
  have hP : va_P D vwCl (tw cs q v_t_tapeSize v_t_textSize v_t_faultKind a_t_tape a_t_text a_g_beyond v_g_size a_g_steps a_h_beyond v_h_size a_h_steps a_r_scratch a_r_now v_r_takes v_r_negative v_r_namePlace v_r_faultKind v_r_faultPlace v_a_size v_a_limit v_a_digits v_a_kind v_a_from v_a_to v_o_size a_o_out v_b_size v_b_limit v_b_digits v_b_kind v_b_from v_b_to a_u_atom a_u_other a_u_hand v_u_marksMade v_u_came v_u_guesses v_u_right v_u_taken a_u_vars a_u_marks a_u_outcomes a_u_indexes v_s_things v_s_looked v_s_lookedTooOften v_s_arraysMade v_s_cellsMade a_s_classes a_s_starts a_s_lengths a_s_cells a_L a_K a_vc a_vd a_si a_sj a_iv a_inn a_ac) H := by rw [hH]; exact hP
  have hS : va_S A s.heap H locs := by rw [hH, hlc]; exact hS
  refine wHL hH hlc ?_
  have b_z9 := iB z9
  refine lv_iload_n hx hb dX2_acceptIf_0 rfl (lv_at hl 1 rfl) ?_
  refine m_if_ne (X := z9.toInt) (tgt := 12) hx hb dX2_acceptIf_1 (by decide) rfl (fun c1 => ?_) (fun c1 => ?_)
  · skip
    refine lv_iconst (v := 1) hx hb dX2_acceptIf_12 (by decide) ?_
    refine lv_goto (tgt := 17) hx hb dX2_acceptIf_13 (by decide) ?_
    subst hAe
    rw [hQ]
    exact W.zret (v := 1) hx hb hr (by decide) (fun t ht hW => ⟨⟨1, _, rfl, ⟨v_r_faultKind, v_r_faultPlace, rfl, by first | assumption | omega | (intros; omega) | decide⟩, by rw [ht]; exact hP, va_K.moved hW.alike hK, hD⟩, hS.F ht⟩) hS.2.2 dX2_acceptIf_17
  · skip
    refine lv_aload_n hx hb dX2_acceptIf_4 rfl (lv_at hl 0 rfl) ?_
    refine lv_iconst (v := 2) hx hb dX2_acceptIf_5 (by decide) ?_
    refine call_i (As := [.int 2]) (rest := []) ⟨hx, hb, hml, hown, hts⟩ (tX2_refuse (l := l) (2 : Int32)) (cwV 1 hts (gV (wr15 _ (List.mem_of_getElem? (i := 20) rfl)) (wr15 _ (List.mem_of_getElem? (i := 21) rfl)) (wr15 _ (List.mem_of_getElem? (i := 22) rfl)) (wr1 _ (List.mem_of_getElem? (i := 23) rfl)) (wr15 _ (List.mem_of_getElem? (i := 23) rfl))) rfl rfl rfl (by decide +kernel) ⟨Nat.le_of_ble_eq_true rfl, Nat.le_of_ble_eq_true rfl⟩) (va_recv hK hP (ci := 1) (q0 := 7) rfl rfl) hK hP hD hE hS hA rfl hl.1 rfl (Nat.le_of_ble_eq_true rfl) dX2_acceptIf_6 ⟨Nat.le_of_ble_eq_true rfl, Nat.le_of_ble_eq_true rfl⟩ (fun r6 w9 H locs hw6 hP hD hS => ?_)
    obtain ⟨v_r_faultKind_6, v_r_faultPlace_6, rfl, hw6_0⟩ := hw6
    have b_v_r_faultKind_6 := iB v_r_faultKind_6
    have b_v_r_faultPlace_6 := iB v_r_faultPlace_6
    have b_r6 := iB r6
    refine m_if_eq (X := r6.toInt) (tgt := 16) hx hb dX2_acceptIf_9 (by decide) rfl (fun c9 => ?_) (fun c9 => ?_)
    · skip
      refine lv_iconst (v := 0) hx hb dX2_acceptIf_16 (by decide) ?_
      subst hAe
      rw [hQ]
      exact W.zret (v := 0) hx hb hr (by decide) (fun t ht hW => ⟨⟨0, _, rfl, ⟨v_r_faultKind_6, v_r_faultPlace_6, rfl, by first | assumption | omega | (intros; omega) | decide⟩, by rw [ht]; exact hP, va_K.moved hW.alike hK, hD⟩, hS.F ht⟩) hS.2.2 dX2_acceptIf_17
    · skip
      refine lv_iconst (v := 1) hx hb dX2_acceptIf_12 (by decide) ?_
      refine lv_goto (tgt := 17) hx hb dX2_acceptIf_13 (by decide) ?_
      subst hAe
      rw [hQ]
      exact W.zret (v := 1) hx hb hr (by decide) (fun t ht hW => ⟨⟨1, _, rfl, ⟨v_r_faultKind_6, v_r_faultPlace_6, rfl, by first | assumption | omega | (intros; omega) | decide⟩, by rw [ht]; exact hP, va_K.moved hW.alike hK, hD⟩, hS.F ht⟩) hS.2.2 dX2_acceptIf_17

def rmX2_canBegin : Room := { frames := 160, cells := 0, slots := 0, locals := 3200 }
set_option maxHeartbeats 4000000 in
set_option maxRecDepth 100000 in
theorem tX2_canBegin {l : Launch} {D : va_G} {K : Nat → Nat → Nat} {cs : Nat → ClassId} {q : Nat → Nat} {v_t_tapeSize v_t_textSize v_t_faultKind v_g_size v_h_size v_r_takes v_r_negative v_r_namePlace v_r_faultKind v_r_faultPlace v_a_size v_a_limit v_a_digits v_a_kind v_a_from v_a_to v_o_size v_b_size v_b_limit v_b_digits v_b_kind v_b_from v_b_to v_u_marksMade v_u_came v_u_guesses v_u_right v_u_taken v_s_things v_s_looked v_s_lookedTooOften v_s_arraysMade v_s_cellsMade : Int32} {a_t_tape a_t_text a_o_out a_u_outcomes a_u_indexes a_s_classes a_s_starts a_s_lengths a_vc : Nat → Int32} {a_g_beyond a_h_beyond a_r_scratch a_r_now a_u_atom a_u_other a_u_hand : Nat} {a_g_steps a_h_steps a_u_vars a_u_marks : Nat → Option Nat} {a_s_cells a_vd a_sj : Nat → Int64} {a_L : List Nat} {a_K a_iv a_inn : Nat → Nat} {a_si a_ac : Nat → Nat → Int32} (p_0 : LI 3100 v_a_size v_a_limit v_a_digits v_a_kind v_a_from v_a_to) : CtI l yX2_canBegin (wG yX2_canBegin cX2_canBegin 1 (some .boolean)) rmX2_canBegin D (twT cs) K [.ref (q 7)] (tw cs q v_t_tapeSize v_t_textSize v_t_faultKind a_t_tape a_t_text a_g_beyond v_g_size a_g_steps a_h_beyond v_h_size a_h_steps a_r_scratch a_r_now v_r_takes v_r_negative v_r_namePlace v_r_faultKind v_r_faultPlace v_a_size v_a_limit v_a_digits v_a_kind v_a_from v_a_to v_o_size a_o_out v_b_size v_b_limit v_b_digits v_b_kind v_b_from v_b_to a_u_atom a_u_other a_u_hand v_u_marksMade v_u_came v_u_guesses v_u_right v_u_taken a_u_vars a_u_marks a_u_outcomes a_u_indexes v_s_things v_s_looked v_s_lookedTooOften v_s_arraysMade v_s_cellsMade a_s_classes a_s_starts a_s_lengths a_s_cells a_L a_K a_vc a_vd a_si a_sj a_iv a_inn a_ac) (fun r w1 => w1 = (tw cs q v_t_tapeSize v_t_textSize v_t_faultKind a_t_tape a_t_text a_g_beyond v_g_size a_g_steps a_h_beyond v_h_size a_h_steps a_r_scratch a_r_now v_r_takes v_r_negative v_r_namePlace v_r_faultKind v_r_faultPlace v_a_size v_a_limit v_a_digits v_a_kind v_a_from v_a_to v_o_size a_o_out v_b_size v_b_limit v_b_digits v_b_kind v_b_from v_b_to a_u_atom a_u_other a_u_hand v_u_marksMade v_u_came v_u_guesses v_u_right v_u_taken a_u_vars a_u_marks a_u_outcomes a_u_indexes v_s_things v_s_looked v_s_lookedTooOften v_s_arraysMade v_s_cellsMade a_s_classes a_s_starts a_s_lengths a_s_cells a_L a_K a_vc a_vd a_si a_sj a_iv a_inn a_ac) ∧ (r.toInt = 0 ∨ r.toInt = 1)) 0 0 := by
  intro sz
  refine Met.ofW (cc := cX2_canBegin) (maxL := 1) (ret := (some .boolean)) (by decide) rfl ?_
  intro p e s m args below meth c s₁ B hml hv
  obtain ⟨rfl, hsz, hP, hK, hD0, hE⟩ := hv
  have hx := B.exec
  have hb := B.bytes
  have hr := B.returns
  have hts := atoms_spec (ws := (wG yX2_canBegin cX2_canBegin 1 (some .boolean))) B.pre
  have hown : s.vm.findClass RX2 = some m.cls := findClass_of_methodNamed B.named
  have hlocks := B.notSynchronized
  subst hsz
  have hD := hD0.self (sz := s.heap.size)
  obtain ⟨A, hAe⟩ : ∃ A : Nat → Prop, A = va_A (tw cs q v_t_tapeSize v_t_textSize v_t_faultKind a_t_tape a_t_text a_g_beyond v_g_size a_g_steps a_h_beyond v_h_size a_h_steps a_r_scratch a_r_now v_r_takes v_r_negative v_r_namePlace v_r_faultKind v_r_faultPlace v_a_size v_a_limit v_a_digits v_a_kind v_a_from v_a_to v_o_size a_o_out v_b_size v_b_limit v_b_digits v_b_kind v_b_from v_b_to a_u_atom a_u_other a_u_hand v_u_marksMade v_u_came v_u_guesses v_u_right v_u_taken a_u_vars a_u_marks a_u_outcomes a_u_indexes v_s_things v_s_looked v_s_lookedTooOften v_s_arraysMade v_s_cellsMade a_s_classes a_s_starts a_s_lengths a_s_cells a_L a_K a_vc a_vd a_si a_sj a_iv a_inn a_ac) s.heap.size := ⟨_, rfl⟩
  rw [← hAe] at hD hE
  have hA : ∀ q : Nat, s.heap.size ≤ q → A q := fun q h => by rw [hAe]; exact Or.inr h
  have hS : va_S A s.heap s.heap [] := va_S.rf
  have hl := lv_entry ([.ref (q 7)]) (n := 1) (Nat.le_of_ble_eq_true rfl)
  rw [lg_entry_eq]
  generalize (lg_sl ([.ref (q 7)]) ++ List.replicate (1 - (lg_sl ([.ref (q 7)])).length) Slot.unset).toArray = ls at hl ⊢
  have hl : lv_has ls 1 [(0, .ref (q 7))] := hl
  refine wq (fun Q hQ => ?_)
  have hinX2 : ∀ w ∈ wsX20, w ∈ (wG yX2_canBegin cX2_canBegin 1 (some .boolean)) := fun w h => List.mem_cons_of_mem _ (inlX2 w h)
  have kc0 : (-1 : Int32).toInt = -1 := by decide
  have kc1 : (0 : Int32).toInt = 0 := by decide
  have kc2 : (1 : Int32).toInt = 1 := by decide
  have k_3_11 := hts (.fieldLink RX2 9 "ArrayTrainer$Parser" "lexer" "LArrayTrainer$Lexer;") (List.mem_cons_of_mem _ (wr3 _ (List.mem_of_getElem? (i := 11) rfl)))
  obtain ⟨H, hH⟩ : ∃ H : Heap, H = s.heap := ⟨_, rfl⟩
  obtain ⟨locs, hlc⟩ : ∃ L : List Loc, L = [] := ⟨_, rfl⟩
  have hP : va_P D vwCl (tw cs q v_t_tapeSize v_t_textSize v_t_faultKind a_t_tape a_t_text a_g_beyond v_g_size a_g_steps a_h_beyond v_h_size a_h_steps a_r_scratch a_r_now v_r_takes v_r_negative v_r_namePlace v_r_faultKind v_r_faultPlace v_a_size v_a_limit v_a_digits v_a_kind v_a_from v_a_to v_o_size a_o_out v_b_size v_b_limit v_b_digits v_b_kind v_b_from v_b_to a_u_atom a_u_other a_u_hand v_u_marksMade v_u_came v_u_guesses v_u_right v_u_taken a_u_vars a_u_marks a_u_outcomes a_u_indexes v_s_things v_s_looked v_s_lookedTooOften v_s_arraysMade v_s_cellsMade a_s_classes a_s_starts a_s_lengths a_s_cells a_L a_K a_vc a_vd a_si a_sj a_iv a_inn a_ac) H := by rw [hH]; exact hP
  have hS : va_S A s.heap H locs := by rw [hH, hlc]; exact hS
  refine wHL hH hlc ?_
  refine lv_aload_n hx hb dX2_canBegin_0 rfl (lv_at hl 0 rfl) ?_
  refine va_get (D := D) (ci := 1) (v := .ref (q 8)) (C := RX2) (T := TX2) (N := 8) hx hb hts hinX2 hown hK hP 7 rfl rfl 0 (by decide) k_3_11 (fun _ h9 => h9) rfl dX2_canBegin_1 ?_
  refine call_i (As := []) (rest := []) ⟨hx, hb, hml, hown, hts⟩ (tX1_variable_qa (l := l)  (by first | assumption | omega | (intros; omega) | decide)) (cwV 0 hts (gV (wr14 _ (List.mem_of_getElem? (i := 3) rfl)) (wr14 _ (List.mem_of_getElem? (i := 4) rfl)) (wr14 _ (List.mem_of_getElem? (i := 5) rfl)) (wr2 _ (List.mem_of_getElem? (i := 2) rfl)) (wr14 _ (List.mem_of_getElem? (i := 6) rfl))) rfl rfl rfl (by decide +kernel) ⟨Nat.le_of_ble_eq_true rfl, Nat.le_of_ble_eq_true rfl⟩) (va_recv hK hP (ci := 0) (q0 := 8) rfl rfl) hK hP hD hE hS hA rfl hl.1 rfl (Nat.le_of_ble_eq_true rfl) dX2_canBegin_4 ⟨Nat.le_of_ble_eq_true rfl, Nat.le_of_ble_eq_true rfl⟩ (fun r4 w9 H locs hw4 hP hD hS => ?_)
  obtain ⟨rfl⟩ := hw4
  have b_r4 := iB r4
  refine lv_iconst (v := (-1)) hx hb dX2_canBegin_7 (by decide) ?_
  refine m_icmp_ne (X := r4.toInt) (Y := (-1)) (tgt := 52) hx hb dX2_canBegin_8 (by decide) rfl (by decide) (fun c8 => ?_) (fun c8 => ?_)
  · skip
    refine lv_iconst (v := 1) hx hb dX2_canBegin_52 (by decide) ?_
    refine lv_goto (tgt := 57) hx hb dX2_canBegin_53 (by decide) ?_
    subst hAe
    rw [hQ]
    exact W.zret (v := 1) hx hb hr (by decide) (fun t ht hW => ⟨⟨1, _, rfl, ⟨rfl, by first | assumption | omega | (intros; omega) | decide⟩, by rw [ht]; exact hP, va_K.moved hW.alike hK, hD⟩, hS.F ht⟩) hS.2.2 dX2_canBegin_57
  · skip
    refine lv_aload_n hx hb dX2_canBegin_11 rfl (lv_at hl 0 rfl) ?_
    refine va_get (D := D) (ci := 1) (v := .ref (q 8)) (C := RX2) (T := TX2) (N := 8) hx hb hts hinX2 hown hK hP 7 rfl rfl 0 (by decide) k_3_11 (fun _ h9 => h9) rfl dX2_canBegin_12 ?_
    refine va_ldcS hx hb hown (ld_2 hE) dX2_canBegin_15 ?_
    refine call_i (As := [.ref (K 0 2)]) (rest := []) ⟨hx, hb, hml, hown, hts⟩ (tX1_isWord_qa (l := l) 2 so_2 (by first | assumption | omega | (intros; omega) | decide)) (cwV 1 hts (gV (wr14 _ (List.mem_of_getElem? (i := 7) rfl)) (wr14 _ (List.mem_of_getElem? (i := 8) rfl)) (wr14 _ (List.mem_of_getElem? (i := 9) rfl)) (wr2 _ (List.mem_of_getElem? (i := 2) rfl)) (wr14 _ (List.mem_of_getElem? (i := 10) rfl))) rfl rfl rfl (by decide +kernel) ⟨Nat.le_of_ble_eq_true rfl, Nat.le_of_ble_eq_true rfl⟩) (va_recv hK hP (ci := 0) (q0 := 8) rfl rfl) hK hP hD hE hS hA rfl hl.1 rfl (Nat.le_of_ble_eq_true rfl) dX2_canBegin_17 ⟨Nat.le_of_ble_eq_true rfl, Nat.le_of_ble_eq_true rfl⟩ (fun r17 w9 H locs hw17 hP hD hS => ?_)
    obtain ⟨rfl, hw17_0⟩ := hw17
    have b_r17 := iB r17
    refine m_if_ne (X := r17.toInt) (tgt := 52) hx hb dX2_canBegin_20 (by decide) rfl (fun c20 => ?_) (fun c20 => ?_)
    · skip
      refine lv_iconst (v := 1) hx hb dX2_canBegin_52 (by decide) ?_
      refine lv_goto (tgt := 57) hx hb dX2_canBegin_53 (by decide) ?_
      subst hAe
      rw [hQ]
      exact W.zret (v := 1) hx hb hr (by decide) (fun t ht hW => ⟨⟨1, _, rfl, ⟨rfl, by first | assumption | omega | (intros; omega) | decide⟩, by rw [ht]; exact hP, va_K.moved hW.alike hK, hD⟩, hS.F ht⟩) hS.2.2 dX2_canBegin_57
    · skip
      refine lv_aload_n hx hb dX2_canBegin_23 rfl (lv_at hl 0 rfl) ?_
      refine va_get (D := D) (ci := 1) (v := .ref (q 8)) (C := RX2) (T := TX2) (N := 8) hx hb hts hinX2 hown hK hP 7 rfl rfl 0 (by decide) k_3_11 (fun _ h9 => h9) rfl dX2_canBegin_24 ?_
      refine va_ldcS hx hb hown (ld_3 hE) dX2_canBegin_27 ?_
      refine call_i (As := [.ref (K 0 3)]) (rest := []) ⟨hx, hb, hml, hown, hts⟩ (tX1_isWord_qa (l := l) 3 so_3 (by first | assumption | omega | (intros; omega) | decide)) (cwV 1 hts (gV (wr14 _ (List.mem_of_getElem? (i := 7) rfl)) (wr14 _ (List.mem_of_getElem? (i := 8) rfl)) (wr14 _ (List.mem_of_getElem? (i := 9) rfl)) (wr2 _ (List.mem_of_getElem? (i := 2) rfl)) (wr14 _ (List.mem_of_getElem? (i := 10) rfl))) rfl rfl rfl (by decide +kernel) ⟨Nat.le_of_ble_eq_true rfl, Nat.le_of_ble_eq_true rfl⟩) (va_recv hK hP (ci := 0) (q0 := 8) rfl rfl) hK hP hD hE hS hA rfl hl.1 rfl (Nat.le_of_ble_eq_true rfl) dX2_canBegin_29 ⟨Nat.le_of_ble_eq_true rfl, Nat.le_of_ble_eq_true rfl⟩ (fun r29 w9 H locs hw29 hP hD hS => ?_)
      obtain ⟨rfl, hw29_0⟩ := hw29
      have b_r29 := iB r29
      refine m_if_ne (X := r29.toInt) (tgt := 52) hx hb dX2_canBegin_32 (by decide) rfl (fun c32 => ?_) (fun c32 => ?_)
      · skip
        refine lv_iconst (v := 1) hx hb dX2_canBegin_52 (by decide) ?_
        refine lv_goto (tgt := 57) hx hb dX2_canBegin_53 (by decide) ?_
        subst hAe
        rw [hQ]
        exact W.zret (v := 1) hx hb hr (by decide) (fun t ht hW => ⟨⟨1, _, rfl, ⟨rfl, by first | assumption | omega | (intros; omega) | decide⟩, by rw [ht]; exact hP, va_K.moved hW.alike hK, hD⟩, hS.F ht⟩) hS.2.2 dX2_canBegin_57
      · skip
        refine lv_aload_n hx hb dX2_canBegin_35 rfl (lv_at hl 0 rfl) ?_
        refine va_get (D := D) (ci := 1) (v := .ref (q 8)) (C := RX2) (T := TX2) (N := 8) hx hb hts hinX2 hown hK hP 7 rfl rfl 0 (by decide) k_3_11 (fun _ h9 => h9) rfl dX2_canBegin_36 ?_
        refine va_ldcS hx hb hown (ld_4 hE) dX2_canBegin_39 ?_
        refine call_i (As := [.ref (K 0 4)]) (rest := []) ⟨hx, hb, hml, hown, hts⟩ (tX1_wordIn_qa (l := l) 4 so_4 (by first | assumption | omega | (intros; omega) | decide)) (cwV 1 hts (gV (wr15 _ (List.mem_of_getElem? (i := 16) rfl)) (wr14 _ (List.mem_of_getElem? (i := 12) rfl)) (wr14 _ (List.mem_of_getElem? (i := 13) rfl)) (wr2 _ (List.mem_of_getElem? (i := 2) rfl)) (wr14 _ (List.mem_of_getElem? (i := 14) rfl))) rfl rfl rfl (by decide +kernel) ⟨Nat.le_of_ble_eq_true rfl, Nat.le_of_ble_eq_true rfl⟩) (va_recv hK hP (ci := 0) (q0 := 8) rfl rfl) hK hP hD hE hS hA rfl hl.1 rfl (Nat.le_of_ble_eq_true rfl) dX2_canBegin_41 ⟨Nat.le_of_ble_eq_true rfl, Nat.le_of_ble_eq_true rfl⟩ (fun r41 w9 H locs hw41 hP hD hS => ?_)
        obtain ⟨rfl, hw41_0, hw41_1⟩ := hw41
        have b_r41 := iB r41
        refine lv_iconst (v := 1) hx hb dX2_canBegin_44 (by decide) ?_
        refine m_iadd (X := r41.toInt) (Y := 1) hx hb dX2_canBegin_45 rfl (by decide) (fun x45 e_x45 g9 => ?_)
        obtain ⟨k_x45, g_x45⟩ := g9
        have b_x45 := iB x45
        try (have q_x45 : x45.toInt = r41.toInt + 1 := (by omega); clear g_x45 k_x45)
        refine call_iSP (As := [.int x45]) (rest := []) ⟨hx, hb, hml, hown, hts⟩ (tX2_leads (l := l) x45) (va_cwS 1 hts (gS (wr15 _ (List.mem_of_getElem? (i := 17) rfl)) (wr15 _ (List.mem_of_getElem? (i := 18) rfl)) (wr1 _ (List.mem_of_getElem? (i := 23) rfl)) (wr15 _ (List.mem_of_getElem? (i := 19) rfl))) rfl rfl rfl (by decide +kernel) ⟨Nat.le_of_ble_eq_true rfl, Nat.le_of_ble_eq_true rfl⟩) (hK.sub [] rfl) hP hD hE hS hA rfl hl.1 rfl (Nat.le_of_ble_eq_true rfl) dX2_canBegin_46 ⟨Nat.le_of_ble_eq_true rfl, Nat.le_of_ble_eq_true rfl⟩ (fun r46 w9 H locs hw46 hP hD hS => ?_)
        obtain ⟨rfl, hw46_0⟩ := hw46
        have b_r46 := iB r46
        refine m_if_eq (X := r46.toInt) (tgt := 56) hx hb dX2_canBegin_49 (by decide) rfl (fun c49 => ?_) (fun c49 => ?_)
        · skip
          refine lv_iconst (v := 0) hx hb dX2_canBegin_56 (by decide) ?_
          subst hAe
          rw [hQ]
          exact W.zret (v := 0) hx hb hr (by decide) (fun t ht hW => ⟨⟨0, _, rfl, ⟨rfl, by first | assumption | omega | (intros; omega) | decide⟩, by rw [ht]; exact hP, va_K.moved hW.alike hK, hD⟩, hS.F ht⟩) hS.2.2 dX2_canBegin_57
        · skip
          refine lv_iconst (v := 1) hx hb dX2_canBegin_52 (by decide) ?_
          refine lv_goto (tgt := 57) hx hb dX2_canBegin_53 (by decide) ?_
          subst hAe
          rw [hQ]
          exact W.zret (v := 1) hx hb hr (by decide) (fun t ht hW => ⟨⟨1, _, rfl, ⟨rfl, by first | assumption | omega | (intros; omega) | decide⟩, by rw [ht]; exact hP, va_K.moved hW.alike hK, hD⟩, hS.F ht⟩) hS.2.2 dX2_canBegin_57

def rmX2_readGuess : Room := { frames := 160, cells := 0, slots := 0, locals := 3200 }
set_option maxHeartbeats 4000000 in
set_option maxRecDepth 100000 in
theorem tX2_readGuess {l : Launch} {D : va_G} {K : Nat → Nat → Nat} {cs : Nat → ClassId} {q : Nat → Nat} {v_t_tapeSize v_t_textSize v_t_faultKind v_g_size v_h_size v_r_takes v_r_negative v_r_namePlace v_r_faultKind v_r_faultPlace v_a_size v_a_limit v_a_digits v_a_kind v_a_from v_a_to v_o_size v_b_size v_b_limit v_b_digits v_b_kind v_b_from v_b_to v_u_marksMade v_u_came v_u_guesses v_u_right v_u_taken v_s_things v_s_looked v_s_lookedTooOften v_s_arraysMade v_s_cellsMade : Int32} {a_t_tape a_t_text a_o_out a_u_outcomes a_u_indexes a_s_classes a_s_starts a_s_lengths a_vc : Nat → Int32} {a_g_beyond a_h_beyond a_r_scratch a_r_now a_u_atom a_u_other a_u_hand : Nat} {a_g_steps a_h_steps a_u_vars a_u_marks : Nat → Option Nat} {a_s_cells a_vd a_sj : Nat → Int64} {a_L : List Nat} {a_K a_iv a_inn : Nat → Nat} {a_si a_ac : Nat → Nat → Int32} (p_0 : LI 3100 v_a_size v_a_limit v_a_digits v_a_kind v_a_from v_a_to) (p_1 : PI a_L a_K a_si a_iv a_inn) (p_2 : aS a_L a_K a_r_now) : CtI l yX2_readGuess (wG yX2_readGuess cX2_readGuess 3 (some .boolean)) rmX2_readGuess D (twT cs) K [.ref (q 7)] (tw cs q v_t_tapeSize v_t_textSize v_t_faultKind a_t_tape a_t_text a_g_beyond v_g_size a_g_steps a_h_beyond v_h_size a_h_steps a_r_scratch a_r_now v_r_takes v_r_negative v_r_namePlace v_r_faultKind v_r_faultPlace v_a_size v_a_limit v_a_digits v_a_kind v_a_from v_a_to v_o_size a_o_out v_b_size v_b_limit v_b_digits v_b_kind v_b_from v_b_to a_u_atom a_u_other a_u_hand v_u_marksMade v_u_came v_u_guesses v_u_right v_u_taken a_u_vars a_u_marks a_u_outcomes a_u_indexes v_s_things v_s_looked v_s_lookedTooOften v_s_arraysMade v_s_cellsMade a_s_classes a_s_starts a_s_lengths a_s_cells a_L a_K a_vc a_vd a_si a_sj a_iv a_inn a_ac) (fun r w1 => ∃ (v_r_faultKind' : Int32) (v_r_faultPlace' : Int32) (v_a_digits' : Int32) (v_a_kind' : Int32) (v_a_from' : Int32) (v_a_to' : Int32) (a_si' : Nat → Nat → Int32), w1 = (tw cs q v_t_tapeSize v_t_textSize v_t_faultKind a_t_tape a_t_text a_g_beyond v_g_size a_g_steps a_h_beyond v_h_size a_h_steps a_r_scratch a_r_now v_r_takes v_r_negative v_r_namePlace v_r_faultKind' v_r_faultPlace' v_a_size v_a_limit v_a_digits' v_a_kind' v_a_from' v_a_to' v_o_size a_o_out v_b_size v_b_limit v_b_digits v_b_kind v_b_from v_b_to a_u_atom a_u_other a_u_hand v_u_marksMade v_u_came v_u_guesses v_u_right v_u_taken a_u_vars a_u_marks a_u_outcomes a_u_indexes v_s_things v_s_looked v_s_lookedTooOften v_s_arraysMade v_s_cellsMade a_s_classes a_s_starts a_s_lengths a_s_cells a_L a_K a_vc a_vd a_si' a_sj a_iv a_inn a_ac) ∧ (LI 3100 v_a_size v_a_limit v_a_digits' v_a_kind' v_a_from' v_a_to') ∧ (PI a_L a_K a_si' a_iv a_inn) ∧ (r.toInt = 0 ∨ r.toInt = 1)) 0 0 := by
  intro sz
  refine Met.ofW (cc := cX2_readGuess) (maxL := 3) (ret := (some .boolean)) (by decide) rfl ?_
  intro p e s m args below meth c s₁ B hml hv
  obtain ⟨rfl, hsz, hP, hK, hD0, hE⟩ := hv
  have hx := B.exec
  have hb := B.bytes
  have hr := B.returns
  have hts := atoms_spec (ws := (wG yX2_readGuess cX2_readGuess 3 (some .boolean))) B.pre
  have hown : s.vm.findClass RX2 = some m.cls := findClass_of_methodNamed B.named
  have hlocks := B.notSynchronized
  subst hsz
  have hD := hD0.self (sz := s.heap.size)
  obtain ⟨A, hAe⟩ : ∃ A : Nat → Prop, A = va_A (tw cs q v_t_tapeSize v_t_textSize v_t_faultKind a_t_tape a_t_text a_g_beyond v_g_size a_g_steps a_h_beyond v_h_size a_h_steps a_r_scratch a_r_now v_r_takes v_r_negative v_r_namePlace v_r_faultKind v_r_faultPlace v_a_size v_a_limit v_a_digits v_a_kind v_a_from v_a_to v_o_size a_o_out v_b_size v_b_limit v_b_digits v_b_kind v_b_from v_b_to a_u_atom a_u_other a_u_hand v_u_marksMade v_u_came v_u_guesses v_u_right v_u_taken a_u_vars a_u_marks a_u_outcomes a_u_indexes v_s_things v_s_looked v_s_lookedTooOften v_s_arraysMade v_s_cellsMade a_s_classes a_s_starts a_s_lengths a_s_cells a_L a_K a_vc a_vd a_si a_sj a_iv a_inn a_ac) s.heap.size := ⟨_, rfl⟩
  rw [← hAe] at hD hE
  have hA : ∀ q : Nat, s.heap.size ≤ q → A q := fun q h => by rw [hAe]; exact Or.inr h
  have hS : va_S A s.heap s.heap [] := va_S.rf
  have hl := lv_entry ([.ref (q 7)]) (n := 3) (Nat.le_of_ble_eq_true rfl)
  rw [lg_entry_eq]
  generalize (lg_sl ([.ref (q 7)]) ++ List.replicate (3 - (lg_sl ([.ref (q 7)])).length) Slot.unset).toArray = ls at hl ⊢
  have hl : lv_has ls 3 [(0, .ref (q 7))] := hl
  refine wq (fun Q hQ => ?_)
  have hinX2 : ∀ w ∈ wsX20, w ∈ (wG yX2_readGuess cX2_readGuess 3 (some .boolean)) := fun w h => List.mem_cons_of_mem _ (inlX2 w h)
  have hinX6 : ∀ w ∈ wsX60, w ∈ (wG yX2_readGuess cX2_readGuess 3 (some .boolean)) := fun w h => List.mem_cons_of_mem _ (inlX6 w h)
  have kc0 : (0 : Int32).toInt = 0 := by decide
  have kc1 : (1 : Int32).toInt = 1 := by decide
  have k_3_11 := hts (.fieldLink RX2 9 "ArrayTrainer$Parser" "lexer" "LArrayTrainer$Lexer;") (List.mem_cons_of_mem _ (wr3 _ (List.mem_of_getElem? (i := 11) rfl)))
  have k_3_14 := hts (.fieldLink RX2 22 "ArrayTrainer$Parser" "now" "LArrayTrainer$Step;") (List.mem_cons_of_mem _ (wr3 _ (List.mem_of_getElem? (i := 14) rfl)))
  have k_17_1 := hts (.fieldLink RX2 125 "ArrayTrainer$Step" "guess" "I") (List.mem_cons_of_mem _ (wr17 _ (List.mem_of_getElem? (i := 1) rfl)))
  obtain ⟨H, hH⟩ : ∃ H : Heap, H = s.heap := ⟨_, rfl⟩
  obtain ⟨locs, hlc⟩ : ∃ L : List Loc, L = [] := ⟨_, rfl⟩
  have hP : va_P D vwCl (tw cs q v_t_tapeSize v_t_textSize v_t_faultKind a_t_tape a_t_text a_g_beyond v_g_size a_g_steps a_h_beyond v_h_size a_h_steps a_r_scratch a_r_now v_r_takes v_r_negative v_r_namePlace v_r_faultKind v_r_faultPlace v_a_size v_a_limit v_a_digits v_a_kind v_a_from v_a_to v_o_size a_o_out v_b_size v_b_limit v_b_digits v_b_kind v_b_from v_b_to a_u_atom a_u_other a_u_hand v_u_marksMade v_u_came v_u_guesses v_u_right v_u_taken a_u_vars a_u_marks a_u_outcomes a_u_indexes v_s_things v_s_looked v_s_lookedTooOften v_s_arraysMade v_s_cellsMade a_s_classes a_s_starts a_s_lengths a_s_cells a_L a_K a_vc a_vd a_si a_sj a_iv a_inn a_ac) H := by rw [hH]; exact hP
  have hS : va_S A s.heap H locs := by rw [hH, hlc]; exact hS
  refine wHL hH hlc ?_
  refine lv_aload_n hx hb dX2_readGuess_0 rfl (lv_at hl 0 rfl) ?_
  refine va_get (D := D) (ci := 1) (v := .ref (q 8)) (C := RX2) (T := TX2) (N := 8) hx hb hts hinX2 hown hK hP 7 rfl rfl 0 (by decide) k_3_11 (fun _ h9 => h9) rfl dX2_readGuess_1 ?_
  refine va_ldcS hx hb hown (ld_2 hE) dX2_readGuess_4 ?_
  refine call_i (As := [.ref (K 0 2)]) (rest := []) ⟨hx, hb, hml, hown, hts⟩ (tX1_isWord_qa (l := l) 2 so_2 (by first | assumption | omega | (intros; omega) | decide)) (cwV 1 hts (gV (wr14 _ (List.mem_of_getElem? (i := 7) rfl)) (wr14 _ (List.mem_of_getElem? (i := 8) rfl)) (wr14 _ (List.mem_of_getElem? (i := 9) rfl)) (wr2 _ (List.mem_of_getElem? (i := 2) rfl)) (wr14 _ (List.mem_of_getElem? (i := 10) rfl))) rfl rfl rfl (by decide +kernel) ⟨Nat.le_of_ble_eq_true rfl, Nat.le_of_ble_eq_true rfl⟩) (va_recv hK hP (ci := 0) (q0 := 8) rfl rfl) hK hP hD hE hS hA rfl hl.1 rfl (Nat.le_of_ble_eq_true rfl) dX2_readGuess_6 ⟨Nat.le_of_ble_eq_true rfl, Nat.le_of_ble_eq_true rfl⟩ (fun r6 w9 H locs hw6 hP hD hS => ?_)
  obtain ⟨rfl, hw6_0⟩ := hw6
  have b_r6 := iB r6
  refine m_if_ne (X := r6.toInt) (tgt := 14) hx hb dX2_readGuess_9 (by decide) rfl (fun c9 => ?_) (fun c9 => ?_)
  · skip
    refine lv_aload_n hx hb dX2_readGuess_14 rfl (lv_at hl 0 rfl) ?_
    refine va_get (D := D) (ci := 1) (v := .ref (q 8)) (C := RX2) (T := TX2) (N := 8) hx hb hts hinX2 hown hK hP 7 rfl rfl 0 (by decide) k_3_11 (fun _ h9 => h9) rfl dX2_readGuess_15 ?_
    refine call_v (As := []) (rest := []) ⟨hx, hb, hml, hown, hts⟩ (tX1_next_qa (l := l)  (by first | assumption | exact LI.z (by assumption))) (cwV 0 hts (gV (wr9 _ (List.mem_of_getElem? (i := 17) rfl)) (wr9 _ (List.mem_of_getElem? (i := 18) rfl)) (wr9 _ (List.mem_of_getElem? (i := 19) rfl)) (wr2 _ (List.mem_of_getElem? (i := 2) rfl)) (wr9 _ (List.mem_of_getElem? (i := 20) rfl))) rfl rfl rfl (by decide +kernel) ⟨Nat.le_of_ble_eq_true rfl, Nat.le_of_ble_eq_true rfl⟩) (va_recv hK hP (ci := 0) (q0 := 8) rfl rfl) hK hP hD hE hS hA rfl hl.1 rfl (Nat.le_of_ble_eq_true rfl) dX2_readGuess_18 ⟨Nat.le_of_ble_eq_true rfl, Nat.le_of_ble_eq_true rfl⟩ (fun w9 H locs hw18 hP hD hS => ?_)
    obtain ⟨v_a_digits_18, v_a_kind_18, v_a_from_18, v_a_to_18, rfl, hw18_0⟩ := hw18
    have b_v_a_digits_18 := iB v_a_digits_18
    have b_v_a_kind_18 := iB v_a_kind_18
    have b_v_a_from_18 := iB v_a_from_18
    have b_v_a_to_18 := iB v_a_to_18
    refine lv_aload_n hx hb dX2_readGuess_21 rfl (lv_at hl 0 rfl) ?_
    refine va_get (D := D) (ci := 1) (v := .ref (q 8)) (C := RX2) (T := TX2) (N := 8) hx hb hts hinX2 hown hK hP 7 rfl rfl 0 (by decide) k_3_11 (fun _ h9 => h9) rfl dX2_readGuess_22 ?_
    refine va_ldcS hx hb hown (ld_5 hE) dX2_readGuess_25 ?_
    refine call_i (As := [.ref (K 0 5)]) (rest := []) ⟨hx, hb, hml, hown, hts⟩ (tX1_isWord_qa (l := l) 5 so_5 (by first | assumption | omega | (intros; omega) | decide)) (cwV 1 hts (gV (wr14 _ (List.mem_of_getElem? (i := 7) rfl)) (wr14 _ (List.mem_of_getElem? (i := 8) rfl)) (wr14 _ (List.mem_of_getElem? (i := 9) rfl)) (wr2 _ (List.mem_of_getElem? (i := 2) rfl)) (wr14 _ (List.mem_of_getElem? (i := 10) rfl))) rfl rfl rfl (by decide +kernel) ⟨Nat.le_of_ble_eq_true rfl, Nat.le_of_ble_eq_true rfl⟩) (va_recv hK hP (ci := 0) (q0 := 8) rfl rfl) hK hP hD hE hS hA rfl hl.1 rfl (Nat.le_of_ble_eq_true rfl) dX2_readGuess_27 ⟨Nat.le_of_ble_eq_true rfl, Nat.le_of_ble_eq_true rfl⟩ (fun r27 w9 H locs hw27 hP hD hS => ?_)
    obtain ⟨rfl, hw27_0⟩ := hw27
    have b_r27 := iB r27
    refine lv_istore_n (lv' := [(1, .int r27), (0, .ref (q 7))]) hx hb dX2_readGuess_30 rfl hl (by decide) rfl (fun ls hl => ?_)
    refine lv_aload_n hx hb dX2_readGuess_31 rfl (lv_at hl 1 rfl) ?_
    refine va_get (D := D) (ci := 1) (v := .ref (q 8)) (C := RX2) (T := TX2) (N := 8) hx hb hts hinX2 hown hK hP 7 rfl rfl 0 (by decide) k_3_11 (fun _ h9 => h9) rfl dX2_readGuess_32 ?_
    refine va_ldcS hx hb hown (ld_6 hE) dX2_readGuess_35 ?_
    refine call_i (As := [.ref (K 0 6)]) (rest := []) ⟨hx, hb, hml, hown, hts⟩ (tX1_wordIn_qa (l := l) 6 so_6 (by first | assumption | omega | (intros; omega) | decide)) (cwV 1 hts (gV (wr15 _ (List.mem_of_getElem? (i := 16) rfl)) (wr14 _ (List.mem_of_getElem? (i := 12) rfl)) (wr14 _ (List.mem_of_getElem? (i := 13) rfl)) (wr2 _ (List.mem_of_getElem? (i := 2) rfl)) (wr14 _ (List.mem_of_getElem? (i := 14) rfl))) rfl rfl rfl (by decide +kernel) ⟨Nat.le_of_ble_eq_true rfl, Nat.le_of_ble_eq_true rfl⟩) (va_recv hK hP (ci := 0) (q0 := 8) rfl rfl) hK hP hD hE hS hA rfl hl.1 rfl (Nat.le_of_ble_eq_true rfl) dX2_readGuess_37 ⟨Nat.le_of_ble_eq_true rfl, Nat.le_of_ble_eq_true rfl⟩ (fun r37 w9 H locs hw37 hP hD hS => ?_)
    obtain ⟨rfl, hw37_0, hw37_1⟩ := hw37
    have b_r37 := iB r37
    refine lv_iconst (v := 1) hx hb dX2_readGuess_40 (by decide) ?_
    refine m_iadd (X := r37.toInt) (Y := 1) hx hb dX2_readGuess_41 rfl (by decide) (fun x41 e_x41 g9 => ?_)
    obtain ⟨k_x41, g_x41⟩ := g9
    have b_x41 := iB x41
    try (have q_x41 : x41.toInt = r37.toInt + 1 := (by omega); clear g_x41 k_x41)
    refine lv_istore_n (lv' := [(2, .int x41), (1, .int r27), (0, .ref (q 7))]) hx hb dX2_readGuess_42 rfl hl (by decide) rfl (fun ls hl => ?_)
    refine lv_aload_n hx hb dX2_readGuess_43 rfl (lv_at hl 2 rfl) ?_
    have hf44 : aS a_L a_K a_r_now := by first | assumption
    refine va_get (D := D) (ci := 1) (v := .ref a_r_now) (C := RX2) (T := TX2) (N := 8) hx hb hts hinX2 hown hK hP 7 rfl rfl 2 (by decide) k_3_14 (fun _ h9 => h9) rfl dX2_readGuess_44 ?_
    refine lv_iload_n hx hb dX2_readGuess_47 rfl (lv_at hl 0 rfl) ?_
    obtain ⟨k48_, hk48_⟩ := pl_S (X := (twX cs q v_t_tapeSize v_t_textSize v_t_faultKind a_t_tape a_t_text a_g_beyond v_g_size a_g_steps a_h_beyond v_h_size a_h_steps a_r_scratch a_r_now v_r_takes v_r_negative v_r_namePlace v_r_faultKind v_r_faultPlace v_a_size v_a_limit v_a_digits_18 v_a_kind_18 v_a_from_18 v_a_to_18 v_o_size a_o_out v_b_size v_b_limit v_b_digits v_b_kind v_b_from v_b_to a_u_atom a_u_other a_u_hand v_u_marksMade v_u_came v_u_guesses v_u_right v_u_taken a_u_vars a_u_marks a_u_outcomes a_u_indexes v_s_things v_s_looked v_s_lookedTooOften v_s_arraysMade v_s_cellsMade a_s_classes a_s_starts a_s_lengths a_s_cells)) (cI := cs 0) (vc := a_vc) (vd := a_vd) (si := a_si) (sj := a_sj) (iv := a_iv) (inn := a_inn) (ac := a_ac) hf44
    have hDk := hD
    refine va_put (D := D) (ci := 5) (v := .int x41) (ty := .int) (C := RX6) (T := TX6) (N := 15) hx hb hts hinX6 tyX6 tyX6_ok nmX6 hown hK hP hD hS k48_ hk48_ rfl 1 (by decide) k_17_1 (fun _ h9 => h9) rfl (by decide +kernel) rfl rfl (Nat.le_of_ble_eq_true rfl) dX2_readGuess_48 (fun H locs hP hD hS => ?_)
    obtain ⟨a_si_48, e_a_si_48⟩ : ∃ g, g = up2 a_si a_r_now 1 x41 := ⟨_, rfl⟩
    have hP : va_P D vwCl (tw cs q v_t_tapeSize v_t_textSize v_t_faultKind a_t_tape a_t_text a_g_beyond v_g_size a_g_steps a_h_beyond v_h_size a_h_steps a_r_scratch a_r_now v_r_takes v_r_negative v_r_namePlace v_r_faultKind v_r_faultPlace v_a_size v_a_limit v_a_digits_18 v_a_kind_18 v_a_from_18 v_a_to_18 v_o_size a_o_out v_b_size v_b_limit v_b_digits v_b_kind v_b_from v_b_to a_u_atom a_u_other a_u_hand v_u_marksMade v_u_came v_u_guesses v_u_right v_u_taken a_u_vars a_u_marks a_u_outcomes a_u_indexes v_s_things v_s_looked v_s_lookedTooOften v_s_arraysMade v_s_cellsMade a_s_classes a_s_starts a_s_lengths a_s_cells a_L a_K a_vc a_vd a_si_48 a_sj a_iv a_inn a_ac) H := by rw [e_a_si_48]; exact vaP_eq (pu_guess_ hDk hf44 hk48_ _) hP
    have hD : va_D A (tw cs q v_t_tapeSize v_t_textSize v_t_faultKind a_t_tape a_t_text a_g_beyond v_g_size a_g_steps a_h_beyond v_h_size a_h_steps a_r_scratch a_r_now v_r_takes v_r_negative v_r_namePlace v_r_faultKind v_r_faultPlace v_a_size v_a_limit v_a_digits_18 v_a_kind_18 v_a_from_18 v_a_to_18 v_o_size a_o_out v_b_size v_b_limit v_b_digits v_b_kind v_b_from v_b_to a_u_atom a_u_other a_u_hand v_u_marksMade v_u_came v_u_guesses v_u_right v_u_taken a_u_vars a_u_marks a_u_outcomes a_u_indexes v_s_things v_s_looked v_s_lookedTooOften v_s_arraysMade v_s_cellsMade a_s_classes a_s_starts a_s_lengths a_s_cells a_L a_K a_vc a_vd a_si_48 a_sj a_iv a_inn a_ac) := by rw [e_a_si_48]; exact vaD_eq (pu_guess_ hDk hf44 hk48_ _) hD
    have hPI : PI a_L a_K a_si_48 a_iv a_inn := by exact PI.up (by assumption) e_a_si_48 (by decide)
    refine lv_aload_n hx hb dX2_readGuess_51 rfl (lv_at hl 2 rfl) ?_
    refine lv_iload_n hx hb dX2_readGuess_52 rfl (lv_at hl 1 rfl) ?_
    refine m_if_ne (X := r27.toInt) (tgt := 60) hx hb dX2_readGuess_53 (by decide) rfl (fun c53 => ?_) (fun c53 => ?_)
    · skip
      refine lv_iconst (v := 1) hx hb dX2_readGuess_60 (by decide) ?_
      refine lv_goto (tgt := 65) hx hb dX2_readGuess_61 (by decide) ?_
      refine call_i (As := [.int 1]) (rest := []) ⟨hx, hb, hml, hown, hts⟩ (tX2_passIf (l := l) (1 : Int32) (by first | assumption | omega | (intros; omega) | decide)) (cwV 1 hts (gV (wr17 _ (List.mem_of_getElem? (i := 2) rfl)) (wr17 _ (List.mem_of_getElem? (i := 3) rfl)) (wr17 _ (List.mem_of_getElem? (i := 4) rfl)) (wr1 _ (List.mem_of_getElem? (i := 23) rfl)) (wr17 _ (List.mem_of_getElem? (i := 5) rfl))) rfl rfl rfl (by decide +kernel) ⟨Nat.le_of_ble_eq_true rfl, Nat.le_of_ble_eq_true rfl⟩) (va_recv hK hP (ci := 1) (q0 := 7) rfl rfl) hK hP hD hE hS hA rfl hl.1 rfl (Nat.le_of_ble_eq_true rfl) dX2_readGuess_65 ⟨Nat.le_of_ble_eq_true rfl, Nat.le_of_ble_eq_true rfl⟩ (fun r65 w9 H locs hw65 hP hD hS => ?_)
      obtain ⟨v_r_faultKind_65, v_r_faultPlace_65, v_a_digits_65, v_a_kind_65, v_a_from_65, v_a_to_65, rfl, hw65_0, hw65_1⟩ := hw65
      have b_v_r_faultKind_65 := iB v_r_faultKind_65
      have b_v_r_faultPlace_65 := iB v_r_faultPlace_65
      have b_v_a_digits_65 := iB v_a_digits_65
      have b_v_a_kind_65 := iB v_a_kind_65
      have b_v_a_from_65 := iB v_a_from_65
      have b_v_a_to_65 := iB v_a_to_65
      have b_r65 := iB r65
      subst hAe
      rw [hQ]
      exact W.zret (v := r65) hx hb hr (nbool (by first | omega | decide)) (fun t ht hW => ⟨⟨r65, _, rfl, ⟨v_r_faultKind_65, v_r_faultPlace_65, v_a_digits_65, v_a_kind_65, v_a_from_65, v_a_to_65, a_si_48, rfl, by first | assumption | omega | (intros; omega) | decide, by first | assumption | omega | (intros; omega) | decide, by first | assumption | omega | (intros; omega) | decide⟩, by rw [ht]; exact hP, va_K.moved hW.alike hK, hD⟩, hS.F ht⟩) hS.2.2 dX2_readGuess_68
    · skip
      refine lv_iload_n hx hb dX2_readGuess_56 rfl (lv_at hl 0 rfl) ?_
      refine m_if_eq (X := x41.toInt) (tgt := 64) hx hb dX2_readGuess_57 (by decide) rfl (fun c57 => ?_) (fun c57 => ?_)
      · skip
        refine lv_iconst (v := 0) hx hb dX2_readGuess_64 (by decide) ?_
        refine call_i (As := [.int 0]) (rest := []) ⟨hx, hb, hml, hown, hts⟩ (tX2_passIf (l := l) (0 : Int32) (by first | assumption | omega | (intros; omega) | decide)) (cwV 1 hts (gV (wr17 _ (List.mem_of_getElem? (i := 2) rfl)) (wr17 _ (List.mem_of_getElem? (i := 3) rfl)) (wr17 _ (List.mem_of_getElem? (i := 4) rfl)) (wr1 _ (List.mem_of_getElem? (i := 23) rfl)) (wr17 _ (List.mem_of_getElem? (i := 5) rfl))) rfl rfl rfl (by decide +kernel) ⟨Nat.le_of_ble_eq_true rfl, Nat.le_of_ble_eq_true rfl⟩) (va_recv hK hP (ci := 1) (q0 := 7) rfl rfl) hK hP hD hE hS hA rfl hl.1 rfl (Nat.le_of_ble_eq_true rfl) dX2_readGuess_65 ⟨Nat.le_of_ble_eq_true rfl, Nat.le_of_ble_eq_true rfl⟩ (fun r65 w9 H locs hw65 hP hD hS => ?_)
        obtain ⟨v_r_faultKind_65, v_r_faultPlace_65, v_a_digits_65, v_a_kind_65, v_a_from_65, v_a_to_65, rfl, hw65_0, hw65_1⟩ := hw65
        have b_v_r_faultKind_65 := iB v_r_faultKind_65
        have b_v_r_faultPlace_65 := iB v_r_faultPlace_65
        have b_v_a_digits_65 := iB v_a_digits_65
        have b_v_a_kind_65 := iB v_a_kind_65
        have b_v_a_from_65 := iB v_a_from_65
        have b_v_a_to_65 := iB v_a_to_65
        have b_r65 := iB r65
        subst hAe
        rw [hQ]
        exact W.zret (v := r65) hx hb hr (nbool (by first | omega | decide)) (fun t ht hW => ⟨⟨r65, _, rfl, ⟨v_r_faultKind_65, v_r_faultPlace_65, v_a_digits_65, v_a_kind_65, v_a_from_65, v_a_to_65, a_si_48, rfl, by first | assumption | omega | (intros; omega) | decide, by first | assumption | omega | (intros; omega) | decide, by first | assumption | omega | (intros; omega) | decide⟩, by rw [ht]; exact hP, va_K.moved hW.alike hK, hD⟩, hS.F ht⟩) hS.2.2 dX2_readGuess_68
      · skip
        refine lv_iconst (v := 1) hx hb dX2_readGuess_60 (by decide) ?_
        refine lv_goto (tgt := 65) hx hb dX2_readGuess_61 (by decide) ?_
        refine call_i (As := [.int 1]) (rest := []) ⟨hx, hb, hml, hown, hts⟩ (tX2_passIf (l := l) (1 : Int32) (by first | assumption | omega | (intros; omega) | decide)) (cwV 1 hts (gV (wr17 _ (List.mem_of_getElem? (i := 2) rfl)) (wr17 _ (List.mem_of_getElem? (i := 3) rfl)) (wr17 _ (List.mem_of_getElem? (i := 4) rfl)) (wr1 _ (List.mem_of_getElem? (i := 23) rfl)) (wr17 _ (List.mem_of_getElem? (i := 5) rfl))) rfl rfl rfl (by decide +kernel) ⟨Nat.le_of_ble_eq_true rfl, Nat.le_of_ble_eq_true rfl⟩) (va_recv hK hP (ci := 1) (q0 := 7) rfl rfl) hK hP hD hE hS hA rfl hl.1 rfl (Nat.le_of_ble_eq_true rfl) dX2_readGuess_65 ⟨Nat.le_of_ble_eq_true rfl, Nat.le_of_ble_eq_true rfl⟩ (fun r65 w9 H locs hw65 hP hD hS => ?_)
        obtain ⟨v_r_faultKind_65, v_r_faultPlace_65, v_a_digits_65, v_a_kind_65, v_a_from_65, v_a_to_65, rfl, hw65_0, hw65_1⟩ := hw65
        have b_v_r_faultKind_65 := iB v_r_faultKind_65
        have b_v_r_faultPlace_65 := iB v_r_faultPlace_65
        have b_v_a_digits_65 := iB v_a_digits_65
        have b_v_a_kind_65 := iB v_a_kind_65
        have b_v_a_from_65 := iB v_a_from_65
        have b_v_a_to_65 := iB v_a_to_65
        have b_r65 := iB r65
        subst hAe
        rw [hQ]
        exact W.zret (v := r65) hx hb hr (nbool (by first | omega | decide)) (fun t ht hW => ⟨⟨r65, _, rfl, ⟨v_r_faultKind_65, v_r_faultPlace_65, v_a_digits_65, v_a_kind_65, v_a_from_65, v_a_to_65, a_si_48, rfl, by first | assumption | omega | (intros; omega) | decide, by first | assumption | omega | (intros; omega) | decide, by first | assumption | omega | (intros; omega) | decide⟩, by rw [ht]; exact hP, va_K.moved hW.alike hK, hD⟩, hS.F ht⟩) hS.2.2 dX2_readGuess_68
  · skip
    refine lv_iconst (v := 1) hx hb dX2_readGuess_12 (by decide) ?_
    subst hAe
    rw [hQ]
    exact W.zret (v := 1) hx hb hr (by decide) (fun t ht hW => ⟨⟨1, _, rfl, ⟨v_r_faultKind, v_r_faultPlace, v_a_digits, v_a_kind, v_a_from, v_a_to, a_si, rfl, by first | assumption | omega | (intros; omega) | decide, by first | assumption | omega | (intros; omega) | decide, by first | assumption | omega | (intros; omega) | decide⟩, by rw [ht]; exact hP, va_K.moved hW.alike hK, hD⟩, hS.F ht⟩) hS.2.2 dX2_readGuess_13

def rmX2_readTake : Room := { frames := 160, cells := 0, slots := 0, locals := 3200 }
set_option maxHeartbeats 4000000 in
set_option maxRecDepth 100000 in
theorem tX2_readTake {l : Launch} {D : va_G} {K : Nat → Nat → Nat} {cs : Nat → ClassId} {q : Nat → Nat} {v_t_tapeSize v_t_textSize v_t_faultKind v_g_size v_h_size v_r_takes v_r_negative v_r_namePlace v_r_faultKind v_r_faultPlace v_a_size v_a_limit v_a_digits v_a_kind v_a_from v_a_to v_o_size v_b_size v_b_limit v_b_digits v_b_kind v_b_from v_b_to v_u_marksMade v_u_came v_u_guesses v_u_right v_u_taken v_s_things v_s_looked v_s_lookedTooOften v_s_arraysMade v_s_cellsMade : Int32} {a_t_tape a_t_text a_o_out a_u_outcomes a_u_indexes a_s_classes a_s_starts a_s_lengths a_vc : Nat → Int32} {a_g_beyond a_h_beyond a_r_scratch a_r_now a_u_atom a_u_other a_u_hand : Nat} {a_g_steps a_h_steps a_u_vars a_u_marks : Nat → Option Nat} {a_s_cells a_vd a_sj : Nat → Int64} {a_L : List Nat} {a_K a_iv a_inn : Nat → Nat} {a_si a_ac : Nat → Nat → Int32} (p_0 : LI 3100 v_a_size v_a_limit v_a_digits v_a_kind v_a_from v_a_to) (p_1 : PI a_L a_K a_si a_iv a_inn) (p_2 : aS a_L a_K a_r_now) : CtI l yX2_readTake (wG yX2_readTake cX2_readTake 1 (some .boolean)) rmX2_readTake D (twT cs) K [.ref (q 7)] (tw cs q v_t_tapeSize v_t_textSize v_t_faultKind a_t_tape a_t_text a_g_beyond v_g_size a_g_steps a_h_beyond v_h_size a_h_steps a_r_scratch a_r_now v_r_takes v_r_negative v_r_namePlace v_r_faultKind v_r_faultPlace v_a_size v_a_limit v_a_digits v_a_kind v_a_from v_a_to v_o_size a_o_out v_b_size v_b_limit v_b_digits v_b_kind v_b_from v_b_to a_u_atom a_u_other a_u_hand v_u_marksMade v_u_came v_u_guesses v_u_right v_u_taken a_u_vars a_u_marks a_u_outcomes a_u_indexes v_s_things v_s_looked v_s_lookedTooOften v_s_arraysMade v_s_cellsMade a_s_classes a_s_starts a_s_lengths a_s_cells a_L a_K a_vc a_vd a_si a_sj a_iv a_inn a_ac) (fun r w1 => ∃ (v_r_takes' : Int32) (v_r_faultKind' : Int32) (v_r_faultPlace' : Int32) (v_a_digits' : Int32) (v_a_kind' : Int32) (v_a_from' : Int32) (v_a_to' : Int32) (a_si' : Nat → Nat → Int32), w1 = (tw cs q v_t_tapeSize v_t_textSize v_t_faultKind a_t_tape a_t_text a_g_beyond v_g_size a_g_steps a_h_beyond v_h_size a_h_steps a_r_scratch a_r_now v_r_takes' v_r_negative v_r_namePlace v_r_faultKind' v_r_faultPlace' v_a_size v_a_limit v_a_digits' v_a_kind' v_a_from' v_a_to' v_o_size a_o_out v_b_size v_b_limit v_b_digits v_b_kind v_b_from v_b_to a_u_atom a_u_other a_u_hand v_u_marksMade v_u_came v_u_guesses v_u_right v_u_taken a_u_vars a_u_marks a_u_outcomes a_u_indexes v_s_things v_s_looked v_s_lookedTooOften v_s_arraysMade v_s_cellsMade a_s_classes a_s_starts a_s_lengths a_s_cells a_L a_K a_vc a_vd a_si' a_sj a_iv a_inn a_ac) ∧ (LI 3100 v_a_size v_a_limit v_a_digits' v_a_kind' v_a_from' v_a_to') ∧ (PI a_L a_K a_si' a_iv a_inn) ∧ (r.toInt = 0 ∨ r.toInt = 1)) 0 0 := by
  intro sz
  refine Met.ofW (cc := cX2_readTake) (maxL := 1) (ret := (some .boolean)) (by decide) rfl ?_
  intro p e s m args below meth c s₁ B hml hv
  obtain ⟨rfl, hsz, hP, hK, hD0, hE⟩ := hv
  have hx := B.exec
  have hb := B.bytes
  have hr := B.returns
  have hts := atoms_spec (ws := (wG yX2_readTake cX2_readTake 1 (some .boolean))) B.pre
  have hown : s.vm.findClass RX2 = some m.cls := findClass_of_methodNamed B.named
  have hlocks := B.notSynchronized
  subst hsz
  have hD := hD0.self (sz := s.heap.size)
  obtain ⟨A, hAe⟩ : ∃ A : Nat → Prop, A = va_A (tw cs q v_t_tapeSize v_t_textSize v_t_faultKind a_t_tape a_t_text a_g_beyond v_g_size a_g_steps a_h_beyond v_h_size a_h_steps a_r_scratch a_r_now v_r_takes v_r_negative v_r_namePlace v_r_faultKind v_r_faultPlace v_a_size v_a_limit v_a_digits v_a_kind v_a_from v_a_to v_o_size a_o_out v_b_size v_b_limit v_b_digits v_b_kind v_b_from v_b_to a_u_atom a_u_other a_u_hand v_u_marksMade v_u_came v_u_guesses v_u_right v_u_taken a_u_vars a_u_marks a_u_outcomes a_u_indexes v_s_things v_s_looked v_s_lookedTooOften v_s_arraysMade v_s_cellsMade a_s_classes a_s_starts a_s_lengths a_s_cells a_L a_K a_vc a_vd a_si a_sj a_iv a_inn a_ac) s.heap.size := ⟨_, rfl⟩
  rw [← hAe] at hD hE
  have hA : ∀ q : Nat, s.heap.size ≤ q → A q := fun q h => by rw [hAe]; exact Or.inr h
  have hS : va_S A s.heap s.heap [] := va_S.rf
  have hl := lv_entry ([.ref (q 7)]) (n := 1) (Nat.le_of_ble_eq_true rfl)
  rw [lg_entry_eq]
  generalize (lg_sl ([.ref (q 7)]) ++ List.replicate (1 - (lg_sl ([.ref (q 7)])).length) Slot.unset).toArray = ls at hl ⊢
  have hl : lv_has ls 1 [(0, .ref (q 7))] := hl
  refine wq (fun Q hQ => ?_)
  have hinX2 : ∀ w ∈ wsX20, w ∈ (wG yX2_readTake cX2_readTake 1 (some .boolean)) := fun w h => List.mem_cons_of_mem _ (inlX2 w h)
  have hinX6 : ∀ w ∈ wsX60, w ∈ (wG yX2_readTake cX2_readTake 1 (some .boolean)) := fun w h => List.mem_cons_of_mem _ (inlX6 w h)
  have kc0 : (0 : Int32).toInt = 0 := by decide
  have kc1 : (1 : Int32).toInt = 1 := by decide
  have kc2 : (4 : Int32).toInt = 4 := by decide
  have kc3 : (8 : Int32).toInt = 8 := by decide
  have k_3_11 := hts (.fieldLink RX2 9 "ArrayTrainer$Parser" "lexer" "LArrayTrainer$Lexer;") (List.mem_cons_of_mem _ (wr3 _ (List.mem_of_getElem? (i := 11) rfl)))
  have k_9_1 := hts (.fieldLink RX2 87 "ArrayTrainer$Parser" "takes" "I") (List.mem_cons_of_mem _ (wr9 _ (List.mem_of_getElem? (i := 1) rfl)))
  have k_3_14 := hts (.fieldLink RX2 22 "ArrayTrainer$Parser" "now" "LArrayTrainer$Step;") (List.mem_cons_of_mem _ (wr3 _ (List.mem_of_getElem? (i := 14) rfl)))
  have k_17_10 := hts (.fieldLink RX2 131 "ArrayTrainer$Step" "take" "I") (List.mem_cons_of_mem _ (wr17 _ (List.mem_of_getElem? (i := 10) rfl)))
  obtain ⟨H, hH⟩ : ∃ H : Heap, H = s.heap := ⟨_, rfl⟩
  obtain ⟨locs, hlc⟩ : ∃ L : List Loc, L = [] := ⟨_, rfl⟩
  have hP : va_P D vwCl (tw cs q v_t_tapeSize v_t_textSize v_t_faultKind a_t_tape a_t_text a_g_beyond v_g_size a_g_steps a_h_beyond v_h_size a_h_steps a_r_scratch a_r_now v_r_takes v_r_negative v_r_namePlace v_r_faultKind v_r_faultPlace v_a_size v_a_limit v_a_digits v_a_kind v_a_from v_a_to v_o_size a_o_out v_b_size v_b_limit v_b_digits v_b_kind v_b_from v_b_to a_u_atom a_u_other a_u_hand v_u_marksMade v_u_came v_u_guesses v_u_right v_u_taken a_u_vars a_u_marks a_u_outcomes a_u_indexes v_s_things v_s_looked v_s_lookedTooOften v_s_arraysMade v_s_cellsMade a_s_classes a_s_starts a_s_lengths a_s_cells a_L a_K a_vc a_vd a_si a_sj a_iv a_inn a_ac) H := by rw [hH]; exact hP
  have hS : va_S A s.heap H locs := by rw [hH, hlc]; exact hS
  refine wHL hH hlc ?_
  refine lv_aload_n hx hb dX2_readTake_0 rfl (lv_at hl 0 rfl) ?_
  refine va_get (D := D) (ci := 1) (v := .ref (q 8)) (C := RX2) (T := TX2) (N := 8) hx hb hts hinX2 hown hK hP 7 rfl rfl 0 (by decide) k_3_11 (fun _ h9 => h9) rfl dX2_readTake_1 ?_
  refine va_ldcS hx hb hown (ld_3 hE) dX2_readTake_4 ?_
  refine call_i (As := [.ref (K 0 3)]) (rest := []) ⟨hx, hb, hml, hown, hts⟩ (tX1_isWord_qa (l := l) 3 so_3 (by first | assumption | omega | (intros; omega) | decide)) (cwV 1 hts (gV (wr14 _ (List.mem_of_getElem? (i := 7) rfl)) (wr14 _ (List.mem_of_getElem? (i := 8) rfl)) (wr14 _ (List.mem_of_getElem? (i := 9) rfl)) (wr2 _ (List.mem_of_getElem? (i := 2) rfl)) (wr14 _ (List.mem_of_getElem? (i := 10) rfl))) rfl rfl rfl (by decide +kernel) ⟨Nat.le_of_ble_eq_true rfl, Nat.le_of_ble_eq_true rfl⟩) (va_recv hK hP (ci := 0) (q0 := 8) rfl rfl) hK hP hD hE hS hA rfl hl.1 rfl (Nat.le_of_ble_eq_true rfl) dX2_readTake_6 ⟨Nat.le_of_ble_eq_true rfl, Nat.le_of_ble_eq_true rfl⟩ (fun r6 w9 H locs hw6 hP hD hS => ?_)
  obtain ⟨rfl, hw6_0⟩ := hw6
  have b_r6 := iB r6
  refine m_if_ne (X := r6.toInt) (tgt := 14) hx hb dX2_readTake_9 (by decide) rfl (fun c9 => ?_) (fun c9 => ?_)
  · skip
    refine lv_aload_n hx hb dX2_readTake_14 rfl (lv_at hl 0 rfl) ?_
    refine va_get (D := D) (ci := 1) (v := .int v_r_takes) (C := RX2) (T := TX2) (N := 8) hx hb hts hinX2 hown hK hP 7 rfl rfl 3 (by decide) k_9_1 (fun _ h9 => h9) rfl dX2_readTake_15 ?_
    refine lv_bipush (v := 8) hx hb dX2_readTake_18 (by decide) ?_
    refine m_icmp_ne (X := v_r_takes.toInt) (Y := 8) (tgt := 29) hx hb dX2_readTake_20 (by decide) rfl (by decide) (fun c20 => ?_) (fun c20 => ?_)
    · skip
      refine lv_aload_n hx hb dX2_readTake_29 rfl (lv_at hl 0 rfl) ?_
      refine lv_dup hx hb dX2_readTake_30 rfl ?_
      refine va_get (D := D) (ci := 1) (v := .int v_r_takes) (C := RX2) (T := TX2) (N := 8) hx hb hts hinX2 hown hK hP 7 rfl rfl 3 (by decide) k_9_1 (fun _ h9 => h9) rfl dX2_readTake_31 ?_
      refine lv_iconst (v := 1) hx hb dX2_readTake_34 (by decide) ?_
      refine m_iadd (X := v_r_takes.toInt) (Y := 1) hx hb dX2_readTake_35 rfl (by decide) (fun x35 e_x35 g9 => ?_)
      obtain ⟨k_x35, g_x35⟩ := g9
      have b_x35 := iB x35
      try (have q_x35 : x35.toInt = v_r_takes.toInt + 1 := (by omega); clear g_x35 k_x35)
      refine va_put (D := D) (ci := 1) (v := .int x35) (ty := .int) (C := RX2) (T := TX2) (N := 8) hx hb hts hinX2 tyX2 tyX2_ok nmX2 hown hK hP hD hS 7 rfl rfl 3 (by decide) k_9_1 (fun _ h9 => h9) rfl (by decide +kernel) rfl rfl (Nat.le_of_ble_eq_true rfl) dX2_readTake_36 (fun H locs hP hD hS => ?_)
      have hP : va_P D vwCl (tw cs q v_t_tapeSize v_t_textSize v_t_faultKind a_t_tape a_t_text a_g_beyond v_g_size a_g_steps a_h_beyond v_h_size a_h_steps a_r_scratch a_r_now x35 v_r_negative v_r_namePlace v_r_faultKind v_r_faultPlace v_a_size v_a_limit v_a_digits v_a_kind v_a_from v_a_to v_o_size a_o_out v_b_size v_b_limit v_b_digits v_b_kind v_b_from v_b_to a_u_atom a_u_other a_u_hand v_u_marksMade v_u_came v_u_guesses v_u_right v_u_taken a_u_vars a_u_marks a_u_outcomes a_u_indexes v_s_things v_s_looked v_s_lookedTooOften v_s_arraysMade v_s_cellsMade a_s_classes a_s_starts a_s_lengths a_s_cells a_L a_K a_vc a_vd a_si a_sj a_iv a_inn a_ac) H := hP
      have hD : va_D A (tw cs q v_t_tapeSize v_t_textSize v_t_faultKind a_t_tape a_t_text a_g_beyond v_g_size a_g_steps a_h_beyond v_h_size a_h_steps a_r_scratch a_r_now x35 v_r_negative v_r_namePlace v_r_faultKind v_r_faultPlace v_a_size v_a_limit v_a_digits v_a_kind v_a_from v_a_to v_o_size a_o_out v_b_size v_b_limit v_b_digits v_b_kind v_b_from v_b_to a_u_atom a_u_other a_u_hand v_u_marksMade v_u_came v_u_guesses v_u_right v_u_taken a_u_vars a_u_marks a_u_outcomes a_u_indexes v_s_things v_s_looked v_s_lookedTooOften v_s_arraysMade v_s_cellsMade a_s_classes a_s_starts a_s_lengths a_s_cells a_L a_K a_vc a_vd a_si a_sj a_iv a_inn a_ac) := hD
      refine lv_aload_n hx hb dX2_readTake_39 rfl (lv_at hl 0 rfl) ?_
      refine va_get (D := D) (ci := 1) (v := .ref (q 8)) (C := RX2) (T := TX2) (N := 8) hx hb hts hinX2 hown hK hP 7 rfl rfl 0 (by decide) k_3_11 (fun _ h9 => h9) rfl dX2_readTake_40 ?_
      refine call_v (As := []) (rest := []) ⟨hx, hb, hml, hown, hts⟩ (tX1_next_qa (l := l)  (by first | assumption | exact LI.z (by assumption))) (cwV 0 hts (gV (wr9 _ (List.mem_of_getElem? (i := 17) rfl)) (wr9 _ (List.mem_of_getElem? (i := 18) rfl)) (wr9 _ (List.mem_of_getElem? (i := 19) rfl)) (wr2 _ (List.mem_of_getElem? (i := 2) rfl)) (wr9 _ (List.mem_of_getElem? (i := 20) rfl))) rfl rfl rfl (by decide +kernel) ⟨Nat.le_of_ble_eq_true rfl, Nat.le_of_ble_eq_true rfl⟩) (va_recv hK hP (ci := 0) (q0 := 8) rfl rfl) hK hP hD hE hS hA rfl hl.1 rfl (Nat.le_of_ble_eq_true rfl) dX2_readTake_43 ⟨Nat.le_of_ble_eq_true rfl, Nat.le_of_ble_eq_true rfl⟩ (fun w9 H locs hw43 hP hD hS => ?_)
      obtain ⟨v_a_digits_43, v_a_kind_43, v_a_from_43, v_a_to_43, rfl, hw43_0⟩ := hw43
      have b_v_a_digits_43 := iB v_a_digits_43
      have b_v_a_kind_43 := iB v_a_kind_43
      have b_v_a_from_43 := iB v_a_from_43
      have b_v_a_to_43 := iB v_a_to_43
      refine lv_aload_n hx hb dX2_readTake_46 rfl (lv_at hl 0 rfl) ?_
      have hf47 : aS a_L a_K a_r_now := by first | assumption
      refine va_get (D := D) (ci := 1) (v := .ref a_r_now) (C := RX2) (T := TX2) (N := 8) hx hb hts hinX2 hown hK hP 7 rfl rfl 2 (by decide) k_3_14 (fun _ h9 => h9) rfl dX2_readTake_47 ?_
      refine lv_aload_n hx hb dX2_readTake_50 rfl (lv_at hl 0 rfl) ?_
      refine va_get (D := D) (ci := 1) (v := .ref (q 8)) (C := RX2) (T := TX2) (N := 8) hx hb hts hinX2 hown hK hP 7 rfl rfl 0 (by decide) k_3_11 (fun _ h9 => h9) rfl dX2_readTake_51 ?_
      refine va_ldcS hx hb hown (ld_6 hE) dX2_readTake_54 ?_
      refine call_i (As := [.ref (K 0 6)]) (rest := [.ref a_r_now]) ⟨hx, hb, hml, hown, hts⟩ (tX1_wordIn_qa (l := l) 6 so_6 (by first | assumption | omega | (intros; omega) | decide)) (cwV 1 hts (gV (wr15 _ (List.mem_of_getElem? (i := 16) rfl)) (wr14 _ (List.mem_of_getElem? (i := 12) rfl)) (wr14 _ (List.mem_of_getElem? (i := 13) rfl)) (wr2 _ (List.mem_of_getElem? (i := 2) rfl)) (wr14 _ (List.mem_of_getElem? (i := 14) rfl))) rfl rfl rfl (by decide +kernel) ⟨Nat.le_of_ble_eq_true rfl, Nat.le_of_ble_eq_true rfl⟩) (va_recv hK hP (ci := 0) (q0 := 8) rfl rfl) hK hP hD hE hS hA rfl hl.1 rfl (Nat.le_of_ble_eq_true rfl) dX2_readTake_56 ⟨Nat.le_of_ble_eq_true rfl, Nat.le_of_ble_eq_true rfl⟩ (fun r56 w9 H locs hw56 hP hD hS => ?_)
      obtain ⟨rfl, hw56_0, hw56_1⟩ := hw56
      have b_r56 := iB r56
      refine lv_iconst (v := 1) hx hb dX2_readTake_59 (by decide) ?_
      refine m_iadd (X := r56.toInt) (Y := 1) hx hb dX2_readTake_60 rfl (by decide) (fun x60 e_x60 g9 => ?_)
      obtain ⟨k_x60, g_x60⟩ := g9
      have b_x60 := iB x60
      try (have q_x60 : x60.toInt = r56.toInt + 1 := (by omega); clear g_x60 k_x60)
      obtain ⟨k61_, hk61_⟩ := pl_S (X := (twX cs q v_t_tapeSize v_t_textSize v_t_faultKind a_t_tape a_t_text a_g_beyond v_g_size a_g_steps a_h_beyond v_h_size a_h_steps a_r_scratch a_r_now x35 v_r_negative v_r_namePlace v_r_faultKind v_r_faultPlace v_a_size v_a_limit v_a_digits_43 v_a_kind_43 v_a_from_43 v_a_to_43 v_o_size a_o_out v_b_size v_b_limit v_b_digits v_b_kind v_b_from v_b_to a_u_atom a_u_other a_u_hand v_u_marksMade v_u_came v_u_guesses v_u_right v_u_taken a_u_vars a_u_marks a_u_outcomes a_u_indexes v_s_things v_s_looked v_s_lookedTooOften v_s_arraysMade v_s_cellsMade a_s_classes a_s_starts a_s_lengths a_s_cells)) (cI := cs 0) (vc := a_vc) (vd := a_vd) (si := a_si) (sj := a_sj) (iv := a_iv) (inn := a_inn) (ac := a_ac) hf47
      have hDk := hD
      refine va_put (D := D) (ci := 5) (v := .int x60) (ty := .int) (C := RX6) (T := TX6) (N := 15) hx hb hts hinX6 tyX6 tyX6_ok nmX6 hown hK hP hD hS k61_ hk61_ rfl 2 (by decide) k_17_10 (fun _ h9 => h9) rfl (by decide +kernel) rfl rfl (Nat.le_of_ble_eq_true rfl) dX2_readTake_61 (fun H locs hP hD hS => ?_)
      obtain ⟨a_si_61, e_a_si_61⟩ : ∃ g, g = up2 a_si a_r_now 2 x60 := ⟨_, rfl⟩
      have hP : va_P D vwCl (tw cs q v_t_tapeSize v_t_textSize v_t_faultKind a_t_tape a_t_text a_g_beyond v_g_size a_g_steps a_h_beyond v_h_size a_h_steps a_r_scratch a_r_now x35 v_r_negative v_r_namePlace v_r_faultKind v_r_faultPlace v_a_size v_a_limit v_a_digits_43 v_a_kind_43 v_a_from_43 v_a_to_43 v_o_size a_o_out v_b_size v_b_limit v_b_digits v_b_kind v_b_from v_b_to a_u_atom a_u_other a_u_hand v_u_marksMade v_u_came v_u_guesses v_u_right v_u_taken a_u_vars a_u_marks a_u_outcomes a_u_indexes v_s_things v_s_looked v_s_lookedTooOften v_s_arraysMade v_s_cellsMade a_s_classes a_s_starts a_s_lengths a_s_cells a_L a_K a_vc a_vd a_si_61 a_sj a_iv a_inn a_ac) H := by rw [e_a_si_61]; exact vaP_eq (pu_take_ hDk hf47 hk61_ _) hP
      have hD : va_D A (tw cs q v_t_tapeSize v_t_textSize v_t_faultKind a_t_tape a_t_text a_g_beyond v_g_size a_g_steps a_h_beyond v_h_size a_h_steps a_r_scratch a_r_now x35 v_r_negative v_r_namePlace v_r_faultKind v_r_faultPlace v_a_size v_a_limit v_a_digits_43 v_a_kind_43 v_a_from_43 v_a_to_43 v_o_size a_o_out v_b_size v_b_limit v_b_digits v_b_kind v_b_from v_b_to a_u_atom a_u_other a_u_hand v_u_marksMade v_u_came v_u_guesses v_u_right v_u_taken a_u_vars a_u_marks a_u_outcomes a_u_indexes v_s_things v_s_looked v_s_lookedTooOften v_s_arraysMade v_s_cellsMade a_s_classes a_s_starts a_s_lengths a_s_cells a_L a_K a_vc a_vd a_si_61 a_sj a_iv a_inn a_ac) := by rw [e_a_si_61]; exact vaD_eq (pu_take_ hDk hf47 hk61_ _) hD
      have hPI : PI a_L a_K a_si_61 a_iv a_inn := by exact PI.up (by assumption) e_a_si_61 (by decide)
      refine lv_aload_n hx hb dX2_readTake_64 rfl (lv_at hl 0 rfl) ?_
      refine lv_aload_n hx hb dX2_readTake_65 rfl (lv_at hl 0 rfl) ?_
      have hf66 : aS a_L a_K a_r_now := by first | assumption
      refine va_get (D := D) (ci := 1) (v := .ref a_r_now) (C := RX2) (T := TX2) (N := 8) hx hb hts hinX2 hown hK hP 7 rfl rfl 2 (by decide) k_3_14 (fun _ h9 => h9) rfl dX2_readTake_66 ?_
      obtain ⟨k69_, hk69_⟩ := pl_S (X := (twX cs q v_t_tapeSize v_t_textSize v_t_faultKind a_t_tape a_t_text a_g_beyond v_g_size a_g_steps a_h_beyond v_h_size a_h_steps a_r_scratch a_r_now x35 v_r_negative v_r_namePlace v_r_faultKind v_r_faultPlace v_a_size v_a_limit v_a_digits_43 v_a_kind_43 v_a_from_43 v_a_to_43 v_o_size a_o_out v_b_size v_b_limit v_b_digits v_b_kind v_b_from v_b_to a_u_atom a_u_other a_u_hand v_u_marksMade v_u_came v_u_guesses v_u_right v_u_taken a_u_vars a_u_marks a_u_outcomes a_u_indexes v_s_things v_s_looked v_s_lookedTooOften v_s_arraysMade v_s_cellsMade a_s_classes a_s_starts a_s_lengths a_s_cells)) (cI := cs 0) (vc := a_vc) (vd := a_vd) (si := a_si_61) (sj := a_sj) (iv := a_iv) (inn := a_inn) (ac := a_ac) hf66
      refine va_get (D := D) (ci := 5) (v := .int (a_si_61 a_r_now 2)) (C := RX6) (T := TX6) (N := 15) hx hb hts hinX6 hown hK hP k69_ hk69_ rfl 2 (by decide) k_17_10 (fun _ h9 => h9) rfl dX2_readTake_69 ?_
      refine lv_topi (fun x69 e_x69 => ?_)
      have b_x69 := iB x69
      refine m_if_eq (X := x69.toInt) (tgt := 79) hx hb dX2_readTake_72 (by decide) rfl (fun c72 => ?_) (fun c72 => ?_)
      · skip
        refine lv_iconst (v := 0) hx hb dX2_readTake_79 (by decide) ?_
        refine call_i (As := [.int 0]) (rest := []) ⟨hx, hb, hml, hown, hts⟩ (tX2_passIf (l := l) (0 : Int32) (by first | assumption | omega | (intros; omega) | decide)) (cwV 1 hts (gV (wr17 _ (List.mem_of_getElem? (i := 2) rfl)) (wr17 _ (List.mem_of_getElem? (i := 3) rfl)) (wr17 _ (List.mem_of_getElem? (i := 4) rfl)) (wr1 _ (List.mem_of_getElem? (i := 23) rfl)) (wr17 _ (List.mem_of_getElem? (i := 5) rfl))) rfl rfl rfl (by decide +kernel) ⟨Nat.le_of_ble_eq_true rfl, Nat.le_of_ble_eq_true rfl⟩) (va_recv hK hP (ci := 1) (q0 := 7) rfl rfl) hK hP hD hE hS hA rfl hl.1 rfl (Nat.le_of_ble_eq_true rfl) dX2_readTake_80 ⟨Nat.le_of_ble_eq_true rfl, Nat.le_of_ble_eq_true rfl⟩ (fun r80 w9 H locs hw80 hP hD hS => ?_)
        obtain ⟨v_r_faultKind_80, v_r_faultPlace_80, v_a_digits_80, v_a_kind_80, v_a_from_80, v_a_to_80, rfl, hw80_0, hw80_1⟩ := hw80
        have b_v_r_faultKind_80 := iB v_r_faultKind_80
        have b_v_r_faultPlace_80 := iB v_r_faultPlace_80
        have b_v_a_digits_80 := iB v_a_digits_80
        have b_v_a_kind_80 := iB v_a_kind_80
        have b_v_a_from_80 := iB v_a_from_80
        have b_v_a_to_80 := iB v_a_to_80
        have b_r80 := iB r80
        subst hAe
        rw [hQ]
        exact W.zret (v := r80) hx hb hr (nbool (by first | omega | decide)) (fun t ht hW => ⟨⟨r80, _, rfl, ⟨x35, v_r_faultKind_80, v_r_faultPlace_80, v_a_digits_80, v_a_kind_80, v_a_from_80, v_a_to_80, a_si_61, rfl, by first | assumption | omega | (intros; omega) | decide, by first | assumption | omega | (intros; omega) | decide, by first | assumption | omega | (intros; omega) | decide⟩, by rw [ht]; exact hP, va_K.moved hW.alike hK, hD⟩, hS.F ht⟩) hS.2.2 dX2_readTake_83
      · skip
        refine lv_iconst (v := 1) hx hb dX2_readTake_75 (by decide) ?_
        refine lv_goto (tgt := 80) hx hb dX2_readTake_76 (by decide) ?_
        refine call_i (As := [.int 1]) (rest := []) ⟨hx, hb, hml, hown, hts⟩ (tX2_passIf (l := l) (1 : Int32) (by first | assumption | omega | (intros; omega) | decide)) (cwV 1 hts (gV (wr17 _ (List.mem_of_getElem? (i := 2) rfl)) (wr17 _ (List.mem_of_getElem? (i := 3) rfl)) (wr17 _ (List.mem_of_getElem? (i := 4) rfl)) (wr1 _ (List.mem_of_getElem? (i := 23) rfl)) (wr17 _ (List.mem_of_getElem? (i := 5) rfl))) rfl rfl rfl (by decide +kernel) ⟨Nat.le_of_ble_eq_true rfl, Nat.le_of_ble_eq_true rfl⟩) (va_recv hK hP (ci := 1) (q0 := 7) rfl rfl) hK hP hD hE hS hA rfl hl.1 rfl (Nat.le_of_ble_eq_true rfl) dX2_readTake_80 ⟨Nat.le_of_ble_eq_true rfl, Nat.le_of_ble_eq_true rfl⟩ (fun r80 w9 H locs hw80 hP hD hS => ?_)
        obtain ⟨v_r_faultKind_80, v_r_faultPlace_80, v_a_digits_80, v_a_kind_80, v_a_from_80, v_a_to_80, rfl, hw80_0, hw80_1⟩ := hw80
        have b_v_r_faultKind_80 := iB v_r_faultKind_80
        have b_v_r_faultPlace_80 := iB v_r_faultPlace_80
        have b_v_a_digits_80 := iB v_a_digits_80
        have b_v_a_kind_80 := iB v_a_kind_80
        have b_v_a_from_80 := iB v_a_from_80
        have b_v_a_to_80 := iB v_a_to_80
        have b_r80 := iB r80
        subst hAe
        rw [hQ]
        exact W.zret (v := r80) hx hb hr (nbool (by first | omega | decide)) (fun t ht hW => ⟨⟨r80, _, rfl, ⟨x35, v_r_faultKind_80, v_r_faultPlace_80, v_a_digits_80, v_a_kind_80, v_a_from_80, v_a_to_80, a_si_61, rfl, by first | assumption | omega | (intros; omega) | decide, by first | assumption | omega | (intros; omega) | decide, by first | assumption | omega | (intros; omega) | decide⟩, by rw [ht]; exact hP, va_K.moved hW.alike hK, hD⟩, hS.F ht⟩) hS.2.2 dX2_readTake_83
    · skip
      refine lv_aload_n hx hb dX2_readTake_23 rfl (lv_at hl 0 rfl) ?_
      refine lv_iconst (v := 4) hx hb dX2_readTake_24 (by decide) ?_
      refine call_i (As := [.int 4]) (rest := []) ⟨hx, hb, hml, hown, hts⟩ (tX2_refuse (l := l) (4 : Int32)) (cwV 1 hts (gV (wr15 _ (List.mem_of_getElem? (i := 20) rfl)) (wr15 _ (List.mem_of_getElem? (i := 21) rfl)) (wr15 _ (List.mem_of_getElem? (i := 22) rfl)) (wr1 _ (List.mem_of_getElem? (i := 23) rfl)) (wr15 _ (List.mem_of_getElem? (i := 23) rfl))) rfl rfl rfl (by decide +kernel) ⟨Nat.le_of_ble_eq_true rfl, Nat.le_of_ble_eq_true rfl⟩) (va_recv hK hP (ci := 1) (q0 := 7) rfl rfl) hK hP hD hE hS hA rfl hl.1 rfl (Nat.le_of_ble_eq_true rfl) dX2_readTake_25 ⟨Nat.le_of_ble_eq_true rfl, Nat.le_of_ble_eq_true rfl⟩ (fun r25 w9 H locs hw25 hP hD hS => ?_)
      obtain ⟨v_r_faultKind_25, v_r_faultPlace_25, rfl, hw25_0⟩ := hw25
      have b_v_r_faultKind_25 := iB v_r_faultKind_25
      have b_v_r_faultPlace_25 := iB v_r_faultPlace_25
      have b_r25 := iB r25
      subst hAe
      rw [hQ]
      exact W.zret (v := r25) hx hb hr (nbool (by first | omega | decide)) (fun t ht hW => ⟨⟨r25, _, rfl, ⟨v_r_takes, v_r_faultKind_25, v_r_faultPlace_25, v_a_digits, v_a_kind, v_a_from, v_a_to, a_si, rfl, by first | assumption | omega | (intros; omega) | decide, by first | assumption | omega | (intros; omega) | decide, by first | assumption | omega | (intros; omega) | decide⟩, by rw [ht]; exact hP, va_K.moved hW.alike hK, hD⟩, hS.F ht⟩) hS.2.2 dX2_readTake_28
  · skip
    refine lv_iconst (v := 1) hx hb dX2_readTake_12 (by decide) ?_
    subst hAe
    rw [hQ]
    exact W.zret (v := 1) hx hb hr (by decide) (fun t ht hW => ⟨⟨1, _, rfl, ⟨v_r_takes, v_r_faultKind, v_r_faultPlace, v_a_digits, v_a_kind, v_a_from, v_a_to, a_si, rfl, by first | assumption | omega | (intros; omega) | decide, by first | assumption | omega | (intros; omega) | decide, by first | assumption | omega | (intros; omega) | decide⟩, by rw [ht]; exact hP, va_K.moved hW.alike hK, hD⟩, hS.F ht⟩) hS.2.2 dX2_readTake_13

def rmX2_readHeadBehindEquals : Room := { frames := 140, cells := 0, slots := 0, locals := 2800 }
set_option maxHeartbeats 4000000 in
set_option maxRecDepth 100000 in
theorem tX2_readHeadBehindEquals {l : Launch} {D : va_G} {K : Nat → Nat → Nat} {cs : Nat → ClassId} {q : Nat → Nat} {v_t_tapeSize v_t_textSize v_t_faultKind v_g_size v_h_size v_r_takes v_r_negative v_r_namePlace v_r_faultKind v_r_faultPlace v_a_size v_a_limit v_a_digits v_a_kind v_a_from v_a_to v_o_size v_b_size v_b_limit v_b_digits v_b_kind v_b_from v_b_to v_u_marksMade v_u_came v_u_guesses v_u_right v_u_taken v_s_things v_s_looked v_s_lookedTooOften v_s_arraysMade v_s_cellsMade : Int32} {a_t_tape a_t_text a_o_out a_u_outcomes a_u_indexes a_s_classes a_s_starts a_s_lengths a_vc : Nat → Int32} {a_g_beyond a_h_beyond a_r_scratch a_r_now a_u_atom a_u_other a_u_hand : Nat} {a_g_steps a_h_steps a_u_vars a_u_marks : Nat → Option Nat} {a_s_cells a_vd a_sj : Nat → Int64} {a_L : List Nat} {a_K a_iv a_inn : Nat → Nat} {a_si a_ac : Nat → Nat → Int32} (p_0 : LI 3100 v_a_size v_a_limit v_a_digits v_a_kind v_a_from v_a_to) (p_1 : PI a_L a_K a_si a_iv a_inn) (p_2 : aS a_L a_K a_r_now) : CtV l yX2_readHeadBehindEquals (wG yX2_readHeadBehindEquals cX2_readHeadBehindEquals 3 none) rmX2_readHeadBehindEquals D (twT cs) K [.ref (q 7)] (tw cs q v_t_tapeSize v_t_textSize v_t_faultKind a_t_tape a_t_text a_g_beyond v_g_size a_g_steps a_h_beyond v_h_size a_h_steps a_r_scratch a_r_now v_r_takes v_r_negative v_r_namePlace v_r_faultKind v_r_faultPlace v_a_size v_a_limit v_a_digits v_a_kind v_a_from v_a_to v_o_size a_o_out v_b_size v_b_limit v_b_digits v_b_kind v_b_from v_b_to a_u_atom a_u_other a_u_hand v_u_marksMade v_u_came v_u_guesses v_u_right v_u_taken a_u_vars a_u_marks a_u_outcomes a_u_indexes v_s_things v_s_looked v_s_lookedTooOften v_s_arraysMade v_s_cellsMade a_s_classes a_s_starts a_s_lengths a_s_cells a_L a_K a_vc a_vd a_si a_sj a_iv a_inn a_ac) (fun w1 => ∃ (v_a_digits' : Int32) (v_a_kind' : Int32) (v_a_from' : Int32) (v_a_to' : Int32) (a_si' : Nat → Nat → Int32), w1 = (tw cs q v_t_tapeSize v_t_textSize v_t_faultKind a_t_tape a_t_text a_g_beyond v_g_size a_g_steps a_h_beyond v_h_size a_h_steps a_r_scratch a_r_now v_r_takes v_r_negative v_r_namePlace v_r_faultKind v_r_faultPlace v_a_size v_a_limit v_a_digits' v_a_kind' v_a_from' v_a_to' v_o_size a_o_out v_b_size v_b_limit v_b_digits v_b_kind v_b_from v_b_to a_u_atom a_u_other a_u_hand v_u_marksMade v_u_came v_u_guesses v_u_right v_u_taken a_u_vars a_u_marks a_u_outcomes a_u_indexes v_s_things v_s_looked v_s_lookedTooOften v_s_arraysMade v_s_cellsMade a_s_classes a_s_starts a_s_lengths a_s_cells a_L a_K a_vc a_vd a_si' a_sj a_iv a_inn a_ac) ∧ (LI 3100 v_a_size v_a_limit v_a_digits' v_a_kind' v_a_from' v_a_to') ∧ (PI a_L a_K a_si' a_iv a_inn)) 0 0 := by
  intro sz
  refine Met.ofW (cc := cX2_readHeadBehindEquals) (maxL := 3) (ret := none) (by decide) rfl ?_
  intro p e s m args below meth c s₁ B hml hv
  obtain ⟨rfl, hsz, hP, hK, hD0, hE⟩ := hv
  have hx := B.exec
  have hb := B.bytes
  have hr := B.returns
  have hts := atoms_spec (ws := (wG yX2_readHeadBehindEquals cX2_readHeadBehindEquals 3 none)) B.pre
  have hown : s.vm.findClass RX2 = some m.cls := findClass_of_methodNamed B.named
  have hlocks := B.notSynchronized
  subst hsz
  have hD := hD0.self (sz := s.heap.size)
  obtain ⟨A, hAe⟩ : ∃ A : Nat → Prop, A = va_A (tw cs q v_t_tapeSize v_t_textSize v_t_faultKind a_t_tape a_t_text a_g_beyond v_g_size a_g_steps a_h_beyond v_h_size a_h_steps a_r_scratch a_r_now v_r_takes v_r_negative v_r_namePlace v_r_faultKind v_r_faultPlace v_a_size v_a_limit v_a_digits v_a_kind v_a_from v_a_to v_o_size a_o_out v_b_size v_b_limit v_b_digits v_b_kind v_b_from v_b_to a_u_atom a_u_other a_u_hand v_u_marksMade v_u_came v_u_guesses v_u_right v_u_taken a_u_vars a_u_marks a_u_outcomes a_u_indexes v_s_things v_s_looked v_s_lookedTooOften v_s_arraysMade v_s_cellsMade a_s_classes a_s_starts a_s_lengths a_s_cells a_L a_K a_vc a_vd a_si a_sj a_iv a_inn a_ac) s.heap.size := ⟨_, rfl⟩
  rw [← hAe] at hD hE
  have hA : ∀ q : Nat, s.heap.size ≤ q → A q := fun q h => by rw [hAe]; exact Or.inr h
  have hS : va_S A s.heap s.heap [] := va_S.rf
  have hl := lv_entry ([.ref (q 7)]) (n := 3) (Nat.le_of_ble_eq_true rfl)
  rw [lg_entry_eq]
  generalize (lg_sl ([.ref (q 7)]) ++ List.replicate (3 - (lg_sl ([.ref (q 7)])).length) Slot.unset).toArray = ls at hl ⊢
  have hl : lv_has ls 3 [(0, .ref (q 7))] := hl
  refine wq (fun Q hQ => ?_)
  have hinX2 : ∀ w ∈ wsX20, w ∈ (wG yX2_readHeadBehindEquals cX2_readHeadBehindEquals 3 none) := fun w h => List.mem_cons_of_mem _ (inlX2 w h)
  have hinX6 : ∀ w ∈ wsX60, w ∈ (wG yX2_readHeadBehindEquals cX2_readHeadBehindEquals 3 none) := fun w h => List.mem_cons_of_mem _ (inlX6 w h)
  have kc0 : (-1 : Int32).toInt = -1 := by decide
  have kc1 : (1 : Int32).toInt = 1 := by decide
  have kc2 : (2 : Int32).toInt = 2 := by decide
  have kc3 : (91 : Int32).toInt = 91 := by decide
  have k_3_11 := hts (.fieldLink RX2 9 "ArrayTrainer$Parser" "lexer" "LArrayTrainer$Lexer;") (List.mem_cons_of_mem _ (wr3 _ (List.mem_of_getElem? (i := 11) rfl)))
  have k_3_14 := hts (.fieldLink RX2 22 "ArrayTrainer$Parser" "now" "LArrayTrainer$Step;") (List.mem_cons_of_mem _ (wr3 _ (List.mem_of_getElem? (i := 14) rfl)))
  have k_17_15 := hts (.fieldLink RX2 133 "ArrayTrainer$Step" "act" "I") (List.mem_cons_of_mem _ (wr17 _ (List.mem_of_getElem? (i := 15) rfl)))
  have k_18_2 := hts (.fieldLink RX2 152 "ArrayTrainer$Step" "atomVar" "I") (List.mem_cons_of_mem _ (wr18 _ (List.mem_of_getElem? (i := 2) rfl)))
  have k_17_16 := hts (.fieldLink RX2 140 "ArrayTrainer$Step" "first" "I") (List.mem_cons_of_mem _ (wr17 _ (List.mem_of_getElem? (i := 16) rfl)))
  obtain ⟨H, hH⟩ : ∃ H : Heap, H = s.heap := ⟨_, rfl⟩
  obtain ⟨locs, hlc⟩ : ∃ L : List Loc, L = [] := ⟨_, rfl⟩
  have hP : va_P D vwCl (tw cs q v_t_tapeSize v_t_textSize v_t_faultKind a_t_tape a_t_text a_g_beyond v_g_size a_g_steps a_h_beyond v_h_size a_h_steps a_r_scratch a_r_now v_r_takes v_r_negative v_r_namePlace v_r_faultKind v_r_faultPlace v_a_size v_a_limit v_a_digits v_a_kind v_a_from v_a_to v_o_size a_o_out v_b_size v_b_limit v_b_digits v_b_kind v_b_from v_b_to a_u_atom a_u_other a_u_hand v_u_marksMade v_u_came v_u_guesses v_u_right v_u_taken a_u_vars a_u_marks a_u_outcomes a_u_indexes v_s_things v_s_looked v_s_lookedTooOften v_s_arraysMade v_s_cellsMade a_s_classes a_s_starts a_s_lengths a_s_cells a_L a_K a_vc a_vd a_si a_sj a_iv a_inn a_ac) H := by rw [hH]; exact hP
  have hS : va_S A s.heap H locs := by rw [hH, hlc]; exact hS
  refine wHL hH hlc ?_
  refine lv_aload_n hx hb dX2_readHeadBehindEquals_0 rfl (lv_at hl 0 rfl) ?_
  refine va_get (D := D) (ci := 1) (v := .ref (q 8)) (C := RX2) (T := TX2) (N := 8) hx hb hts hinX2 hown hK hP 7 rfl rfl 0 (by decide) k_3_11 (fun _ h9 => h9) rfl dX2_readHeadBehindEquals_1 ?_
  refine va_ldcS hx hb hown (ld_4 hE) dX2_readHeadBehindEquals_4 ?_
  refine call_i (As := [.ref (K 0 4)]) (rest := []) ⟨hx, hb, hml, hown, hts⟩ (tX1_wordIn_qa (l := l) 4 so_4 (by first | assumption | omega | (intros; omega) | decide)) (cwV 1 hts (gV (wr15 _ (List.mem_of_getElem? (i := 16) rfl)) (wr14 _ (List.mem_of_getElem? (i := 12) rfl)) (wr14 _ (List.mem_of_getElem? (i := 13) rfl)) (wr2 _ (List.mem_of_getElem? (i := 2) rfl)) (wr14 _ (List.mem_of_getElem? (i := 14) rfl))) rfl rfl rfl (by decide +kernel) ⟨Nat.le_of_ble_eq_true rfl, Nat.le_of_ble_eq_true rfl⟩) (va_recv hK hP (ci := 0) (q0 := 8) rfl rfl) hK hP hD hE hS hA rfl hl.1 rfl (Nat.le_of_ble_eq_true rfl) dX2_readHeadBehindEquals_6 ⟨Nat.le_of_ble_eq_true rfl, Nat.le_of_ble_eq_true rfl⟩ (fun r6 w9 H locs hw6 hP hD hS => ?_)
  obtain ⟨rfl, hw6_0, hw6_1⟩ := hw6
  have b_r6 := iB r6
  refine lv_iconst (v := 1) hx hb dX2_readHeadBehindEquals_9 (by decide) ?_
  refine m_iadd (X := r6.toInt) (Y := 1) hx hb dX2_readHeadBehindEquals_10 rfl (by decide) (fun x10 e_x10 g9 => ?_)
  obtain ⟨k_x10, g_x10⟩ := g9
  have b_x10 := iB x10
  try (have q_x10 : x10.toInt = r6.toInt + 1 := (by omega); clear g_x10 k_x10)
  refine lv_istore_n (lv' := [(1, .int x10), (0, .ref (q 7))]) hx hb dX2_readHeadBehindEquals_11 rfl hl (by decide) rfl (fun ls hl => ?_)
  refine lv_iload_n hx hb dX2_readHeadBehindEquals_12 rfl (lv_at hl 0 rfl) ?_
  refine call_iSP (As := [.int x10]) (rest := []) ⟨hx, hb, hml, hown, hts⟩ (tX2_comesBehindEquals (l := l) x10) (va_cwS 1 hts (gS (wr18 _ (List.mem_of_getElem? (i := 3) rfl)) (wr18 _ (List.mem_of_getElem? (i := 4) rfl)) (wr1 _ (List.mem_of_getElem? (i := 23) rfl)) (wr18 _ (List.mem_of_getElem? (i := 5) rfl))) rfl rfl rfl (by decide +kernel) ⟨Nat.le_of_ble_eq_true rfl, Nat.le_of_ble_eq_true rfl⟩) (hK.sub [] rfl) hP hD hE hS hA rfl hl.1 rfl (Nat.le_of_ble_eq_true rfl) dX2_readHeadBehindEquals_13 ⟨Nat.le_of_ble_eq_true rfl, Nat.le_of_ble_eq_true rfl⟩ (fun r13 w9 H locs hw13 hP hD hS => ?_)
  obtain ⟨rfl, hw13_0⟩ := hw13
  have b_r13 := iB r13
  refine m_if_eq (X := r13.toInt) (tgt := 35) hx hb dX2_readHeadBehindEquals_16 (by decide) rfl (fun c16 => ?_) (fun c16 => ?_)
  · skip
    refine lv_aload_n hx hb dX2_readHeadBehindEquals_35 rfl (lv_at hl 1 rfl) ?_
    have hf36 : aS a_L a_K a_r_now := by first | assumption
    refine va_get (D := D) (ci := 1) (v := .ref a_r_now) (C := RX2) (T := TX2) (N := 8) hx hb hts hinX2 hown hK hP 7 rfl rfl 2 (by decide) k_3_14 (fun _ h9 => h9) rfl dX2_readHeadBehindEquals_36 ?_
    refine lv_iconst (v := 1) hx hb dX2_readHeadBehindEquals_39 (by decide) ?_
    obtain ⟨k40_, hk40_⟩ := pl_S (X := (twX cs q v_t_tapeSize v_t_textSize v_t_faultKind a_t_tape a_t_text a_g_beyond v_g_size a_g_steps a_h_beyond v_h_size a_h_steps a_r_scratch a_r_now v_r_takes v_r_negative v_r_namePlace v_r_faultKind v_r_faultPlace v_a_size v_a_limit v_a_digits v_a_kind v_a_from v_a_to v_o_size a_o_out v_b_size v_b_limit v_b_digits v_b_kind v_b_from v_b_to a_u_atom a_u_other a_u_hand v_u_marksMade v_u_came v_u_guesses v_u_right v_u_taken a_u_vars a_u_marks a_u_outcomes a_u_indexes v_s_things v_s_looked v_s_lookedTooOften v_s_arraysMade v_s_cellsMade a_s_classes a_s_starts a_s_lengths a_s_cells)) (cI := cs 0) (vc := a_vc) (vd := a_vd) (si := a_si) (sj := a_sj) (iv := a_iv) (inn := a_inn) (ac := a_ac) hf36
    have hDk := hD
    refine va_put (D := D) (ci := 5) (v := .int 1) (ty := .int) (C := RX6) (T := TX6) (N := 15) hx hb hts hinX6 tyX6 tyX6_ok nmX6 hown hK hP hD hS k40_ hk40_ rfl 0 (by decide) k_17_15 (fun _ h9 => h9) rfl (by decide +kernel) rfl rfl (Nat.le_of_ble_eq_true rfl) dX2_readHeadBehindEquals_40 (fun H locs hP hD hS => ?_)
    obtain ⟨a_si_40, e_a_si_40⟩ : ∃ g, g = up2 a_si a_r_now 0 (1 : Int32) := ⟨_, rfl⟩
    have hP : va_P D vwCl (tw cs q v_t_tapeSize v_t_textSize v_t_faultKind a_t_tape a_t_text a_g_beyond v_g_size a_g_steps a_h_beyond v_h_size a_h_steps a_r_scratch a_r_now v_r_takes v_r_negative v_r_namePlace v_r_faultKind v_r_faultPlace v_a_size v_a_limit v_a_digits v_a_kind v_a_from v_a_to v_o_size a_o_out v_b_size v_b_limit v_b_digits v_b_kind v_b_from v_b_to a_u_atom a_u_other a_u_hand v_u_marksMade v_u_came v_u_guesses v_u_right v_u_taken a_u_vars a_u_marks a_u_outcomes a_u_indexes v_s_things v_s_looked v_s_lookedTooOften v_s_arraysMade v_s_cellsMade a_s_classes a_s_starts a_s_lengths a_s_cells a_L a_K a_vc a_vd a_si_40 a_sj a_iv a_inn a_ac) H := by rw [e_a_si_40]; exact vaP_eq (pu_act_ hDk hf36 hk40_ _) hP
    have hD : va_D A (tw cs q v_t_tapeSize v_t_textSize v_t_faultKind a_t_tape a_t_text a_g_beyond v_g_size a_g_steps a_h_beyond v_h_size a_h_steps a_r_scratch a_r_now v_r_takes v_r_negative v_r_namePlace v_r_faultKind v_r_faultPlace v_a_size v_a_limit v_a_digits v_a_kind v_a_from v_a_to v_o_size a_o_out v_b_size v_b_limit v_b_digits v_b_kind v_b_from v_b_to a_u_atom a_u_other a_u_hand v_u_marksMade v_u_came v_u_guesses v_u_right v_u_taken a_u_vars a_u_marks a_u_outcomes a_u_indexes v_s_things v_s_looked v_s_lookedTooOften v_s_arraysMade v_s_cellsMade a_s_classes a_s_starts a_s_lengths a_s_cells a_L a_K a_vc a_vd a_si_40 a_sj a_iv a_inn a_ac) := by rw [e_a_si_40]; exact vaD_eq (pu_act_ hDk hf36 hk40_ _) hD
    have hPI : PI a_L a_K a_si_40 a_iv a_inn := by exact PI.up (by assumption) e_a_si_40 (by decide)
    refine lv_aload_n hx hb dX2_readHeadBehindEquals_43 rfl (lv_at hl 1 rfl) ?_
    refine va_get (D := D) (ci := 1) (v := .ref (q 8)) (C := RX2) (T := TX2) (N := 8) hx hb hts hinX2 hown hK hP 7 rfl rfl 0 (by decide) k_3_11 (fun _ h9 => h9) rfl dX2_readHeadBehindEquals_44 ?_
    refine call_i (As := []) (rest := []) ⟨hx, hb, hml, hown, hts⟩ (tX1_variable_qa (l := l)  (by first | assumption | omega | (intros; omega) | decide)) (cwV 0 hts (gV (wr14 _ (List.mem_of_getElem? (i := 3) rfl)) (wr14 _ (List.mem_of_getElem? (i := 4) rfl)) (wr14 _ (List.mem_of_getElem? (i := 5) rfl)) (wr2 _ (List.mem_of_getElem? (i := 2) rfl)) (wr14 _ (List.mem_of_getElem? (i := 6) rfl))) rfl rfl rfl (by decide +kernel) ⟨Nat.le_of_ble_eq_true rfl, Nat.le_of_ble_eq_true rfl⟩) (va_recv hK hP (ci := 0) (q0 := 8) rfl rfl) hK hP hD hE hS hA rfl hl.1 rfl (Nat.le_of_ble_eq_true rfl) dX2_readHeadBehindEquals_47 ⟨Nat.le_of_ble_eq_true rfl, Nat.le_of_ble_eq_true rfl⟩ (fun r47 w9 H locs hw47 hP hD hS => ?_)
    obtain ⟨rfl⟩ := hw47
    have b_r47 := iB r47
    refine lv_istore_n (lv' := [(2, .int r47), (1, .int x10), (0, .ref (q 7))]) hx hb dX2_readHeadBehindEquals_50 rfl hl (by decide) rfl (fun ls hl => ?_)
    refine lv_iload_n hx hb dX2_readHeadBehindEquals_51 rfl (lv_at hl 0 rfl) ?_
    refine lv_iconst (v := (-1)) hx hb dX2_readHeadBehindEquals_52 (by decide) ?_
    refine m_icmp_ne (X := r47.toInt) (Y := (-1)) (tgt := 57) hx hb dX2_readHeadBehindEquals_53 (by decide) rfl (by decide) (fun c53 => ?_) (fun c53 => ?_)
    · skip
      refine lv_aload_n hx hb dX2_readHeadBehindEquals_57 rfl (lv_at hl 2 rfl) ?_
      refine va_get (D := D) (ci := 1) (v := .ref (q 8)) (C := RX2) (T := TX2) (N := 8) hx hb hts hinX2 hown hK hP 7 rfl rfl 0 (by decide) k_3_11 (fun _ h9 => h9) rfl dX2_readHeadBehindEquals_58 ?_
      refine call_v (As := []) (rest := []) ⟨hx, hb, hml, hown, hts⟩ (tX1_next_qa (l := l)  (by first | assumption | exact LI.z (by assumption))) (cwV 0 hts (gV (wr9 _ (List.mem_of_getElem? (i := 17) rfl)) (wr9 _ (List.mem_of_getElem? (i := 18) rfl)) (wr9 _ (List.mem_of_getElem? (i := 19) rfl)) (wr2 _ (List.mem_of_getElem? (i := 2) rfl)) (wr9 _ (List.mem_of_getElem? (i := 20) rfl))) rfl rfl rfl (by decide +kernel) ⟨Nat.le_of_ble_eq_true rfl, Nat.le_of_ble_eq_true rfl⟩) (va_recv hK hP (ci := 0) (q0 := 8) rfl rfl) hK hP hD hE hS hA rfl hl.1 rfl (Nat.le_of_ble_eq_true rfl) dX2_readHeadBehindEquals_61 ⟨Nat.le_of_ble_eq_true rfl, Nat.le_of_ble_eq_true rfl⟩ (fun w9 H locs hw61 hP hD hS => ?_)
      obtain ⟨v_a_digits_61, v_a_kind_61, v_a_from_61, v_a_to_61, rfl, hw61_0⟩ := hw61
      have b_v_a_digits_61 := iB v_a_digits_61
      have b_v_a_kind_61 := iB v_a_kind_61
      have b_v_a_from_61 := iB v_a_from_61
      have b_v_a_to_61 := iB v_a_to_61
      refine lv_aload_n hx hb dX2_readHeadBehindEquals_64 rfl (lv_at hl 2 rfl) ?_
      refine va_get (D := D) (ci := 1) (v := .ref (q 8)) (C := RX2) (T := TX2) (N := 8) hx hb hts hinX2 hown hK hP 7 rfl rfl 0 (by decide) k_3_11 (fun _ h9 => h9) rfl dX2_readHeadBehindEquals_65 ?_
      refine lv_bipush (v := 91) hx hb dX2_readHeadBehindEquals_68 (by decide) ?_
      refine call_i (As := [.int 91]) (rest := []) ⟨hx, hb, hml, hown, hts⟩ (tX1_isSign_qa (l := l) (91 : Int32) (by first | assumption | omega | (intros; omega) | decide)) (cwV 1 hts (gV (wr17 _ (List.mem_of_getElem? (i := 18) rfl)) (wr17 _ (List.mem_of_getElem? (i := 19) rfl)) (wr17 _ (List.mem_of_getElem? (i := 20) rfl)) (wr2 _ (List.mem_of_getElem? (i := 2) rfl)) (wr17 _ (List.mem_of_getElem? (i := 21) rfl))) rfl rfl rfl (by decide +kernel) ⟨Nat.le_of_ble_eq_true rfl, Nat.le_of_ble_eq_true rfl⟩) (va_recv hK hP (ci := 0) (q0 := 8) rfl rfl) hK hP hD hE hS hA rfl hl.1 rfl (Nat.le_of_ble_eq_true rfl) dX2_readHeadBehindEquals_70 ⟨Nat.le_of_ble_eq_true rfl, Nat.le_of_ble_eq_true rfl⟩ (fun r70 w9 H locs hw70 hP hD hS => ?_)
      obtain ⟨rfl, hw70_0⟩ := hw70
      have b_r70 := iB r70
      refine m_if_eq (X := r70.toInt) (tgt := 95) hx hb dX2_readHeadBehindEquals_73 (by decide) rfl (fun c73 => ?_) (fun c73 => ?_)
      · skip
        refine lv_aload_n hx hb dX2_readHeadBehindEquals_95 rfl (lv_at hl 2 rfl) ?_
        have hf96 : aS a_L a_K a_r_now := by first | assumption
        refine va_get (D := D) (ci := 1) (v := .ref a_r_now) (C := RX2) (T := TX2) (N := 8) hx hb hts hinX2 hown hK hP 7 rfl rfl 2 (by decide) k_3_14 (fun _ h9 => h9) rfl dX2_readHeadBehindEquals_96 ?_
        refine lv_iload_n hx hb dX2_readHeadBehindEquals_99 rfl (lv_at hl 0 rfl) ?_
        obtain ⟨k100_, hk100_⟩ := pl_S (X := (twX cs q v_t_tapeSize v_t_textSize v_t_faultKind a_t_tape a_t_text a_g_beyond v_g_size a_g_steps a_h_beyond v_h_size a_h_steps a_r_scratch a_r_now v_r_takes v_r_negative v_r_namePlace v_r_faultKind v_r_faultPlace v_a_size v_a_limit v_a_digits_61 v_a_kind_61 v_a_from_61 v_a_to_61 v_o_size a_o_out v_b_size v_b_limit v_b_digits v_b_kind v_b_from v_b_to a_u_atom a_u_other a_u_hand v_u_marksMade v_u_came v_u_guesses v_u_right v_u_taken a_u_vars a_u_marks a_u_outcomes a_u_indexes v_s_things v_s_looked v_s_lookedTooOften v_s_arraysMade v_s_cellsMade a_s_classes a_s_starts a_s_lengths a_s_cells)) (cI := cs 0) (vc := a_vc) (vd := a_vd) (si := a_si_40) (sj := a_sj) (iv := a_iv) (inn := a_inn) (ac := a_ac) hf96
        have hDk := hD
        refine va_put (D := D) (ci := 5) (v := .int r47) (ty := .int) (C := RX6) (T := TX6) (N := 15) hx hb hts hinX6 tyX6 tyX6_ok nmX6 hown hK hP hD hS k100_ hk100_ rfl 12 (by decide) k_18_2 (fun _ h9 => h9) rfl (by decide +kernel) rfl rfl (Nat.le_of_ble_eq_true rfl) dX2_readHeadBehindEquals_100 (fun H locs hP hD hS => ?_)
        obtain ⟨a_si_100, e_a_si_100⟩ : ∃ g, g = up2 a_si_40 a_r_now 10 r47 := ⟨_, rfl⟩
        have hP : va_P D vwCl (tw cs q v_t_tapeSize v_t_textSize v_t_faultKind a_t_tape a_t_text a_g_beyond v_g_size a_g_steps a_h_beyond v_h_size a_h_steps a_r_scratch a_r_now v_r_takes v_r_negative v_r_namePlace v_r_faultKind v_r_faultPlace v_a_size v_a_limit v_a_digits_61 v_a_kind_61 v_a_from_61 v_a_to_61 v_o_size a_o_out v_b_size v_b_limit v_b_digits v_b_kind v_b_from v_b_to a_u_atom a_u_other a_u_hand v_u_marksMade v_u_came v_u_guesses v_u_right v_u_taken a_u_vars a_u_marks a_u_outcomes a_u_indexes v_s_things v_s_looked v_s_lookedTooOften v_s_arraysMade v_s_cellsMade a_s_classes a_s_starts a_s_lengths a_s_cells a_L a_K a_vc a_vd a_si_100 a_sj a_iv a_inn a_ac) H := by rw [e_a_si_100]; exact vaP_eq (pu_atomVar_ hDk hf96 hk100_ _) hP
        have hD : va_D A (tw cs q v_t_tapeSize v_t_textSize v_t_faultKind a_t_tape a_t_text a_g_beyond v_g_size a_g_steps a_h_beyond v_h_size a_h_steps a_r_scratch a_r_now v_r_takes v_r_negative v_r_namePlace v_r_faultKind v_r_faultPlace v_a_size v_a_limit v_a_digits_61 v_a_kind_61 v_a_from_61 v_a_to_61 v_o_size a_o_out v_b_size v_b_limit v_b_digits v_b_kind v_b_from v_b_to a_u_atom a_u_other a_u_hand v_u_marksMade v_u_came v_u_guesses v_u_right v_u_taken a_u_vars a_u_marks a_u_outcomes a_u_indexes v_s_things v_s_looked v_s_lookedTooOften v_s_arraysMade v_s_cellsMade a_s_classes a_s_starts a_s_lengths a_s_cells a_L a_K a_vc a_vd a_si_100 a_sj a_iv a_inn a_ac) := by rw [e_a_si_100]; exact vaD_eq (pu_atomVar_ hDk hf96 hk100_ _) hD
        have hPI : PI a_L a_K a_si_100 a_iv a_inn := by exact PI.up (by assumption) e_a_si_100 (by decide)
        subst hAe
        rw [hQ]
        exact W.vret hx hb hr (fun t ht hW => ⟨⟨_, rfl, ⟨v_a_digits_61, v_a_kind_61, v_a_from_61, v_a_to_61, a_si_100, rfl, by first | assumption | omega | (intros; omega) | decide, by first | assumption | omega | (intros; omega) | decide⟩, by rw [ht]; exact hP, va_K.moved hW.alike hK, hD⟩, hS.F ht⟩) hS.2.2 dX2_readHeadBehindEquals_103
      · skip
        refine lv_aload_n hx hb dX2_readHeadBehindEquals_76 rfl (lv_at hl 2 rfl) ?_
        have hf77 : aS a_L a_K a_r_now := by first | assumption
        refine va_get (D := D) (ci := 1) (v := .ref a_r_now) (C := RX2) (T := TX2) (N := 8) hx hb hts hinX2 hown hK hP 7 rfl rfl 2 (by decide) k_3_14 (fun _ h9 => h9) rfl dX2_readHeadBehindEquals_77 ?_
        refine lv_iconst (v := 2) hx hb dX2_readHeadBehindEquals_80 (by decide) ?_
        obtain ⟨k81_, hk81_⟩ := pl_S (X := (twX cs q v_t_tapeSize v_t_textSize v_t_faultKind a_t_tape a_t_text a_g_beyond v_g_size a_g_steps a_h_beyond v_h_size a_h_steps a_r_scratch a_r_now v_r_takes v_r_negative v_r_namePlace v_r_faultKind v_r_faultPlace v_a_size v_a_limit v_a_digits_61 v_a_kind_61 v_a_from_61 v_a_to_61 v_o_size a_o_out v_b_size v_b_limit v_b_digits v_b_kind v_b_from v_b_to a_u_atom a_u_other a_u_hand v_u_marksMade v_u_came v_u_guesses v_u_right v_u_taken a_u_vars a_u_marks a_u_outcomes a_u_indexes v_s_things v_s_looked v_s_lookedTooOften v_s_arraysMade v_s_cellsMade a_s_classes a_s_starts a_s_lengths a_s_cells)) (cI := cs 0) (vc := a_vc) (vd := a_vd) (si := a_si_40) (sj := a_sj) (iv := a_iv) (inn := a_inn) (ac := a_ac) hf77
        have hDk := hD
        refine va_put (D := D) (ci := 5) (v := .int 2) (ty := .int) (C := RX6) (T := TX6) (N := 15) hx hb hts hinX6 tyX6 tyX6_ok nmX6 hown hK hP hD hS k81_ hk81_ rfl 0 (by decide) k_17_15 (fun _ h9 => h9) rfl (by decide +kernel) rfl rfl (Nat.le_of_ble_eq_true rfl) dX2_readHeadBehindEquals_81 (fun H locs hP hD hS => ?_)
        obtain ⟨a_si_81, e_a_si_81⟩ : ∃ g, g = up2 a_si_40 a_r_now 0 (2 : Int32) := ⟨_, rfl⟩
        have hP : va_P D vwCl (tw cs q v_t_tapeSize v_t_textSize v_t_faultKind a_t_tape a_t_text a_g_beyond v_g_size a_g_steps a_h_beyond v_h_size a_h_steps a_r_scratch a_r_now v_r_takes v_r_negative v_r_namePlace v_r_faultKind v_r_faultPlace v_a_size v_a_limit v_a_digits_61 v_a_kind_61 v_a_from_61 v_a_to_61 v_o_size a_o_out v_b_size v_b_limit v_b_digits v_b_kind v_b_from v_b_to a_u_atom a_u_other a_u_hand v_u_marksMade v_u_came v_u_guesses v_u_right v_u_taken a_u_vars a_u_marks a_u_outcomes a_u_indexes v_s_things v_s_looked v_s_lookedTooOften v_s_arraysMade v_s_cellsMade a_s_classes a_s_starts a_s_lengths a_s_cells a_L a_K a_vc a_vd a_si_81 a_sj a_iv a_inn a_ac) H := by rw [e_a_si_81]; exact vaP_eq (pu_act_ hDk hf77 hk81_ _) hP
        have hD : va_D A (tw cs q v_t_tapeSize v_t_textSize v_t_faultKind a_t_tape a_t_text a_g_beyond v_g_size a_g_steps a_h_beyond v_h_size a_h_steps a_r_scratch a_r_now v_r_takes v_r_negative v_r_namePlace v_r_faultKind v_r_faultPlace v_a_size v_a_limit v_a_digits_61 v_a_kind_61 v_a_from_61 v_a_to_61 v_o_size a_o_out v_b_size v_b_limit v_b_digits v_b_kind v_b_from v_b_to a_u_atom a_u_other a_u_hand v_u_marksMade v_u_came v_u_guesses v_u_right v_u_taken a_u_vars a_u_marks a_u_outcomes a_u_indexes v_s_things v_s_looked v_s_lookedTooOften v_s_arraysMade v_s_cellsMade a_s_classes a_s_starts a_s_lengths a_s_cells a_L a_K a_vc a_vd a_si_81 a_sj a_iv a_inn a_ac) := by rw [e_a_si_81]; exact vaD_eq (pu_act_ hDk hf77 hk81_ _) hD
        have hPI : PI a_L a_K a_si_81 a_iv a_inn := by exact PI.up (by assumption) e_a_si_81 (by decide)
        refine lv_aload_n hx hb dX2_readHeadBehindEquals_84 rfl (lv_at hl 2 rfl) ?_
        have hf85 : aS a_L a_K a_r_now := by first | assumption
        refine va_get (D := D) (ci := 1) (v := .ref a_r_now) (C := RX2) (T := TX2) (N := 8) hx hb hts hinX2 hown hK hP 7 rfl rfl 2 (by decide) k_3_14 (fun _ h9 => h9) rfl dX2_readHeadBehindEquals_85 ?_
        refine lv_iload_n hx hb dX2_readHeadBehindEquals_88 rfl (lv_at hl 0 rfl) ?_
        obtain ⟨k89_, hk89_⟩ := pl_S (X := (twX cs q v_t_tapeSize v_t_textSize v_t_faultKind a_t_tape a_t_text a_g_beyond v_g_size a_g_steps a_h_beyond v_h_size a_h_steps a_r_scratch a_r_now v_r_takes v_r_negative v_r_namePlace v_r_faultKind v_r_faultPlace v_a_size v_a_limit v_a_digits_61 v_a_kind_61 v_a_from_61 v_a_to_61 v_o_size a_o_out v_b_size v_b_limit v_b_digits v_b_kind v_b_from v_b_to a_u_atom a_u_other a_u_hand v_u_marksMade v_u_came v_u_guesses v_u_right v_u_taken a_u_vars a_u_marks a_u_outcomes a_u_indexes v_s_things v_s_looked v_s_lookedTooOften v_s_arraysMade v_s_cellsMade a_s_classes a_s_starts a_s_lengths a_s_cells)) (cI := cs 0) (vc := a_vc) (vd := a_vd) (si := a_si_81) (sj := a_sj) (iv := a_iv) (inn := a_inn) (ac := a_ac) hf85
        have hDk := hD
        refine va_put (D := D) (ci := 5) (v := .int r47) (ty := .int) (C := RX6) (T := TX6) (N := 15) hx hb hts hinX6 tyX6 tyX6_ok nmX6 hown hK hP hD hS k89_ hk89_ rfl 5 (by decide) k_17_16 (fun _ h9 => h9) rfl (by decide +kernel) rfl rfl (Nat.le_of_ble_eq_true rfl) dX2_readHeadBehindEquals_89 (fun H locs hP hD hS => ?_)
        obtain ⟨a_si_89, e_a_si_89⟩ : ∃ g, g = up2 a_si_81 a_r_now 5 r47 := ⟨_, rfl⟩
        have hP : va_P D vwCl (tw cs q v_t_tapeSize v_t_textSize v_t_faultKind a_t_tape a_t_text a_g_beyond v_g_size a_g_steps a_h_beyond v_h_size a_h_steps a_r_scratch a_r_now v_r_takes v_r_negative v_r_namePlace v_r_faultKind v_r_faultPlace v_a_size v_a_limit v_a_digits_61 v_a_kind_61 v_a_from_61 v_a_to_61 v_o_size a_o_out v_b_size v_b_limit v_b_digits v_b_kind v_b_from v_b_to a_u_atom a_u_other a_u_hand v_u_marksMade v_u_came v_u_guesses v_u_right v_u_taken a_u_vars a_u_marks a_u_outcomes a_u_indexes v_s_things v_s_looked v_s_lookedTooOften v_s_arraysMade v_s_cellsMade a_s_classes a_s_starts a_s_lengths a_s_cells a_L a_K a_vc a_vd a_si_89 a_sj a_iv a_inn a_ac) H := by rw [e_a_si_89]; exact vaP_eq (pu_first_ hDk hf85 hk89_ _) hP
        have hD : va_D A (tw cs q v_t_tapeSize v_t_textSize v_t_faultKind a_t_tape a_t_text a_g_beyond v_g_size a_g_steps a_h_beyond v_h_size a_h_steps a_r_scratch a_r_now v_r_takes v_r_negative v_r_namePlace v_r_faultKind v_r_faultPlace v_a_size v_a_limit v_a_digits_61 v_a_kind_61 v_a_from_61 v_a_to_61 v_o_size a_o_out v_b_size v_b_limit v_b_digits v_b_kind v_b_from v_b_to a_u_atom a_u_other a_u_hand v_u_marksMade v_u_came v_u_guesses v_u_right v_u_taken a_u_vars a_u_marks a_u_outcomes a_u_indexes v_s_things v_s_looked v_s_lookedTooOften v_s_arraysMade v_s_cellsMade a_s_classes a_s_starts a_s_lengths a_s_cells a_L a_K a_vc a_vd a_si_89 a_sj a_iv a_inn a_ac) := by rw [e_a_si_89]; exact vaD_eq (pu_first_ hDk hf85 hk89_ _) hD
        have hPI : PI a_L a_K a_si_89 a_iv a_inn := by exact PI.up (by assumption) e_a_si_89 (by decide)
        refine lv_goto (tgt := 103) hx hb dX2_readHeadBehindEquals_92 (by decide) ?_
        subst hAe
        rw [hQ]
        exact W.vret hx hb hr (fun t ht hW => ⟨⟨_, rfl, ⟨v_a_digits_61, v_a_kind_61, v_a_from_61, v_a_to_61, a_si_89, rfl, by first | assumption | omega | (intros; omega) | decide, by first | assumption | omega | (intros; omega) | decide⟩, by rw [ht]; exact hP, va_K.moved hW.alike hK, hD⟩, hS.F ht⟩) hS.2.2 dX2_readHeadBehindEquals_103
    · skip
      subst hAe
      rw [hQ]
      exact W.vret hx hb hr (fun t ht hW => ⟨⟨_, rfl, ⟨v_a_digits, v_a_kind, v_a_from, v_a_to, a_si_40, rfl, by first | assumption | omega | (intros; omega) | decide, by first | assumption | omega | (intros; omega) | decide⟩, by rw [ht]; exact hP, va_K.moved hW.alike hK, hD⟩, hS.F ht⟩) hS.2.2 dX2_readHeadBehindEquals_56
  · skip
    refine lv_aload_n hx hb dX2_readHeadBehindEquals_19 rfl (lv_at hl 1 rfl) ?_
    have hf20 : aS a_L a_K a_r_now := by first | assumption
    refine va_get (D := D) (ci := 1) (v := .ref a_r_now) (C := RX2) (T := TX2) (N := 8) hx hb hts hinX2 hown hK hP 7 rfl rfl 2 (by decide) k_3_14 (fun _ h9 => h9) rfl dX2_readHeadBehindEquals_20 ?_
    refine lv_iload_n hx hb dX2_readHeadBehindEquals_23 rfl (lv_at hl 0 rfl) ?_
    obtain ⟨k24_, hk24_⟩ := pl_S (X := (twX cs q v_t_tapeSize v_t_textSize v_t_faultKind a_t_tape a_t_text a_g_beyond v_g_size a_g_steps a_h_beyond v_h_size a_h_steps a_r_scratch a_r_now v_r_takes v_r_negative v_r_namePlace v_r_faultKind v_r_faultPlace v_a_size v_a_limit v_a_digits v_a_kind v_a_from v_a_to v_o_size a_o_out v_b_size v_b_limit v_b_digits v_b_kind v_b_from v_b_to a_u_atom a_u_other a_u_hand v_u_marksMade v_u_came v_u_guesses v_u_right v_u_taken a_u_vars a_u_marks a_u_outcomes a_u_indexes v_s_things v_s_looked v_s_lookedTooOften v_s_arraysMade v_s_cellsMade a_s_classes a_s_starts a_s_lengths a_s_cells)) (cI := cs 0) (vc := a_vc) (vd := a_vd) (si := a_si) (sj := a_sj) (iv := a_iv) (inn := a_inn) (ac := a_ac) hf20
    have hDk := hD
    refine va_put (D := D) (ci := 5) (v := .int x10) (ty := .int) (C := RX6) (T := TX6) (N := 15) hx hb hts hinX6 tyX6 tyX6_ok nmX6 hown hK hP hD hS k24_ hk24_ rfl 0 (by decide) k_17_15 (fun _ h9 => h9) rfl (by decide +kernel) rfl rfl (Nat.le_of_ble_eq_true rfl) dX2_readHeadBehindEquals_24 (fun H locs hP hD hS => ?_)
    obtain ⟨a_si_24, e_a_si_24⟩ : ∃ g, g = up2 a_si a_r_now 0 x10 := ⟨_, rfl⟩
    have hP : va_P D vwCl (tw cs q v_t_tapeSize v_t_textSize v_t_faultKind a_t_tape a_t_text a_g_beyond v_g_size a_g_steps a_h_beyond v_h_size a_h_steps a_r_scratch a_r_now v_r_takes v_r_negative v_r_namePlace v_r_faultKind v_r_faultPlace v_a_size v_a_limit v_a_digits v_a_kind v_a_from v_a_to v_o_size a_o_out v_b_size v_b_limit v_b_digits v_b_kind v_b_from v_b_to a_u_atom a_u_other a_u_hand v_u_marksMade v_u_came v_u_guesses v_u_right v_u_taken a_u_vars a_u_marks a_u_outcomes a_u_indexes v_s_things v_s_looked v_s_lookedTooOften v_s_arraysMade v_s_cellsMade a_s_classes a_s_starts a_s_lengths a_s_cells a_L a_K a_vc a_vd a_si_24 a_sj a_iv a_inn a_ac) H := by rw [e_a_si_24]; exact vaP_eq (pu_act_ hDk hf20 hk24_ _) hP
    have hD : va_D A (tw cs q v_t_tapeSize v_t_textSize v_t_faultKind a_t_tape a_t_text a_g_beyond v_g_size a_g_steps a_h_beyond v_h_size a_h_steps a_r_scratch a_r_now v_r_takes v_r_negative v_r_namePlace v_r_faultKind v_r_faultPlace v_a_size v_a_limit v_a_digits v_a_kind v_a_from v_a_to v_o_size a_o_out v_b_size v_b_limit v_b_digits v_b_kind v_b_from v_b_to a_u_atom a_u_other a_u_hand v_u_marksMade v_u_came v_u_guesses v_u_right v_u_taken a_u_vars a_u_marks a_u_outcomes a_u_indexes v_s_things v_s_looked v_s_lookedTooOften v_s_arraysMade v_s_cellsMade a_s_classes a_s_starts a_s_lengths a_s_cells a_L a_K a_vc a_vd a_si_24 a_sj a_iv a_inn a_ac) := by rw [e_a_si_24]; exact vaD_eq (pu_act_ hDk hf20 hk24_ _) hD
    have hPI : PI a_L a_K a_si_24 a_iv a_inn := by exact PI.up (by assumption) e_a_si_24 (by decide)
    refine lv_aload_n hx hb dX2_readHeadBehindEquals_27 rfl (lv_at hl 1 rfl) ?_
    refine va_get (D := D) (ci := 1) (v := .ref (q 8)) (C := RX2) (T := TX2) (N := 8) hx hb hts hinX2 hown hK hP 7 rfl rfl 0 (by decide) k_3_11 (fun _ h9 => h9) rfl dX2_readHeadBehindEquals_28 ?_
    refine call_v (As := []) (rest := []) ⟨hx, hb, hml, hown, hts⟩ (tX1_next_qa (l := l)  (by first | assumption | exact LI.z (by assumption))) (cwV 0 hts (gV (wr9 _ (List.mem_of_getElem? (i := 17) rfl)) (wr9 _ (List.mem_of_getElem? (i := 18) rfl)) (wr9 _ (List.mem_of_getElem? (i := 19) rfl)) (wr2 _ (List.mem_of_getElem? (i := 2) rfl)) (wr9 _ (List.mem_of_getElem? (i := 20) rfl))) rfl rfl rfl (by decide +kernel) ⟨Nat.le_of_ble_eq_true rfl, Nat.le_of_ble_eq_true rfl⟩) (va_recv hK hP (ci := 0) (q0 := 8) rfl rfl) hK hP hD hE hS hA rfl hl.1 rfl (Nat.le_of_ble_eq_true rfl) dX2_readHeadBehindEquals_31 ⟨Nat.le_of_ble_eq_true rfl, Nat.le_of_ble_eq_true rfl⟩ (fun w9 H locs hw31 hP hD hS => ?_)
    obtain ⟨v_a_digits_31, v_a_kind_31, v_a_from_31, v_a_to_31, rfl, hw31_0⟩ := hw31
    have b_v_a_digits_31 := iB v_a_digits_31
    have b_v_a_kind_31 := iB v_a_kind_31
    have b_v_a_from_31 := iB v_a_from_31
    have b_v_a_to_31 := iB v_a_to_31
    subst hAe
    rw [hQ]
    exact W.vret hx hb hr (fun t ht hW => ⟨⟨_, rfl, ⟨v_a_digits_31, v_a_kind_31, v_a_from_31, v_a_to_31, a_si_24, rfl, by first | assumption | omega | (intros; omega) | decide, by first | assumption | omega | (intros; omega) | decide⟩, by rw [ht]; exact hP, va_K.moved hW.alike hK, hD⟩, hS.F ht⟩) hS.2.2 dX2_readHeadBehindEquals_34

def rmX2_readHead : Room := { frames := 160, cells := 0, slots := 0, locals := 3200 }
set_option maxHeartbeats 4000000 in
set_option maxRecDepth 100000 in
theorem tX2_readHead {l : Launch} {D : va_G} {K : Nat → Nat → Nat} {cs : Nat → ClassId} {q : Nat → Nat} {v_t_tapeSize v_t_textSize v_t_faultKind v_g_size v_h_size v_r_takes v_r_negative v_r_namePlace v_r_faultKind v_r_faultPlace v_a_size v_a_limit v_a_digits v_a_kind v_a_from v_a_to v_o_size v_b_size v_b_limit v_b_digits v_b_kind v_b_from v_b_to v_u_marksMade v_u_came v_u_guesses v_u_right v_u_taken v_s_things v_s_looked v_s_lookedTooOften v_s_arraysMade v_s_cellsMade : Int32} {a_t_tape a_t_text a_o_out a_u_outcomes a_u_indexes a_s_classes a_s_starts a_s_lengths a_vc : Nat → Int32} {a_g_beyond a_h_beyond a_r_scratch a_r_now a_u_atom a_u_other a_u_hand : Nat} {a_g_steps a_h_steps a_u_vars a_u_marks : Nat → Option Nat} {a_s_cells a_vd a_sj : Nat → Int64} {a_L : List Nat} {a_K a_iv a_inn : Nat → Nat} {a_si a_ac : Nat → Nat → Int32} (p_0 : LI 3100 v_a_size v_a_limit v_a_digits v_a_kind v_a_from v_a_to) (p_1 : PI a_L a_K a_si a_iv a_inn) (p_2 : aS a_L a_K a_r_now) : CtI l yX2_readHead (wG yX2_readHead cX2_readHead 2 (some .boolean)) rmX2_readHead D (twT cs) K [.ref (q 7)] (tw cs q v_t_tapeSize v_t_textSize v_t_faultKind a_t_tape a_t_text a_g_beyond v_g_size a_g_steps a_h_beyond v_h_size a_h_steps a_r_scratch a_r_now v_r_takes v_r_negative v_r_namePlace v_r_faultKind v_r_faultPlace v_a_size v_a_limit v_a_digits v_a_kind v_a_from v_a_to v_o_size a_o_out v_b_size v_b_limit v_b_digits v_b_kind v_b_from v_b_to a_u_atom a_u_other a_u_hand v_u_marksMade v_u_came v_u_guesses v_u_right v_u_taken a_u_vars a_u_marks a_u_outcomes a_u_indexes v_s_things v_s_looked v_s_lookedTooOften v_s_arraysMade v_s_cellsMade a_s_classes a_s_starts a_s_lengths a_s_cells a_L a_K a_vc a_vd a_si a_sj a_iv a_inn a_ac) (fun r w1 => ∃ (v_r_faultKind' : Int32) (v_r_faultPlace' : Int32) (v_a_digits' : Int32) (v_a_kind' : Int32) (v_a_from' : Int32) (v_a_to' : Int32) (a_si' : Nat → Nat → Int32), w1 = (tw cs q v_t_tapeSize v_t_textSize v_t_faultKind a_t_tape a_t_text a_g_beyond v_g_size a_g_steps a_h_beyond v_h_size a_h_steps a_r_scratch a_r_now v_r_takes v_r_negative v_r_namePlace v_r_faultKind' v_r_faultPlace' v_a_size v_a_limit v_a_digits' v_a_kind' v_a_from' v_a_to' v_o_size a_o_out v_b_size v_b_limit v_b_digits v_b_kind v_b_from v_b_to a_u_atom a_u_other a_u_hand v_u_marksMade v_u_came v_u_guesses v_u_right v_u_taken a_u_vars a_u_marks a_u_outcomes a_u_indexes v_s_things v_s_looked v_s_lookedTooOften v_s_arraysMade v_s_cellsMade a_s_classes a_s_starts a_s_lengths a_s_cells a_L a_K a_vc a_vd a_si' a_sj a_iv a_inn a_ac) ∧ (LI 3100 v_a_size v_a_limit v_a_digits' v_a_kind' v_a_from' v_a_to') ∧ (PI a_L a_K a_si' a_iv a_inn) ∧ (r.toInt = 0 ∨ r.toInt = 1)) 0 0 := by
  intro sz
  refine Met.ofW (cc := cX2_readHead) (maxL := 2) (ret := (some .boolean)) (by decide) rfl ?_
  intro p e s m args below meth c s₁ B hml hv
  obtain ⟨rfl, hsz, hP, hK, hD0, hE⟩ := hv
  have hx := B.exec
  have hb := B.bytes
  have hr := B.returns
  have hts := atoms_spec (ws := (wG yX2_readHead cX2_readHead 2 (some .boolean))) B.pre
  have hown : s.vm.findClass RX2 = some m.cls := findClass_of_methodNamed B.named
  have hlocks := B.notSynchronized
  subst hsz
  have hD := hD0.self (sz := s.heap.size)
  obtain ⟨A, hAe⟩ : ∃ A : Nat → Prop, A = va_A (tw cs q v_t_tapeSize v_t_textSize v_t_faultKind a_t_tape a_t_text a_g_beyond v_g_size a_g_steps a_h_beyond v_h_size a_h_steps a_r_scratch a_r_now v_r_takes v_r_negative v_r_namePlace v_r_faultKind v_r_faultPlace v_a_size v_a_limit v_a_digits v_a_kind v_a_from v_a_to v_o_size a_o_out v_b_size v_b_limit v_b_digits v_b_kind v_b_from v_b_to a_u_atom a_u_other a_u_hand v_u_marksMade v_u_came v_u_guesses v_u_right v_u_taken a_u_vars a_u_marks a_u_outcomes a_u_indexes v_s_things v_s_looked v_s_lookedTooOften v_s_arraysMade v_s_cellsMade a_s_classes a_s_starts a_s_lengths a_s_cells a_L a_K a_vc a_vd a_si a_sj a_iv a_inn a_ac) s.heap.size := ⟨_, rfl⟩
  rw [← hAe] at hD hE
  have hA : ∀ q : Nat, s.heap.size ≤ q → A q := fun q h => by rw [hAe]; exact Or.inr h
  have hS : va_S A s.heap s.heap [] := va_S.rf
  have hl := lv_entry ([.ref (q 7)]) (n := 2) (Nat.le_of_ble_eq_true rfl)
  rw [lg_entry_eq]
  generalize (lg_sl ([.ref (q 7)]) ++ List.replicate (2 - (lg_sl ([.ref (q 7)])).length) Slot.unset).toArray = ls at hl ⊢
  have hl : lv_has ls 2 [(0, .ref (q 7))] := hl
  refine wq (fun Q hQ => ?_)
  have hinX2 : ∀ w ∈ wsX20, w ∈ (wG yX2_readHead cX2_readHead 2 (some .boolean)) := fun w h => List.mem_cons_of_mem _ (inlX2 w h)
  have hinX6 : ∀ w ∈ wsX60, w ∈ (wG yX2_readHead cX2_readHead 2 (some .boolean)) := fun w h => List.mem_cons_of_mem _ (inlX6 w h)
  have kc0 : (-1 : Int32).toInt = -1 := by decide
  have kc1 : (0 : Int32).toInt = 0 := by decide
  have kc2 : (1 : Int32).toInt = 1 := by decide
  have kc3 : (3 : Int32).toInt = 3 := by decide
  have kc4 : (61 : Int32).toInt = 61 := by decide
  have kc5 : (91 : Int32).toInt = 91 := by decide
  have k_3_11 := hts (.fieldLink RX2 9 "ArrayTrainer$Parser" "lexer" "LArrayTrainer$Lexer;") (List.mem_cons_of_mem _ (wr3 _ (List.mem_of_getElem? (i := 11) rfl)))
  have k_3_14 := hts (.fieldLink RX2 22 "ArrayTrainer$Parser" "now" "LArrayTrainer$Step;") (List.mem_cons_of_mem _ (wr3 _ (List.mem_of_getElem? (i := 14) rfl)))
  have k_17_17 := hts (.fieldLink RX2 143 "ArrayTrainer$Step" "target" "I") (List.mem_cons_of_mem _ (wr17 _ (List.mem_of_getElem? (i := 17) rfl)))
  have k_17_15 := hts (.fieldLink RX2 133 "ArrayTrainer$Step" "act" "I") (List.mem_cons_of_mem _ (wr17 _ (List.mem_of_getElem? (i := 15) rfl)))
  have k_17_16 := hts (.fieldLink RX2 140 "ArrayTrainer$Step" "first" "I") (List.mem_cons_of_mem _ (wr17 _ (List.mem_of_getElem? (i := 16) rfl)))
  obtain ⟨H, hH⟩ : ∃ H : Heap, H = s.heap := ⟨_, rfl⟩
  obtain ⟨locs, hlc⟩ : ∃ L : List Loc, L = [] := ⟨_, rfl⟩
  have hP : va_P D vwCl (tw cs q v_t_tapeSize v_t_textSize v_t_faultKind a_t_tape a_t_text a_g_beyond v_g_size a_g_steps a_h_beyond v_h_size a_h_steps a_r_scratch a_r_now v_r_takes v_r_negative v_r_namePlace v_r_faultKind v_r_faultPlace v_a_size v_a_limit v_a_digits v_a_kind v_a_from v_a_to v_o_size a_o_out v_b_size v_b_limit v_b_digits v_b_kind v_b_from v_b_to a_u_atom a_u_other a_u_hand v_u_marksMade v_u_came v_u_guesses v_u_right v_u_taken a_u_vars a_u_marks a_u_outcomes a_u_indexes v_s_things v_s_looked v_s_lookedTooOften v_s_arraysMade v_s_cellsMade a_s_classes a_s_starts a_s_lengths a_s_cells a_L a_K a_vc a_vd a_si a_sj a_iv a_inn a_ac) H := by rw [hH]; exact hP
  have hS : va_S A s.heap H locs := by rw [hH, hlc]; exact hS
  refine wHL hH hlc ?_
  refine lv_aload_n hx hb dX2_readHead_0 rfl (lv_at hl 0 rfl) ?_
  refine va_get (D := D) (ci := 1) (v := .ref (q 8)) (C := RX2) (T := TX2) (N := 8) hx hb hts hinX2 hown hK hP 7 rfl rfl 0 (by decide) k_3_11 (fun _ h9 => h9) rfl dX2_readHead_1 ?_
  refine call_i (As := []) (rest := []) ⟨hx, hb, hml, hown, hts⟩ (tX1_variable_qa (l := l)  (by first | assumption | omega | (intros; omega) | decide)) (cwV 0 hts (gV (wr14 _ (List.mem_of_getElem? (i := 3) rfl)) (wr14 _ (List.mem_of_getElem? (i := 4) rfl)) (wr14 _ (List.mem_of_getElem? (i := 5) rfl)) (wr2 _ (List.mem_of_getElem? (i := 2) rfl)) (wr14 _ (List.mem_of_getElem? (i := 6) rfl))) rfl rfl rfl (by decide +kernel) ⟨Nat.le_of_ble_eq_true rfl, Nat.le_of_ble_eq_true rfl⟩) (va_recv hK hP (ci := 0) (q0 := 8) rfl rfl) hK hP hD hE hS hA rfl hl.1 rfl (Nat.le_of_ble_eq_true rfl) dX2_readHead_4 ⟨Nat.le_of_ble_eq_true rfl, Nat.le_of_ble_eq_true rfl⟩ (fun r4 w9 H locs hw4 hP hD hS => ?_)
  obtain ⟨rfl⟩ := hw4
  have b_r4 := iB r4
  refine lv_istore_n (lv' := [(1, .int r4), (0, .ref (q 7))]) hx hb dX2_readHead_7 rfl hl (by decide) rfl (fun ls hl => ?_)
  refine lv_iload_n hx hb dX2_readHead_8 rfl (lv_at hl 0 rfl) ?_
  refine lv_iconst (v := (-1)) hx hb dX2_readHead_9 (by decide) ?_
  refine m_icmp_ne (X := r4.toInt) (Y := (-1)) (tgt := 46) hx hb dX2_readHead_10 (by decide) rfl (by decide) (fun c10 => ?_) (fun c10 => ?_)
  · skip
    refine lv_aload_n hx hb dX2_readHead_46 rfl (lv_at hl 1 rfl) ?_
    refine va_get (D := D) (ci := 1) (v := .ref (q 8)) (C := RX2) (T := TX2) (N := 8) hx hb hts hinX2 hown hK hP 7 rfl rfl 0 (by decide) k_3_11 (fun _ h9 => h9) rfl dX2_readHead_47 ?_
    refine call_v (As := []) (rest := []) ⟨hx, hb, hml, hown, hts⟩ (tX1_next_qa (l := l)  (by first | assumption | exact LI.z (by assumption))) (cwV 0 hts (gV (wr9 _ (List.mem_of_getElem? (i := 17) rfl)) (wr9 _ (List.mem_of_getElem? (i := 18) rfl)) (wr9 _ (List.mem_of_getElem? (i := 19) rfl)) (wr2 _ (List.mem_of_getElem? (i := 2) rfl)) (wr9 _ (List.mem_of_getElem? (i := 20) rfl))) rfl rfl rfl (by decide +kernel) ⟨Nat.le_of_ble_eq_true rfl, Nat.le_of_ble_eq_true rfl⟩) (va_recv hK hP (ci := 0) (q0 := 8) rfl rfl) hK hP hD hE hS hA rfl hl.1 rfl (Nat.le_of_ble_eq_true rfl) dX2_readHead_50 ⟨Nat.le_of_ble_eq_true rfl, Nat.le_of_ble_eq_true rfl⟩ (fun w9 H locs hw50 hP hD hS => ?_)
    obtain ⟨v_a_digits_50, v_a_kind_50, v_a_from_50, v_a_to_50, rfl, hw50_0⟩ := hw50
    have b_v_a_digits_50 := iB v_a_digits_50
    have b_v_a_kind_50 := iB v_a_kind_50
    have b_v_a_from_50 := iB v_a_from_50
    have b_v_a_to_50 := iB v_a_to_50
    refine lv_aload_n hx hb dX2_readHead_53 rfl (lv_at hl 1 rfl) ?_
    refine va_get (D := D) (ci := 1) (v := .ref (q 8)) (C := RX2) (T := TX2) (N := 8) hx hb hts hinX2 hown hK hP 7 rfl rfl 0 (by decide) k_3_11 (fun _ h9 => h9) rfl dX2_readHead_54 ?_
    refine lv_bipush (v := 91) hx hb dX2_readHead_57 (by decide) ?_
    refine call_i (As := [.int 91]) (rest := []) ⟨hx, hb, hml, hown, hts⟩ (tX1_isSign_qa (l := l) (91 : Int32) (by first | assumption | omega | (intros; omega) | decide)) (cwV 1 hts (gV (wr17 _ (List.mem_of_getElem? (i := 18) rfl)) (wr17 _ (List.mem_of_getElem? (i := 19) rfl)) (wr17 _ (List.mem_of_getElem? (i := 20) rfl)) (wr2 _ (List.mem_of_getElem? (i := 2) rfl)) (wr17 _ (List.mem_of_getElem? (i := 21) rfl))) rfl rfl rfl (by decide +kernel) ⟨Nat.le_of_ble_eq_true rfl, Nat.le_of_ble_eq_true rfl⟩) (va_recv hK hP (ci := 0) (q0 := 8) rfl rfl) hK hP hD hE hS hA rfl hl.1 rfl (Nat.le_of_ble_eq_true rfl) dX2_readHead_59 ⟨Nat.le_of_ble_eq_true rfl, Nat.le_of_ble_eq_true rfl⟩ (fun r59 w9 H locs hw59 hP hD hS => ?_)
    obtain ⟨rfl, hw59_0⟩ := hw59
    have b_r59 := iB r59
    refine m_if_eq (X := r59.toInt) (tgt := 83) hx hb dX2_readHead_62 (by decide) rfl (fun c62 => ?_) (fun c62 => ?_)
    · skip
      refine lv_aload_n hx hb dX2_readHead_83 rfl (lv_at hl 1 rfl) ?_
      have hf84 : aS a_L a_K a_r_now := by first | assumption
      refine va_get (D := D) (ci := 1) (v := .ref a_r_now) (C := RX2) (T := TX2) (N := 8) hx hb hts hinX2 hown hK hP 7 rfl rfl 2 (by decide) k_3_14 (fun _ h9 => h9) rfl dX2_readHead_84 ?_
      refine lv_iload_n hx hb dX2_readHead_87 rfl (lv_at hl 0 rfl) ?_
      obtain ⟨k88_, hk88_⟩ := pl_S (X := (twX cs q v_t_tapeSize v_t_textSize v_t_faultKind a_t_tape a_t_text a_g_beyond v_g_size a_g_steps a_h_beyond v_h_size a_h_steps a_r_scratch a_r_now v_r_takes v_r_negative v_r_namePlace v_r_faultKind v_r_faultPlace v_a_size v_a_limit v_a_digits_50 v_a_kind_50 v_a_from_50 v_a_to_50 v_o_size a_o_out v_b_size v_b_limit v_b_digits v_b_kind v_b_from v_b_to a_u_atom a_u_other a_u_hand v_u_marksMade v_u_came v_u_guesses v_u_right v_u_taken a_u_vars a_u_marks a_u_outcomes a_u_indexes v_s_things v_s_looked v_s_lookedTooOften v_s_arraysMade v_s_cellsMade a_s_classes a_s_starts a_s_lengths a_s_cells)) (cI := cs 0) (vc := a_vc) (vd := a_vd) (si := a_si) (sj := a_sj) (iv := a_iv) (inn := a_inn) (ac := a_ac) hf84
      have hDk := hD
      refine va_put (D := D) (ci := 5) (v := .int r4) (ty := .int) (C := RX6) (T := TX6) (N := 15) hx hb hts hinX6 tyX6 tyX6_ok nmX6 hown hK hP hD hS k88_ hk88_ rfl 4 (by decide) k_17_17 (fun _ h9 => h9) rfl (by decide +kernel) rfl rfl (Nat.le_of_ble_eq_true rfl) dX2_readHead_88 (fun H locs hP hD hS => ?_)
      obtain ⟨a_si_88, e_a_si_88⟩ : ∃ g, g = up2 a_si a_r_now 4 r4 := ⟨_, rfl⟩
      have hP : va_P D vwCl (tw cs q v_t_tapeSize v_t_textSize v_t_faultKind a_t_tape a_t_text a_g_beyond v_g_size a_g_steps a_h_beyond v_h_size a_h_steps a_r_scratch a_r_now v_r_takes v_r_negative v_r_namePlace v_r_faultKind v_r_faultPlace v_a_size v_a_limit v_a_digits_50 v_a_kind_50 v_a_from_50 v_a_to_50 v_o_size a_o_out v_b_size v_b_limit v_b_digits v_b_kind v_b_from v_b_to a_u_atom a_u_other a_u_hand v_u_marksMade v_u_came v_u_guesses v_u_right v_u_taken a_u_vars a_u_marks a_u_outcomes a_u_indexes v_s_things v_s_looked v_s_lookedTooOften v_s_arraysMade v_s_cellsMade a_s_classes a_s_starts a_s_lengths a_s_cells a_L a_K a_vc a_vd a_si_88 a_sj a_iv a_inn a_ac) H := by rw [e_a_si_88]; exact vaP_eq (pu_target_ hDk hf84 hk88_ _) hP
      have hD : va_D A (tw cs q v_t_tapeSize v_t_textSize v_t_faultKind a_t_tape a_t_text a_g_beyond v_g_size a_g_steps a_h_beyond v_h_size a_h_steps a_r_scratch a_r_now v_r_takes v_r_negative v_r_namePlace v_r_faultKind v_r_faultPlace v_a_size v_a_limit v_a_digits_50 v_a_kind_50 v_a_from_50 v_a_to_50 v_o_size a_o_out v_b_size v_b_limit v_b_digits v_b_kind v_b_from v_b_to a_u_atom a_u_other a_u_hand v_u_marksMade v_u_came v_u_guesses v_u_right v_u_taken a_u_vars a_u_marks a_u_outcomes a_u_indexes v_s_things v_s_looked v_s_lookedTooOften v_s_arraysMade v_s_cellsMade a_s_classes a_s_starts a_s_lengths a_s_cells a_L a_K a_vc a_vd a_si_88 a_sj a_iv a_inn a_ac) := by rw [e_a_si_88]; exact vaD_eq (pu_target_ hDk hf84 hk88_ _) hD
      have hPI : PI a_L a_K a_si_88 a_iv a_inn := by exact PI.up (by assumption) e_a_si_88 (by decide)
      refine lv_aload_n hx hb dX2_readHead_91 rfl (lv_at hl 1 rfl) ?_
      refine lv_aload_n hx hb dX2_readHead_92 rfl (lv_at hl 1 rfl) ?_
      refine va_get (D := D) (ci := 1) (v := .ref (q 8)) (C := RX2) (T := TX2) (N := 8) hx hb hts hinX2 hown hK hP 7 rfl rfl 0 (by decide) k_3_11 (fun _ h9 => h9) rfl dX2_readHead_93 ?_
      refine lv_bipush (v := 61) hx hb dX2_readHead_96 (by decide) ?_
      refine call_i (As := [.int 61]) (rest := [.ref (q 7)]) ⟨hx, hb, hml, hown, hts⟩ (tX1_isSign_qa (l := l) (61 : Int32) (by first | assumption | omega | (intros; omega) | decide)) (cwV 1 hts (gV (wr17 _ (List.mem_of_getElem? (i := 18) rfl)) (wr17 _ (List.mem_of_getElem? (i := 19) rfl)) (wr17 _ (List.mem_of_getElem? (i := 20) rfl)) (wr2 _ (List.mem_of_getElem? (i := 2) rfl)) (wr17 _ (List.mem_of_getElem? (i := 21) rfl))) rfl rfl rfl (by decide +kernel) ⟨Nat.le_of_ble_eq_true rfl, Nat.le_of_ble_eq_true rfl⟩) (va_recv hK hP (ci := 0) (q0 := 8) rfl rfl) hK hP hD hE hS hA rfl hl.1 rfl (Nat.le_of_ble_eq_true rfl) dX2_readHead_98 ⟨Nat.le_of_ble_eq_true rfl, Nat.le_of_ble_eq_true rfl⟩ (fun r98 w9 H locs hw98 hP hD hS => ?_)
      obtain ⟨rfl, hw98_0⟩ := hw98
      have b_r98 := iB r98
      refine call_i (As := [.int r98]) (rest := []) ⟨hx, hb, hml, hown, hts⟩ (tX2_passIf (l := l) r98 (by first | assumption | omega | (intros; omega) | decide)) (cwV 1 hts (gV (wr17 _ (List.mem_of_getElem? (i := 2) rfl)) (wr17 _ (List.mem_of_getElem? (i := 3) rfl)) (wr17 _ (List.mem_of_getElem? (i := 4) rfl)) (wr1 _ (List.mem_of_getElem? (i := 23) rfl)) (wr17 _ (List.mem_of_getElem? (i := 5) rfl))) rfl rfl rfl (by decide +kernel) ⟨Nat.le_of_ble_eq_true rfl, Nat.le_of_ble_eq_true rfl⟩) (va_recv hK hP (ci := 1) (q0 := 7) rfl rfl) hK hP hD hE hS hA rfl hl.1 rfl (Nat.le_of_ble_eq_true rfl) dX2_readHead_101 ⟨Nat.le_of_ble_eq_true rfl, Nat.le_of_ble_eq_true rfl⟩ (fun r101 w9 H locs hw101 hP hD hS => ?_)
      obtain ⟨v_r_faultKind_101, v_r_faultPlace_101, v_a_digits_101, v_a_kind_101, v_a_from_101, v_a_to_101, rfl, hw101_0, hw101_1⟩ := hw101
      have b_v_r_faultKind_101 := iB v_r_faultKind_101
      have b_v_r_faultPlace_101 := iB v_r_faultPlace_101
      have b_v_a_digits_101 := iB v_a_digits_101
      have b_v_a_kind_101 := iB v_a_kind_101
      have b_v_a_from_101 := iB v_a_from_101
      have b_v_a_to_101 := iB v_a_to_101
      have b_r101 := iB r101
      refine m_if_ne (X := r101.toInt) (tgt := 109) hx hb dX2_readHead_104 (by decide) rfl (fun c104 => ?_) (fun c104 => ?_)
      · skip
        refine lv_aload_n hx hb dX2_readHead_109 rfl (lv_at hl 1 rfl) ?_
        refine call_v (As := []) (rest := []) ⟨hx, hb, hml, hown, hts⟩ (tX2_readHeadBehindEquals (l := l)  (by first | assumption | omega | (intros; omega) | decide) (by first | assumption | omega | (intros; omega) | decide) (by first | assumption | omega | (intros; omega) | decide)) (cwV 0 hts (gV (wr17 _ (List.mem_of_getElem? (i := 22) rfl)) (wr17 _ (List.mem_of_getElem? (i := 23) rfl)) (wr18 _ (List.mem_of_getElem? (i := 0) rfl)) (wr1 _ (List.mem_of_getElem? (i := 23) rfl)) (wr18 _ (List.mem_of_getElem? (i := 1) rfl))) rfl rfl rfl (by decide +kernel) ⟨Nat.le_of_ble_eq_true rfl, Nat.le_of_ble_eq_true rfl⟩) (va_recv hK hP (ci := 1) (q0 := 7) rfl rfl) hK hP hD hE hS hA rfl hl.1 rfl (Nat.le_of_ble_eq_true rfl) dX2_readHead_110 ⟨Nat.le_of_ble_eq_true rfl, Nat.le_of_ble_eq_true rfl⟩ (fun w9 H locs hw110 hP hD hS => ?_)
        obtain ⟨v_a_digits_110, v_a_kind_110, v_a_from_110, v_a_to_110, a_si_110, rfl, hw110_0, hw110_1⟩ := hw110
        have b_v_a_digits_110 := iB v_a_digits_110
        have b_v_a_kind_110 := iB v_a_kind_110
        have b_v_a_from_110 := iB v_a_from_110
        have b_v_a_to_110 := iB v_a_to_110
        refine lv_iconst (v := 1) hx hb dX2_readHead_113 (by decide) ?_
        subst hAe
        rw [hQ]
        exact W.zret (v := 1) hx hb hr (by decide) (fun t ht hW => ⟨⟨1, _, rfl, ⟨v_r_faultKind_101, v_r_faultPlace_101, v_a_digits_110, v_a_kind_110, v_a_from_110, v_a_to_110, a_si_110, rfl, by first | assumption | omega | (intros; omega) | decide, by first | assumption | omega | (intros; omega) | decide, by first | assumption | omega | (intros; omega) | decide⟩, by rw [ht]; exact hP, va_K.moved hW.alike hK, hD⟩, hS.F ht⟩) hS.2.2 dX2_readHead_114
      · skip
        refine lv_iconst (v := 0) hx hb dX2_readHead_107 (by decide) ?_
        subst hAe
        rw [hQ]
        exact W.zret (v := 0) hx hb hr (by decide) (fun t ht hW => ⟨⟨0, _, rfl, ⟨v_r_faultKind_101, v_r_faultPlace_101, v_a_digits_101, v_a_kind_101, v_a_from_101, v_a_to_101, a_si_88, rfl, by first | assumption | omega | (intros; omega) | decide, by first | assumption | omega | (intros; omega) | decide, by first | assumption | omega | (intros; omega) | decide⟩, by rw [ht]; exact hP, va_K.moved hW.alike hK, hD⟩, hS.F ht⟩) hS.2.2 dX2_readHead_108
    · skip
      refine lv_aload_n hx hb dX2_readHead_65 rfl (lv_at hl 1 rfl) ?_
      have hf66 : aS a_L a_K a_r_now := by first | assumption
      refine va_get (D := D) (ci := 1) (v := .ref a_r_now) (C := RX2) (T := TX2) (N := 8) hx hb hts hinX2 hown hK hP 7 rfl rfl 2 (by decide) k_3_14 (fun _ h9 => h9) rfl dX2_readHead_66 ?_
      refine lv_iconst (v := 3) hx hb dX2_readHead_69 (by decide) ?_
      obtain ⟨k70_, hk70_⟩ := pl_S (X := (twX cs q v_t_tapeSize v_t_textSize v_t_faultKind a_t_tape a_t_text a_g_beyond v_g_size a_g_steps a_h_beyond v_h_size a_h_steps a_r_scratch a_r_now v_r_takes v_r_negative v_r_namePlace v_r_faultKind v_r_faultPlace v_a_size v_a_limit v_a_digits_50 v_a_kind_50 v_a_from_50 v_a_to_50 v_o_size a_o_out v_b_size v_b_limit v_b_digits v_b_kind v_b_from v_b_to a_u_atom a_u_other a_u_hand v_u_marksMade v_u_came v_u_guesses v_u_right v_u_taken a_u_vars a_u_marks a_u_outcomes a_u_indexes v_s_things v_s_looked v_s_lookedTooOften v_s_arraysMade v_s_cellsMade a_s_classes a_s_starts a_s_lengths a_s_cells)) (cI := cs 0) (vc := a_vc) (vd := a_vd) (si := a_si) (sj := a_sj) (iv := a_iv) (inn := a_inn) (ac := a_ac) hf66
      have hDk := hD
      refine va_put (D := D) (ci := 5) (v := .int 3) (ty := .int) (C := RX6) (T := TX6) (N := 15) hx hb hts hinX6 tyX6 tyX6_ok nmX6 hown hK hP hD hS k70_ hk70_ rfl 0 (by decide) k_17_15 (fun _ h9 => h9) rfl (by decide +kernel) rfl rfl (Nat.le_of_ble_eq_true rfl) dX2_readHead_70 (fun H locs hP hD hS => ?_)
      obtain ⟨a_si_70, e_a_si_70⟩ : ∃ g, g = up2 a_si a_r_now 0 (3 : Int32) := ⟨_, rfl⟩
      have hP : va_P D vwCl (tw cs q v_t_tapeSize v_t_textSize v_t_faultKind a_t_tape a_t_text a_g_beyond v_g_size a_g_steps a_h_beyond v_h_size a_h_steps a_r_scratch a_r_now v_r_takes v_r_negative v_r_namePlace v_r_faultKind v_r_faultPlace v_a_size v_a_limit v_a_digits_50 v_a_kind_50 v_a_from_50 v_a_to_50 v_o_size a_o_out v_b_size v_b_limit v_b_digits v_b_kind v_b_from v_b_to a_u_atom a_u_other a_u_hand v_u_marksMade v_u_came v_u_guesses v_u_right v_u_taken a_u_vars a_u_marks a_u_outcomes a_u_indexes v_s_things v_s_looked v_s_lookedTooOften v_s_arraysMade v_s_cellsMade a_s_classes a_s_starts a_s_lengths a_s_cells a_L a_K a_vc a_vd a_si_70 a_sj a_iv a_inn a_ac) H := by rw [e_a_si_70]; exact vaP_eq (pu_act_ hDk hf66 hk70_ _) hP
      have hD : va_D A (tw cs q v_t_tapeSize v_t_textSize v_t_faultKind a_t_tape a_t_text a_g_beyond v_g_size a_g_steps a_h_beyond v_h_size a_h_steps a_r_scratch a_r_now v_r_takes v_r_negative v_r_namePlace v_r_faultKind v_r_faultPlace v_a_size v_a_limit v_a_digits_50 v_a_kind_50 v_a_from_50 v_a_to_50 v_o_size a_o_out v_b_size v_b_limit v_b_digits v_b_kind v_b_from v_b_to a_u_atom a_u_other a_u_hand v_u_marksMade v_u_came v_u_guesses v_u_right v_u_taken a_u_vars a_u_marks a_u_outcomes a_u_indexes v_s_things v_s_looked v_s_lookedTooOften v_s_arraysMade v_s_cellsMade a_s_classes a_s_starts a_s_lengths a_s_cells a_L a_K a_vc a_vd a_si_70 a_sj a_iv a_inn a_ac) := by rw [e_a_si_70]; exact vaD_eq (pu_act_ hDk hf66 hk70_ _) hD
      have hPI : PI a_L a_K a_si_70 a_iv a_inn := by exact PI.up (by assumption) e_a_si_70 (by decide)
      refine lv_aload_n hx hb dX2_readHead_73 rfl (lv_at hl 1 rfl) ?_
      have hf74 : aS a_L a_K a_r_now := by first | assumption
      refine va_get (D := D) (ci := 1) (v := .ref a_r_now) (C := RX2) (T := TX2) (N := 8) hx hb hts hinX2 hown hK hP 7 rfl rfl 2 (by decide) k_3_14 (fun _ h9 => h9) rfl dX2_readHead_74 ?_
      refine lv_iload_n hx hb dX2_readHead_77 rfl (lv_at hl 0 rfl) ?_
      obtain ⟨k78_, hk78_⟩ := pl_S (X := (twX cs q v_t_tapeSize v_t_textSize v_t_faultKind a_t_tape a_t_text a_g_beyond v_g_size a_g_steps a_h_beyond v_h_size a_h_steps a_r_scratch a_r_now v_r_takes v_r_negative v_r_namePlace v_r_faultKind v_r_faultPlace v_a_size v_a_limit v_a_digits_50 v_a_kind_50 v_a_from_50 v_a_to_50 v_o_size a_o_out v_b_size v_b_limit v_b_digits v_b_kind v_b_from v_b_to a_u_atom a_u_other a_u_hand v_u_marksMade v_u_came v_u_guesses v_u_right v_u_taken a_u_vars a_u_marks a_u_outcomes a_u_indexes v_s_things v_s_looked v_s_lookedTooOften v_s_arraysMade v_s_cellsMade a_s_classes a_s_starts a_s_lengths a_s_cells)) (cI := cs 0) (vc := a_vc) (vd := a_vd) (si := a_si_70) (sj := a_sj) (iv := a_iv) (inn := a_inn) (ac := a_ac) hf74
      have hDk := hD
      refine va_put (D := D) (ci := 5) (v := .int r4) (ty := .int) (C := RX6) (T := TX6) (N := 15) hx hb hts hinX6 tyX6 tyX6_ok nmX6 hown hK hP hD hS k78_ hk78_ rfl 5 (by decide) k_17_16 (fun _ h9 => h9) rfl (by decide +kernel) rfl rfl (Nat.le_of_ble_eq_true rfl) dX2_readHead_78 (fun H locs hP hD hS => ?_)
      obtain ⟨a_si_78, e_a_si_78⟩ : ∃ g, g = up2 a_si_70 a_r_now 5 r4 := ⟨_, rfl⟩
      have hP : va_P D vwCl (tw cs q v_t_tapeSize v_t_textSize v_t_faultKind a_t_tape a_t_text a_g_beyond v_g_size a_g_steps a_h_beyond v_h_size a_h_steps a_r_scratch a_r_now v_r_takes v_r_negative v_r_namePlace v_r_faultKind v_r_faultPlace v_a_size v_a_limit v_a_digits_50 v_a_kind_50 v_a_from_50 v_a_to_50 v_o_size a_o_out v_b_size v_b_limit v_b_digits v_b_kind v_b_from v_b_to a_u_atom a_u_other a_u_hand v_u_marksMade v_u_came v_u_guesses v_u_right v_u_taken a_u_vars a_u_marks a_u_outcomes a_u_indexes v_s_things v_s_looked v_s_lookedTooOften v_s_arraysMade v_s_cellsMade a_s_classes a_s_starts a_s_lengths a_s_cells a_L a_K a_vc a_vd a_si_78 a_sj a_iv a_inn a_ac) H := by rw [e_a_si_78]; exact vaP_eq (pu_first_ hDk hf74 hk78_ _) hP
      have hD : va_D A (tw cs q v_t_tapeSize v_t_textSize v_t_faultKind a_t_tape a_t_text a_g_beyond v_g_size a_g_steps a_h_beyond v_h_size a_h_steps a_r_scratch a_r_now v_r_takes v_r_negative v_r_namePlace v_r_faultKind v_r_faultPlace v_a_size v_a_limit v_a_digits_50 v_a_kind_50 v_a_from_50 v_a_to_50 v_o_size a_o_out v_b_size v_b_limit v_b_digits v_b_kind v_b_from v_b_to a_u_atom a_u_other a_u_hand v_u_marksMade v_u_came v_u_guesses v_u_right v_u_taken a_u_vars a_u_marks a_u_outcomes a_u_indexes v_s_things v_s_looked v_s_lookedTooOften v_s_arraysMade v_s_cellsMade a_s_classes a_s_starts a_s_lengths a_s_cells a_L a_K a_vc a_vd a_si_78 a_sj a_iv a_inn a_ac) := by rw [e_a_si_78]; exact vaD_eq (pu_first_ hDk hf74 hk78_ _) hD
      have hPI : PI a_L a_K a_si_78 a_iv a_inn := by exact PI.up (by assumption) e_a_si_78 (by decide)
      refine lv_iconst (v := 1) hx hb dX2_readHead_81 (by decide) ?_
      subst hAe
      rw [hQ]
      exact W.zret (v := 1) hx hb hr (by decide) (fun t ht hW => ⟨⟨1, _, rfl, ⟨v_r_faultKind, v_r_faultPlace, v_a_digits_50, v_a_kind_50, v_a_from_50, v_a_to_50, a_si_78, rfl, by first | assumption | omega | (intros; omega) | decide, by first | assumption | omega | (intros; omega) | decide, by first | assumption | omega | (intros; omega) | decide⟩, by rw [ht]; exact hP, va_K.moved hW.alike hK, hD⟩, hS.F ht⟩) hS.2.2 dX2_readHead_82
  · skip
    refine lv_aload_n hx hb dX2_readHead_13 rfl (lv_at hl 1 rfl) ?_
    have hf14 : aS a_L a_K a_r_now := by first | assumption
    refine va_get (D := D) (ci := 1) (v := .ref a_r_now) (C := RX2) (T := TX2) (N := 8) hx hb hts hinX2 hown hK hP 7 rfl rfl 2 (by decide) k_3_14 (fun _ h9 => h9) rfl dX2_readHead_14 ?_
    refine lv_aload_n hx hb dX2_readHead_17 rfl (lv_at hl 1 rfl) ?_
    refine va_get (D := D) (ci := 1) (v := .ref (q 8)) (C := RX2) (T := TX2) (N := 8) hx hb hts hinX2 hown hK hP 7 rfl rfl 0 (by decide) k_3_11 (fun _ h9 => h9) rfl dX2_readHead_18 ?_
    refine va_ldcS hx hb hown (ld_4 hE) dX2_readHead_21 ?_
    refine call_i (As := [.ref (K 0 4)]) (rest := [.ref a_r_now]) ⟨hx, hb, hml, hown, hts⟩ (tX1_wordIn_qa (l := l) 4 so_4 (by first | assumption | omega | (intros; omega) | decide)) (cwV 1 hts (gV (wr15 _ (List.mem_of_getElem? (i := 16) rfl)) (wr14 _ (List.mem_of_getElem? (i := 12) rfl)) (wr14 _ (List.mem_of_getElem? (i := 13) rfl)) (wr2 _ (List.mem_of_getElem? (i := 2) rfl)) (wr14 _ (List.mem_of_getElem? (i := 14) rfl))) rfl rfl rfl (by decide +kernel) ⟨Nat.le_of_ble_eq_true rfl, Nat.le_of_ble_eq_true rfl⟩) (va_recv hK hP (ci := 0) (q0 := 8) rfl rfl) hK hP hD hE hS hA rfl hl.1 rfl (Nat.le_of_ble_eq_true rfl) dX2_readHead_23 ⟨Nat.le_of_ble_eq_true rfl, Nat.le_of_ble_eq_true rfl⟩ (fun r23 w9 H locs hw23 hP hD hS => ?_)
    obtain ⟨rfl, hw23_0, hw23_1⟩ := hw23
    have b_r23 := iB r23
    refine lv_iconst (v := 1) hx hb dX2_readHead_26 (by decide) ?_
    refine m_iadd (X := r23.toInt) (Y := 1) hx hb dX2_readHead_27 rfl (by decide) (fun x27 e_x27 g9 => ?_)
    obtain ⟨k_x27, g_x27⟩ := g9
    have b_x27 := iB x27
    try (have q_x27 : x27.toInt = r23.toInt + 1 := (by omega); clear g_x27 k_x27)
    obtain ⟨k28_, hk28_⟩ := pl_S (X := (twX cs q v_t_tapeSize v_t_textSize v_t_faultKind a_t_tape a_t_text a_g_beyond v_g_size a_g_steps a_h_beyond v_h_size a_h_steps a_r_scratch a_r_now v_r_takes v_r_negative v_r_namePlace v_r_faultKind v_r_faultPlace v_a_size v_a_limit v_a_digits v_a_kind v_a_from v_a_to v_o_size a_o_out v_b_size v_b_limit v_b_digits v_b_kind v_b_from v_b_to a_u_atom a_u_other a_u_hand v_u_marksMade v_u_came v_u_guesses v_u_right v_u_taken a_u_vars a_u_marks a_u_outcomes a_u_indexes v_s_things v_s_looked v_s_lookedTooOften v_s_arraysMade v_s_cellsMade a_s_classes a_s_starts a_s_lengths a_s_cells)) (cI := cs 0) (vc := a_vc) (vd := a_vd) (si := a_si) (sj := a_sj) (iv := a_iv) (inn := a_inn) (ac := a_ac) hf14
    have hDk := hD
    refine va_put (D := D) (ci := 5) (v := .int x27) (ty := .int) (C := RX6) (T := TX6) (N := 15) hx hb hts hinX6 tyX6 tyX6_ok nmX6 hown hK hP hD hS k28_ hk28_ rfl 0 (by decide) k_17_15 (fun _ h9 => h9) rfl (by decide +kernel) rfl rfl (Nat.le_of_ble_eq_true rfl) dX2_readHead_28 (fun H locs hP hD hS => ?_)
    obtain ⟨a_si_28, e_a_si_28⟩ : ∃ g, g = up2 a_si a_r_now 0 x27 := ⟨_, rfl⟩
    have hP : va_P D vwCl (tw cs q v_t_tapeSize v_t_textSize v_t_faultKind a_t_tape a_t_text a_g_beyond v_g_size a_g_steps a_h_beyond v_h_size a_h_steps a_r_scratch a_r_now v_r_takes v_r_negative v_r_namePlace v_r_faultKind v_r_faultPlace v_a_size v_a_limit v_a_digits v_a_kind v_a_from v_a_to v_o_size a_o_out v_b_size v_b_limit v_b_digits v_b_kind v_b_from v_b_to a_u_atom a_u_other a_u_hand v_u_marksMade v_u_came v_u_guesses v_u_right v_u_taken a_u_vars a_u_marks a_u_outcomes a_u_indexes v_s_things v_s_looked v_s_lookedTooOften v_s_arraysMade v_s_cellsMade a_s_classes a_s_starts a_s_lengths a_s_cells a_L a_K a_vc a_vd a_si_28 a_sj a_iv a_inn a_ac) H := by rw [e_a_si_28]; exact vaP_eq (pu_act_ hDk hf14 hk28_ _) hP
    have hD : va_D A (tw cs q v_t_tapeSize v_t_textSize v_t_faultKind a_t_tape a_t_text a_g_beyond v_g_size a_g_steps a_h_beyond v_h_size a_h_steps a_r_scratch a_r_now v_r_takes v_r_negative v_r_namePlace v_r_faultKind v_r_faultPlace v_a_size v_a_limit v_a_digits v_a_kind v_a_from v_a_to v_o_size a_o_out v_b_size v_b_limit v_b_digits v_b_kind v_b_from v_b_to a_u_atom a_u_other a_u_hand v_u_marksMade v_u_came v_u_guesses v_u_right v_u_taken a_u_vars a_u_marks a_u_outcomes a_u_indexes v_s_things v_s_looked v_s_lookedTooOften v_s_arraysMade v_s_cellsMade a_s_classes a_s_starts a_s_lengths a_s_cells a_L a_K a_vc a_vd a_si_28 a_sj a_iv a_inn a_ac) := by rw [e_a_si_28]; exact vaD_eq (pu_act_ hDk hf14 hk28_ _) hD
    have hPI : PI a_L a_K a_si_28 a_iv a_inn := by exact PI.up (by assumption) e_a_si_28 (by decide)
    refine lv_aload_n hx hb dX2_readHead_31 rfl (lv_at hl 1 rfl) ?_
    refine lv_aload_n hx hb dX2_readHead_32 rfl (lv_at hl 1 rfl) ?_
    have hf33 : aS a_L a_K a_r_now := by first | assumption
    refine va_get (D := D) (ci := 1) (v := .ref a_r_now) (C := RX2) (T := TX2) (N := 8) hx hb hts hinX2 hown hK hP 7 rfl rfl 2 (by decide) k_3_14 (fun _ h9 => h9) rfl dX2_readHead_33 ?_
    obtain ⟨k36_, hk36_⟩ := pl_S (X := (twX cs q v_t_tapeSize v_t_textSize v_t_faultKind a_t_tape a_t_text a_g_beyond v_g_size a_g_steps a_h_beyond v_h_size a_h_steps a_r_scratch a_r_now v_r_takes v_r_negative v_r_namePlace v_r_faultKind v_r_faultPlace v_a_size v_a_limit v_a_digits v_a_kind v_a_from v_a_to v_o_size a_o_out v_b_size v_b_limit v_b_digits v_b_kind v_b_from v_b_to a_u_atom a_u_other a_u_hand v_u_marksMade v_u_came v_u_guesses v_u_right v_u_taken a_u_vars a_u_marks a_u_outcomes a_u_indexes v_s_things v_s_looked v_s_lookedTooOften v_s_arraysMade v_s_cellsMade a_s_classes a_s_starts a_s_lengths a_s_cells)) (cI := cs 0) (vc := a_vc) (vd := a_vd) (si := a_si_28) (sj := a_sj) (iv := a_iv) (inn := a_inn) (ac := a_ac) hf33
    refine va_get (D := D) (ci := 5) (v := .int (a_si_28 a_r_now 0)) (C := RX6) (T := TX6) (N := 15) hx hb hts hinX6 hown hK hP k36_ hk36_ rfl 0 (by decide) k_17_15 (fun _ h9 => h9) rfl dX2_readHead_36 ?_
    refine lv_topi (fun x36 e_x36 => ?_)
    have b_x36 := iB x36
    refine call_iSP (As := [.int x36]) (rest := [.ref (q 7)]) ⟨hx, hb, hml, hown, hts⟩ (tX2_leads (l := l) x36) (va_cwS 1 hts (gS (wr15 _ (List.mem_of_getElem? (i := 17) rfl)) (wr15 _ (List.mem_of_getElem? (i := 18) rfl)) (wr1 _ (List.mem_of_getElem? (i := 23) rfl)) (wr15 _ (List.mem_of_getElem? (i := 19) rfl))) rfl rfl rfl (by decide +kernel) ⟨Nat.le_of_ble_eq_true rfl, Nat.le_of_ble_eq_true rfl⟩) (hK.sub [] rfl) hP hD hE hS hA rfl hl.1 rfl (Nat.le_of_ble_eq_true rfl) dX2_readHead_39 ⟨Nat.le_of_ble_eq_true rfl, Nat.le_of_ble_eq_true rfl⟩ (fun r39 w9 H locs hw39 hP hD hS => ?_)
    obtain ⟨rfl, hw39_0⟩ := hw39
    have b_r39 := iB r39
    refine call_i (As := [.int r39]) (rest := []) ⟨hx, hb, hml, hown, hts⟩ (tX2_passIf (l := l) r39 (by first | assumption | omega | (intros; omega) | decide)) (cwV 1 hts (gV (wr17 _ (List.mem_of_getElem? (i := 2) rfl)) (wr17 _ (List.mem_of_getElem? (i := 3) rfl)) (wr17 _ (List.mem_of_getElem? (i := 4) rfl)) (wr1 _ (List.mem_of_getElem? (i := 23) rfl)) (wr17 _ (List.mem_of_getElem? (i := 5) rfl))) rfl rfl rfl (by decide +kernel) ⟨Nat.le_of_ble_eq_true rfl, Nat.le_of_ble_eq_true rfl⟩) (va_recv hK hP (ci := 1) (q0 := 7) rfl rfl) hK hP hD hE hS hA rfl hl.1 rfl (Nat.le_of_ble_eq_true rfl) dX2_readHead_42 ⟨Nat.le_of_ble_eq_true rfl, Nat.le_of_ble_eq_true rfl⟩ (fun r42 w9 H locs hw42 hP hD hS => ?_)
    obtain ⟨v_r_faultKind_42, v_r_faultPlace_42, v_a_digits_42, v_a_kind_42, v_a_from_42, v_a_to_42, rfl, hw42_0, hw42_1⟩ := hw42
    have b_v_r_faultKind_42 := iB v_r_faultKind_42
    have b_v_r_faultPlace_42 := iB v_r_faultPlace_42
    have b_v_a_digits_42 := iB v_a_digits_42
    have b_v_a_kind_42 := iB v_a_kind_42
    have b_v_a_from_42 := iB v_a_from_42
    have b_v_a_to_42 := iB v_a_to_42
    have b_r42 := iB r42
    subst hAe
    rw [hQ]
    exact W.zret (v := r42) hx hb hr (nbool (by first | omega | decide)) (fun t ht hW => ⟨⟨r42, _, rfl, ⟨v_r_faultKind_42, v_r_faultPlace_42, v_a_digits_42, v_a_kind_42, v_a_from_42, v_a_to_42, a_si_28, rfl, by first | assumption | omega | (intros; omega) | decide, by first | assumption | omega | (intros; omega) | decide, by first | assumption | omega | (intros; omega) | decide⟩, by rw [ht]; exact hP, va_K.moved hW.alike hK, hD⟩, hS.F ht⟩) hS.2.2 dX2_readHead_45

def rmX2_partsOf : Room := { frames := 20, cells := 0, slots := 0, locals := 400 }
set_option maxHeartbeats 4000000 in
set_option maxRecDepth 100000 in
theorem tX2_partsOf {l : Launch} {D : va_G} {K : Nat → Nat → Nat} {cs : Nat → ClassId} {q : Nat → Nat} {v_t_tapeSize v_t_textSize v_t_faultKind v_g_size v_h_size v_r_takes v_r_negative v_r_namePlace v_r_faultKind v_r_faultPlace v_a_size v_a_limit v_a_digits v_a_kind v_a_from v_a_to v_o_size v_b_size v_b_limit v_b_digits v_b_kind v_b_from v_b_to v_u_marksMade v_u_came v_u_guesses v_u_right v_u_taken v_s_things v_s_looked v_s_lookedTooOften v_s_arraysMade v_s_cellsMade : Int32} {a_t_tape a_t_text a_o_out a_u_outcomes a_u_indexes a_s_classes a_s_starts a_s_lengths a_vc : Nat → Int32} {a_g_beyond a_h_beyond a_r_scratch a_r_now a_u_atom a_u_other a_u_hand : Nat} {a_g_steps a_h_steps a_u_vars a_u_marks : Nat → Option Nat} {a_s_cells a_vd a_sj : Nat → Int64} {a_L : List Nat} {a_K a_iv a_inn : Nat → Nat} {a_si a_ac : Nat → Nat → Int32} (s9 : Nat) (h_s9 : aS a_L a_K s9) : CtR l yX2_partsOf (wG yX2_partsOf cX2_partsOf 1 (some (.object "java/lang/String"))) rmX2_partsOf D (twT cs) K [.ref s9] (tw cs q v_t_tapeSize v_t_textSize v_t_faultKind a_t_tape a_t_text a_g_beyond v_g_size a_g_steps a_h_beyond v_h_size a_h_steps a_r_scratch a_r_now v_r_takes v_r_negative v_r_namePlace v_r_faultKind v_r_faultPlace v_a_size v_a_limit v_a_digits v_a_kind v_a_from v_a_to v_o_size a_o_out v_b_size v_b_limit v_b_digits v_b_kind v_b_from v_b_to a_u_atom a_u_other a_u_hand v_u_marksMade v_u_came v_u_guesses v_u_right v_u_taken a_u_vars a_u_marks a_u_outcomes a_u_indexes v_s_things v_s_looked v_s_lookedTooOften v_s_arraysMade v_s_cellsMade a_s_classes a_s_starts a_s_lengths a_s_cells a_L a_K a_vc a_vd a_si a_sj a_iv a_inn a_ac) (fun r w1 => w1 = (tw cs q v_t_tapeSize v_t_textSize v_t_faultKind a_t_tape a_t_text a_g_beyond v_g_size a_g_steps a_h_beyond v_h_size a_h_steps a_r_scratch a_r_now v_r_takes v_r_negative v_r_namePlace v_r_faultKind v_r_faultPlace v_a_size v_a_limit v_a_digits v_a_kind v_a_from v_a_to v_o_size a_o_out v_b_size v_b_limit v_b_digits v_b_kind v_b_from v_b_to a_u_atom a_u_other a_u_hand v_u_marksMade v_u_came v_u_guesses v_u_right v_u_taken a_u_vars a_u_marks a_u_outcomes a_u_indexes v_s_things v_s_looked v_s_lookedTooOften v_s_arraysMade v_s_cellsMade a_s_classes a_s_starts a_s_lengths a_s_cells a_L a_K a_vc a_vd a_si a_sj a_iv a_inn a_ac) ∧ ∃ (ri : Nat) (tx : List Int32), r = K 0 ri ∧ sOf ri tx) 0 0 := by
  intro sz
  refine Met.ofW (cc := cX2_partsOf) (maxL := 1) (ret := (some (.object "java/lang/String"))) (by decide) rfl ?_
  intro p e s m args below meth c s₁ B hml hv
  obtain ⟨rfl, hsz, hP, hK, hD0, hE⟩ := hv
  have hx := B.exec
  have hb := B.bytes
  have hr := B.returns
  have hts := atoms_spec (ws := (wG yX2_partsOf cX2_partsOf 1 (some (.object "java/lang/String")))) B.pre
  have hown : s.vm.findClass RX2 = some m.cls := findClass_of_methodNamed B.named
  have hlocks := B.notSynchronized
  subst hsz
  have hD := hD0.self (sz := s.heap.size)
  obtain ⟨A, hAe⟩ : ∃ A : Nat → Prop, A = va_A (tw cs q v_t_tapeSize v_t_textSize v_t_faultKind a_t_tape a_t_text a_g_beyond v_g_size a_g_steps a_h_beyond v_h_size a_h_steps a_r_scratch a_r_now v_r_takes v_r_negative v_r_namePlace v_r_faultKind v_r_faultPlace v_a_size v_a_limit v_a_digits v_a_kind v_a_from v_a_to v_o_size a_o_out v_b_size v_b_limit v_b_digits v_b_kind v_b_from v_b_to a_u_atom a_u_other a_u_hand v_u_marksMade v_u_came v_u_guesses v_u_right v_u_taken a_u_vars a_u_marks a_u_outcomes a_u_indexes v_s_things v_s_looked v_s_lookedTooOften v_s_arraysMade v_s_cellsMade a_s_classes a_s_starts a_s_lengths a_s_cells a_L a_K a_vc a_vd a_si a_sj a_iv a_inn a_ac) s.heap.size := ⟨_, rfl⟩
  rw [← hAe] at hD hE
  have hA : ∀ q : Nat, s.heap.size ≤ q → A q := fun q h => by rw [hAe]; exact Or.inr h
  have hS : va_S A s.heap s.heap [] := va_S.rf
  have hl := lv_entry ([.ref s9]) (n := 1) (Nat.le_of_ble_eq_true rfl)
  rw [lg_entry_eq]
  generalize (lg_sl ([.ref s9]) ++ List.replicate (1 - (lg_sl ([.ref s9])).length) Slot.unset).toArray = ls at hl ⊢
  have hl : lv_has ls 1 [(0, .ref s9)] := hl
  refine wq (fun Q hQ => ?_)
  have hinX6 : ∀ w ∈ wsX60, w ∈ (wG yX2_partsOf cX2_partsOf 1 (some (.object "java/lang/String"))) := fun w h => List.mem_cons_of_mem _ (inlX6 w h)
  have kc0 : (-1 : Int32).toInt = -1 := by decide
  have k_17_15 := hts (.fieldLink RX2 133 "ArrayTrainer$Step" "act" "I") (List.mem_cons_of_mem _ (wr17 _ (List.mem_of_getElem? (i := 15) rfl)))
  have k_18_2 := hts (.fieldLink RX2 152 "ArrayTrainer$Step" "atomVar" "I") (List.mem_cons_of_mem _ (wr18 _ (List.mem_of_getElem? (i := 2) rfl)))
  obtain ⟨H, hH⟩ : ∃ H : Heap, H = s.heap := ⟨_, rfl⟩
  obtain ⟨locs, hlc⟩ : ∃ L : List Loc, L = [] := ⟨_, rfl⟩
  have hP : va_P D vwCl (tw cs q v_t_tapeSize v_t_textSize v_t_faultKind a_t_tape a_t_text a_g_beyond v_g_size a_g_steps a_h_beyond v_h_size a_h_steps a_r_scratch a_r_now v_r_takes v_r_negative v_r_namePlace v_r_faultKind v_r_faultPlace v_a_size v_a_limit v_a_digits v_a_kind v_a_from v_a_to v_o_size a_o_out v_b_size v_b_limit v_b_digits v_b_kind v_b_from v_b_to a_u_atom a_u_other a_u_hand v_u_marksMade v_u_came v_u_guesses v_u_right v_u_taken a_u_vars a_u_marks a_u_outcomes a_u_indexes v_s_things v_s_looked v_s_lookedTooOften v_s_arraysMade v_s_cellsMade a_s_classes a_s_starts a_s_lengths a_s_cells a_L a_K a_vc a_vd a_si a_sj a_iv a_inn a_ac) H := by rw [hH]; exact hP
  have hS : va_S A s.heap H locs := by rw [hH, hlc]; exact hS
  refine wHL hH hlc ?_
  refine lv_aload_n hx hb dX2_partsOf_0 rfl (lv_at hl 0 rfl) ?_
  obtain ⟨k1_, hk1_⟩ := pl_S (X := (twX cs q v_t_tapeSize v_t_textSize v_t_faultKind a_t_tape a_t_text a_g_beyond v_g_size a_g_steps a_h_beyond v_h_size a_h_steps a_r_scratch a_r_now v_r_takes v_r_negative v_r_namePlace v_r_faultKind v_r_faultPlace v_a_size v_a_limit v_a_digits v_a_kind v_a_from v_a_to v_o_size a_o_out v_b_size v_b_limit v_b_digits v_b_kind v_b_from v_b_to a_u_atom a_u_other a_u_hand v_u_marksMade v_u_came v_u_guesses v_u_right v_u_taken a_u_vars a_u_marks a_u_outcomes a_u_indexes v_s_things v_s_looked v_s_lookedTooOften v_s_arraysMade v_s_cellsMade a_s_classes a_s_starts a_s_lengths a_s_cells)) (cI := cs 0) (vc := a_vc) (vd := a_vd) (si := a_si) (sj := a_sj) (iv := a_iv) (inn := a_inn) (ac := a_ac) h_s9
  refine va_get (D := D) (ci := 5) (v := .int (a_si s9 0)) (C := RX6) (T := TX6) (N := 15) hx hb hts hinX6 hown hK hP k1_ hk1_ rfl 0 (by decide) k_17_15 (fun _ h9 => h9) rfl dX2_partsOf_1 ?_
  refine lv_topi (fun x1 e_x1 => ?_)
  have b_x1 := iB x1
  rcases (show (x1.toInt < 1 ∨ 21 < x1.toInt) ∨ x1.toInt = 1 ∨ x1.toInt = 2 ∨ x1.toInt = 3 ∨ x1.toInt = 4 ∨ x1.toInt = 5 ∨ x1.toInt = 6 ∨ x1.toInt = 7 ∨ x1.toInt = 8 ∨ x1.toInt = 9 ∨ x1.toInt = 10 ∨ x1.toInt = 11 ∨ x1.toInt = 12 ∨ x1.toInt = 13 ∨ x1.toInt = 14 ∨ x1.toInt = 15 ∨ x1.toInt = 16 ∨ x1.toInt = 17 ∨ x1.toInt = 18 ∨ x1.toInt = 19 ∨ x1.toInt = 20 ∨ x1.toInt = 21 by omega) with c4 | c4 | c4 | c4 | c4 | c4 | c4 | c4 | c4 | c4 | c4 | c4 | c4 | c4 | c4 | c4 | c4 | c4 | c4 | c4 | c4 | c4
  · skip
    refine lv_tableOut (tgt := 159) hx hb dX2_partsOf_4 c4 (by decide) ?_
    refine va_ldcS hx hb hown (ld_21 hE) dX2_partsOf_159 ?_
    subst hAe
    rw [hQ]
    exact W.aret (v := .ref (K 0 21)) hx hb hr (Or.inl ⟨_, rfl⟩) (Or.inr ⟨_, rfl⟩) (fun t ht hW => ⟨⟨_, _, rfl, trivial, ⟨⟨rfl, 21, [118, 59], rfl, so_21⟩, by rw [ht]; exact hP, va_K.moved hW.alike hK, hD⟩⟩, hS.F ht⟩) hS.2.2 dX2_partsOf_161
  · skip
    refine lv_tableIn (tgt := 104) (off := 100) hx hb dX2_partsOf_4 (by omega) (by omega) (by rw [c4]; rfl) (by decide) ?_
    refine lv_aload_n hx hb dX2_partsOf_104 rfl (lv_at hl 0 rfl) ?_
    obtain ⟨k105_, hk105_⟩ := pl_S (X := (twX cs q v_t_tapeSize v_t_textSize v_t_faultKind a_t_tape a_t_text a_g_beyond v_g_size a_g_steps a_h_beyond v_h_size a_h_steps a_r_scratch a_r_now v_r_takes v_r_negative v_r_namePlace v_r_faultKind v_r_faultPlace v_a_size v_a_limit v_a_digits v_a_kind v_a_from v_a_to v_o_size a_o_out v_b_size v_b_limit v_b_digits v_b_kind v_b_from v_b_to a_u_atom a_u_other a_u_hand v_u_marksMade v_u_came v_u_guesses v_u_right v_u_taken a_u_vars a_u_marks a_u_outcomes a_u_indexes v_s_things v_s_looked v_s_lookedTooOften v_s_arraysMade v_s_cellsMade a_s_classes a_s_starts a_s_lengths a_s_cells)) (cI := cs 0) (vc := a_vc) (vd := a_vd) (si := a_si) (sj := a_sj) (iv := a_iv) (inn := a_inn) (ac := a_ac) h_s9
    refine va_get (D := D) (ci := 5) (v := .int (a_si s9 10)) (C := RX6) (T := TX6) (N := 15) hx hb hts hinX6 hown hK hP k105_ hk105_ rfl 12 (by decide) k_18_2 (fun _ h9 => h9) rfl dX2_partsOf_105 ?_
    refine lv_topi (fun x105 e_x105 => ?_)
    have b_x105 := iB x105
    refine lv_iconst (v := (-1)) hx hb dX2_partsOf_108 (by decide) ?_
    refine m_icmp_ne (X := x105.toInt) (Y := (-1)) (tgt := 117) hx hb dX2_partsOf_109 (by decide) rfl (by decide) (fun c109 => ?_) (fun c109 => ?_)
    · skip
      refine va_ldcS hx hb hown (ld_8 hE) dX2_partsOf_117 ?_
      subst hAe
      rw [hQ]
      exact W.aret (v := .ref (K 0 8)) hx hb hr (Or.inl ⟨_, rfl⟩) (Or.inr ⟨_, rfl⟩) (fun t ht hW => ⟨⟨_, _, rfl, trivial, ⟨⟨rfl, 8, [59], rfl, so_8⟩, by rw [ht]; exact hP, va_K.moved hW.alike hK, hD⟩⟩, hS.F ht⟩) hS.2.2 dX2_partsOf_119
    · skip
      refine va_ldcS hx hb hown (ld_7 hE) dX2_partsOf_112 ?_
      refine lv_goto (tgt := 119) hx hb dX2_partsOf_114 (by decide) ?_
      subst hAe
      rw [hQ]
      exact W.aret (v := .ref (K 0 7)) hx hb hr (Or.inl ⟨_, rfl⟩) (Or.inr ⟨_, rfl⟩) (fun t ht hW => ⟨⟨_, _, rfl, trivial, ⟨⟨rfl, 7, [109, 97, 59], rfl, so_7⟩, by rw [ht]; exact hP, va_K.moved hW.alike hK, hD⟩⟩, hS.F ht⟩) hS.2.2 dX2_partsOf_119
  · skip
    refine lv_tableIn (tgt := 120) (off := 116) hx hb dX2_partsOf_4 (by omega) (by omega) (by rw [c4]; rfl) (by decide) ?_
    refine va_ldcS hx hb hown (ld_9 hE) dX2_partsOf_120 ?_
    subst hAe
    rw [hQ]
    exact W.aret (v := .ref (K 0 9)) hx hb hr (Or.inl ⟨_, rfl⟩) (Or.inr ⟨_, rfl⟩) (fun t ht hW => ⟨⟨_, _, rfl, trivial, ⟨⟨rfl, 9, [91, 109, 105, 93, 42, 59], rfl, so_9⟩, by rw [ht]; exact hP, va_K.moved hW.alike hK, hD⟩⟩, hS.F ht⟩) hS.2.2 dX2_partsOf_122
  · skip
    refine lv_tableIn (tgt := 123) (off := 119) hx hb dX2_partsOf_4 (by omega) (by omega) (by rw [c4]; rfl) (by decide) ?_
    refine va_ldcS hx hb hown (ld_10 hE) dX2_partsOf_123 ?_
    subst hAe
    rw [hQ]
    exact W.aret (v := .ref (K 0 10)) hx hb hr (Or.inl ⟨_, rfl⟩) (Or.inr ⟨_, rfl⟩) (fun t ht hW => ⟨⟨_, _, rfl, trivial, ⟨⟨rfl, 10, [91, 109, 105, 93, 42, 61, 109, 97, 59], rfl, so_10⟩, by rw [ht]; exact hP, va_K.moved hW.alike hK, hD⟩⟩, hS.F ht⟩) hS.2.2 dX2_partsOf_125
  · skip
    refine lv_tableIn (tgt := 126) (off := 122) hx hb dX2_partsOf_4 (by omega) (by omega) (by rw [c4]; rfl) (by decide) ?_
    refine va_ldcS hx hb hown (ld_11 hE) dX2_partsOf_126 ?_
    subst hAe
    rw [hQ]
    exact W.aret (v := .ref (K 0 11)) hx hb hr (Or.inl ⟨_, rfl⟩) (Or.inr ⟨_, rfl⟩) (fun t ht hW => ⟨⟨_, _, rfl, trivial, ⟨⟨rfl, 11, [107, 118, 91, 109, 105, 93, 42, 59], rfl, so_11⟩, by rw [ht]; exact hP, va_K.moved hW.alike hK, hD⟩⟩, hS.F ht⟩) hS.2.2 dX2_partsOf_128
  · skip
    refine lv_tableIn (tgt := 129) (off := 125) hx hb dX2_partsOf_4 (by omega) (by omega) (by rw [c4]; rfl) (by decide) ?_
    refine va_ldcS hx hb hown (ld_12 hE) dX2_partsOf_129 ?_
    subst hAe
    rw [hQ]
    exact W.aret (v := .ref (K 0 12)) hx hb hr (Or.inl ⟨_, rfl⟩) (Or.inr ⟨_, rfl⟩) (fun t ht hW => ⟨⟨_, _, rfl, trivial, ⟨⟨rfl, 12, [107, 118, 91, 109, 105, 93, 42, 61, 109, 97, 59], rfl, so_12⟩, by rw [ht]; exact hP, va_K.moved hW.alike hK, hD⟩⟩, hS.F ht⟩) hS.2.2 dX2_partsOf_131
  · skip
    refine lv_tableIn (tgt := 132) (off := 128) hx hb dX2_partsOf_4 (by omega) (by omega) (by rw [c4]; rfl) (by decide) ?_
    refine va_ldcS hx hb hown (ld_13 hE) dX2_partsOf_132 ?_
    subst hAe
    rw [hQ]
    exact W.aret (v := .ref (K 0 13)) hx hb hr (Or.inl ⟨_, rfl⟩) (Or.inr ⟨_, rfl⟩) (fun t ht hW => ⟨⟨_, _, rfl, trivial, ⟨⟨rfl, 13, [118, 91, 109, 105, 93, 42, 59], rfl, so_13⟩, by rw [ht]; exact hP, va_K.moved hW.alike hK, hD⟩⟩, hS.F ht⟩) hS.2.2 dX2_partsOf_134
  · skip
    refine lv_tableIn (tgt := 135) (off := 131) hx hb dX2_partsOf_4 (by omega) (by omega) (by rw [c4]; rfl) (by decide) ?_
    refine va_ldcS hx hb hown (ld_14 hE) dX2_partsOf_135 ?_
    subst hAe
    rw [hQ]
    exact W.aret (v := .ref (K 0 14)) hx hb hr (Or.inl ⟨_, rfl⟩) (Or.inr ⟨_, rfl⟩) (fun t ht hW => ⟨⟨_, _, rfl, trivial, ⟨⟨rfl, 14, [118, 91, 109, 105, 93, 42, 61, 109, 97, 59], rfl, so_14⟩, by rw [ht]; exact hP, va_K.moved hW.alike hK, hD⟩⟩, hS.F ht⟩) hS.2.2 dX2_partsOf_137
  · skip
    refine lv_tableIn (tgt := 138) (off := 134) hx hb dX2_partsOf_4 (by omega) (by omega) (by rw [c4]; rfl) (by decide) ?_
    refine va_ldcS hx hb hown (ld_15 hE) dX2_partsOf_138 ?_
    subst hAe
    rw [hQ]
    exact W.aret (v := .ref (K 0 15)) hx hb hr (Or.inl ⟨_, rfl⟩) (Or.inr ⟨_, rfl⟩) (fun t ht hW => ⟨⟨_, _, rfl, trivial, ⟨⟨rfl, 15, [110, 91, 109, 105, 93, 43, 59], rfl, so_15⟩, by rw [ht]; exact hP, va_K.moved hW.alike hK, hD⟩⟩, hS.F ht⟩) hS.2.2 dX2_partsOf_140
  · skip
    refine lv_tableIn (tgt := 159) (off := 155) hx hb dX2_partsOf_4 (by omega) (by omega) (by rw [c4]; rfl) (by decide) ?_
    refine va_ldcS hx hb hown (ld_21 hE) dX2_partsOf_159 ?_
    subst hAe
    rw [hQ]
    exact W.aret (v := .ref (K 0 21)) hx hb hr (Or.inl ⟨_, rfl⟩) (Or.inr ⟨_, rfl⟩) (fun t ht hW => ⟨⟨_, _, rfl, trivial, ⟨⟨rfl, 21, [118, 59], rfl, so_21⟩, by rw [ht]; exact hP, va_K.moved hW.alike hK, hD⟩⟩, hS.F ht⟩) hS.2.2 dX2_partsOf_161
  · skip
    refine lv_tableIn (tgt := 141) (off := 137) hx hb dX2_partsOf_4 (by omega) (by omega) (by rw [c4]; rfl) (by decide) ?_
    refine va_ldcS hx hb hown (ld_16 hE) dX2_partsOf_141 ?_
    subst hAe
    rw [hQ]
    exact W.aret (v := .ref (K 0 16)) hx hb hr (Or.inl ⟨_, rfl⟩) (Or.inr ⟨_, rfl⟩) (fun t ht hW => ⟨⟨_, _, rfl, trivial, ⟨⟨rfl, 16, [118, 110, 47, 59], rfl, so_16⟩, by rw [ht]; exact hP, va_K.moved hW.alike hK, hD⟩⟩, hS.F ht⟩) hS.2.2 dX2_partsOf_143
  · skip
    refine lv_tableIn (tgt := 141) (off := 137) hx hb dX2_partsOf_4 (by omega) (by omega) (by rw [c4]; rfl) (by decide) ?_
    refine va_ldcS hx hb hown (ld_16 hE) dX2_partsOf_141 ?_
    subst hAe
    rw [hQ]
    exact W.aret (v := .ref (K 0 16)) hx hb hr (Or.inl ⟨_, rfl⟩) (Or.inr ⟨_, rfl⟩) (fun t ht hW => ⟨⟨_, _, rfl, trivial, ⟨⟨rfl, 16, [118, 110, 47, 59], rfl, so_16⟩, by rw [ht]; exact hP, va_K.moved hW.alike hK, hD⟩⟩, hS.F ht⟩) hS.2.2 dX2_partsOf_143
  · skip
    refine lv_tableIn (tgt := 144) (off := 140) hx hb dX2_partsOf_4 (by omega) (by omega) (by rw [c4]; rfl) (by decide) ?_
    refine va_ldcS hx hb hown (ld_17 hE) dX2_partsOf_144 ?_
    subst hAe
    rw [hQ]
    exact W.aret (v := .ref (K 0 17)) hx hb hr (Or.inl ⟨_, rfl⟩) (Or.inr ⟨_, rfl⟩) (fun t ht hW => ⟨⟨_, _, rfl, trivial, ⟨⟨rfl, 17, [118, 119, 59], rfl, so_17⟩, by rw [ht]; exact hP, va_K.moved hW.alike hK, hD⟩⟩, hS.F ht⟩) hS.2.2 dX2_partsOf_146
  · skip
    refine lv_tableIn (tgt := 159) (off := 155) hx hb dX2_partsOf_4 (by omega) (by omega) (by rw [c4]; rfl) (by decide) ?_
    refine va_ldcS hx hb hown (ld_21 hE) dX2_partsOf_159 ?_
    subst hAe
    rw [hQ]
    exact W.aret (v := .ref (K 0 21)) hx hb hr (Or.inl ⟨_, rfl⟩) (Or.inr ⟨_, rfl⟩) (fun t ht hW => ⟨⟨_, _, rfl, trivial, ⟨⟨rfl, 21, [118, 59], rfl, so_21⟩, by rw [ht]; exact hP, va_K.moved hW.alike hK, hD⟩⟩, hS.F ht⟩) hS.2.2 dX2_partsOf_161
  · skip
    refine lv_tableIn (tgt := 159) (off := 155) hx hb dX2_partsOf_4 (by omega) (by omega) (by rw [c4]; rfl) (by decide) ?_
    refine va_ldcS hx hb hown (ld_21 hE) dX2_partsOf_159 ?_
    subst hAe
    rw [hQ]
    exact W.aret (v := .ref (K 0 21)) hx hb hr (Or.inl ⟨_, rfl⟩) (Or.inr ⟨_, rfl⟩) (fun t ht hW => ⟨⟨_, _, rfl, trivial, ⟨⟨rfl, 21, [118, 59], rfl, so_21⟩, by rw [ht]; exact hP, va_K.moved hW.alike hK, hD⟩⟩, hS.F ht⟩) hS.2.2 dX2_partsOf_161
  · skip
    refine lv_tableIn (tgt := 159) (off := 155) hx hb dX2_partsOf_4 (by omega) (by omega) (by rw [c4]; rfl) (by decide) ?_
    refine va_ldcS hx hb hown (ld_21 hE) dX2_partsOf_159 ?_
    subst hAe
    rw [hQ]
    exact W.aret (v := .ref (K 0 21)) hx hb hr (Or.inl ⟨_, rfl⟩) (Or.inr ⟨_, rfl⟩) (fun t ht hW => ⟨⟨_, _, rfl, trivial, ⟨⟨rfl, 21, [118, 59], rfl, so_21⟩, by rw [ht]; exact hP, va_K.moved hW.alike hK, hD⟩⟩, hS.F ht⟩) hS.2.2 dX2_partsOf_161
  · skip
    refine lv_tableIn (tgt := 144) (off := 140) hx hb dX2_partsOf_4 (by omega) (by omega) (by rw [c4]; rfl) (by decide) ?_
    refine va_ldcS hx hb hown (ld_17 hE) dX2_partsOf_144 ?_
    subst hAe
    rw [hQ]
    exact W.aret (v := .ref (K 0 17)) hx hb hr (Or.inl ⟨_, rfl⟩) (Or.inr ⟨_, rfl⟩) (fun t ht hW => ⟨⟨_, _, rfl, trivial, ⟨⟨rfl, 17, [118, 119, 59], rfl, so_17⟩, by rw [ht]; exact hP, va_K.moved hW.alike hK, hD⟩⟩, hS.F ht⟩) hS.2.2 dX2_partsOf_146
  · skip
    refine lv_tableIn (tgt := 147) (off := 143) hx hb dX2_partsOf_4 (by omega) (by omega) (by rw [c4]; rfl) (by decide) ?_
    refine va_ldcS hx hb hown (ld_18 hE) dX2_partsOf_147 ?_
    subst hAe
    rw [hQ]
    exact W.aret (v := .ref (K 0 18)) hx hb hr (Or.inl ⟨_, rfl⟩) (Or.inr ⟨_, rfl⟩) (fun t ht hW => ⟨⟨_, _, rfl, trivial, ⟨⟨rfl, 18, [118, 91, 109, 105, 93, 116, 119, 91, 109, 105, 93, 102, 109, 105, 59], rfl, so_18⟩, by rw [ht]; exact hP, va_K.moved hW.alike hK, hD⟩⟩, hS.F ht⟩) hS.2.2 dX2_partsOf_149
  · skip
    refine lv_tableIn (tgt := 150) (off := 146) hx hb dX2_partsOf_4 (by omega) (by omega) (by rw [c4]; rfl) (by decide) ?_
    refine va_ldcS hx hb hown (ld_19 hE) dX2_partsOf_150 ?_
    subst hAe
    rw [hQ]
    exact W.aret (v := .ref (K 0 19)) hx hb hr (Or.inl ⟨_, rfl⟩) (Or.inr ⟨_, rfl⟩) (fun t ht hW => ⟨⟨_, _, rfl, trivial, ⟨⟨rfl, 19, [118, 104, 109, 97, 59], rfl, so_19⟩, by rw [ht]; exact hP, va_K.moved hW.alike hK, hD⟩⟩, hS.F ht⟩) hS.2.2 dX2_partsOf_152
  · skip
    refine lv_tableIn (tgt := 153) (off := 149) hx hb dX2_partsOf_4 (by omega) (by omega) (by rw [c4]; rfl) (by decide) ?_
    refine va_ldcS hx hb hown (ld_20 hE) dX2_partsOf_153 ?_
    subst hAe
    rw [hQ]
    exact W.aret (v := .ref (K 0 20)) hx hb hr (Or.inl ⟨_, rfl⟩) (Or.inr ⟨_, rfl⟩) (fun t ht hW => ⟨⟨_, _, rfl, trivial, ⟨⟨rfl, 20, [118, 91, 109, 105, 93, 91, 109, 105, 93, 59], rfl, so_20⟩, by rw [ht]; exact hP, va_K.moved hW.alike hK, hD⟩⟩, hS.F ht⟩) hS.2.2 dX2_partsOf_155
  · skip
    refine lv_tableIn (tgt := 159) (off := 155) hx hb dX2_partsOf_4 (by omega) (by omega) (by rw [c4]; rfl) (by decide) ?_
    refine va_ldcS hx hb hown (ld_21 hE) dX2_partsOf_159 ?_
    subst hAe
    rw [hQ]
    exact W.aret (v := .ref (K 0 21)) hx hb hr (Or.inl ⟨_, rfl⟩) (Or.inr ⟨_, rfl⟩) (fun t ht hW => ⟨⟨_, _, rfl, trivial, ⟨⟨rfl, 21, [118, 59], rfl, so_21⟩, by rw [ht]; exact hP, va_K.moved hW.alike hK, hD⟩⟩, hS.F ht⟩) hS.2.2 dX2_partsOf_161
  · skip
    refine lv_tableIn (tgt := 156) (off := 152) hx hb dX2_partsOf_4 (by omega) (by omega) (by rw [c4]; rfl) (by decide) ?_
    refine va_ldcS hx hb hown (ld_7 hE) dX2_partsOf_156 ?_
    subst hAe
    rw [hQ]
    exact W.aret (v := .ref (K 0 7)) hx hb hr (Or.inl ⟨_, rfl⟩) (Or.inr ⟨_, rfl⟩) (fun t ht hW => ⟨⟨_, _, rfl, trivial, ⟨⟨rfl, 7, [109, 97, 59], rfl, so_7⟩, by rw [ht]; exact hP, va_K.moved hW.alike hK, hD⟩⟩, hS.F ht⟩) hS.2.2 dX2_partsOf_158

def rmX2_endClass : Room := { frames := 40, cells := 0, slots := 0, locals := 800 }
set_option maxHeartbeats 4000000 in
set_option maxRecDepth 100000 in
theorem tX2_endClass {l : Launch} {D : va_G} {K : Nat → Nat → Nat} {cs : Nat → ClassId} {q : Nat → Nat} {v_t_tapeSize v_t_textSize v_t_faultKind v_g_size v_h_size v_r_takes v_r_negative v_r_namePlace v_r_faultKind v_r_faultPlace v_a_size v_a_limit v_a_digits v_a_kind v_a_from v_a_to v_o_size v_b_size v_b_limit v_b_digits v_b_kind v_b_from v_b_to v_u_marksMade v_u_came v_u_guesses v_u_right v_u_taken v_s_things v_s_looked v_s_lookedTooOften v_s_arraysMade v_s_cellsMade : Int32} {a_t_tape a_t_text a_o_out a_u_outcomes a_u_indexes a_s_classes a_s_starts a_s_lengths a_vc : Nat → Int32} {a_g_beyond a_h_beyond a_r_scratch a_r_now a_u_atom a_u_other a_u_hand : Nat} {a_g_steps a_h_steps a_u_vars a_u_marks : Nat → Option Nat} {a_s_cells a_vd a_sj : Nat → Int64} {a_L : List Nat} {a_K a_iv a_inn : Nat → Nat} {a_si a_ac : Nat → Nat → Int32} (d9 : Int32) (p_0 : PI a_L a_K a_si a_iv a_inn) (p_1 : aS a_L a_K a_r_now) : CtI l yX2_endClass (wG yX2_endClass cX2_endClass 2 (some .boolean)) rmX2_endClass D (twT cs) K [.ref (q 7), .int d9] (tw cs q v_t_tapeSize v_t_textSize v_t_faultKind a_t_tape a_t_text a_g_beyond v_g_size a_g_steps a_h_beyond v_h_size a_h_steps a_r_scratch a_r_now v_r_takes v_r_negative v_r_namePlace v_r_faultKind v_r_faultPlace v_a_size v_a_limit v_a_digits v_a_kind v_a_from v_a_to v_o_size a_o_out v_b_size v_b_limit v_b_digits v_b_kind v_b_from v_b_to a_u_atom a_u_other a_u_hand v_u_marksMade v_u_came v_u_guesses v_u_right v_u_taken a_u_vars a_u_marks a_u_outcomes a_u_indexes v_s_things v_s_looked v_s_lookedTooOften v_s_arraysMade v_s_cellsMade a_s_classes a_s_starts a_s_lengths a_s_cells a_L a_K a_vc a_vd a_si a_sj a_iv a_inn a_ac) (fun r w1 => ∃ (v_r_faultKind' : Int32) (v_r_faultPlace' : Int32) (a_si' : Nat → Nat → Int32), w1 = (tw cs q v_t_tapeSize v_t_textSize v_t_faultKind a_t_tape a_t_text a_g_beyond v_g_size a_g_steps a_h_beyond v_h_size a_h_steps a_r_scratch a_r_now v_r_takes v_r_negative v_r_namePlace v_r_faultKind' v_r_faultPlace' v_a_size v_a_limit v_a_digits v_a_kind v_a_from v_a_to v_o_size a_o_out v_b_size v_b_limit v_b_digits v_b_kind v_b_from v_b_to a_u_atom a_u_other a_u_hand v_u_marksMade v_u_came v_u_guesses v_u_right v_u_taken a_u_vars a_u_marks a_u_outcomes a_u_indexes v_s_things v_s_looked v_s_lookedTooOften v_s_arraysMade v_s_cellsMade a_s_classes a_s_starts a_s_lengths a_s_cells a_L a_K a_vc a_vd a_si' a_sj a_iv a_inn a_ac) ∧ (PI a_L a_K a_si' a_iv a_inn) ∧ (r.toInt = 0 ∨ r.toInt = 1)) 0 0 := by
  intro sz
  refine Met.ofW (cc := cX2_endClass) (maxL := 2) (ret := (some .boolean)) (by decide) rfl ?_
  intro p e s m args below meth c s₁ B hml hv
  obtain ⟨rfl, hsz, hP, hK, hD0, hE⟩ := hv
  have hx := B.exec
  have hb := B.bytes
  have hr := B.returns
  have hts := atoms_spec (ws := (wG yX2_endClass cX2_endClass 2 (some .boolean))) B.pre
  have hown : s.vm.findClass RX2 = some m.cls := findClass_of_methodNamed B.named
  have hlocks := B.notSynchronized
  subst hsz
  have hD := hD0.self (sz := s.heap.size)
  obtain ⟨A, hAe⟩ : ∃ A : Nat → Prop, A = va_A (tw cs q v_t_tapeSize v_t_textSize v_t_faultKind a_t_tape a_t_text a_g_beyond v_g_size a_g_steps a_h_beyond v_h_size a_h_steps a_r_scratch a_r_now v_r_takes v_r_negative v_r_namePlace v_r_faultKind v_r_faultPlace v_a_size v_a_limit v_a_digits v_a_kind v_a_from v_a_to v_o_size a_o_out v_b_size v_b_limit v_b_digits v_b_kind v_b_from v_b_to a_u_atom a_u_other a_u_hand v_u_marksMade v_u_came v_u_guesses v_u_right v_u_taken a_u_vars a_u_marks a_u_outcomes a_u_indexes v_s_things v_s_looked v_s_lookedTooOften v_s_arraysMade v_s_cellsMade a_s_classes a_s_starts a_s_lengths a_s_cells a_L a_K a_vc a_vd a_si a_sj a_iv a_inn a_ac) s.heap.size := ⟨_, rfl⟩
  rw [← hAe] at hD hE
  have hA : ∀ q : Nat, s.heap.size ≤ q → A q := fun q h => by rw [hAe]; exact Or.inr h
  have hS : va_S A s.heap s.heap [] := va_S.rf
  have hl := lv_entry ([.ref (q 7), .int d9]) (n := 2) (Nat.le_of_ble_eq_true rfl)
  rw [lg_entry_eq]
  generalize (lg_sl ([.ref (q 7), .int d9]) ++ List.replicate (2 - (lg_sl ([.ref (q 7), .int d9])).length) Slot.unset).toArray = ls at hl ⊢
  have hl : lv_has ls 2 [(0, .ref (q 7)), (1, .int d9)] := hl
  refine wq (fun Q hQ => ?_)
  have hinX2 : ∀ w ∈ wsX20, w ∈ (wG yX2_endClass cX2_endClass 2 (some .boolean)) := fun w h => List.mem_cons_of_mem _ (inlX2 w h)
  have hinX6 : ∀ w ∈ wsX60, w ∈ (wG yX2_endClass cX2_endClass 2 (some .boolean)) := fun w h => List.mem_cons_of_mem _ (inlX6 w h)
  have kc0 : (0 : Int32).toInt = 0 := by decide
  have kc1 : (1 : Int32).toInt = 1 := by decide
  have kc2 : (3 : Int32).toInt = 3 := by decide
  have kc3 : (20 : Int32).toInt = 20 := by decide
  have k_3_14 := hts (.fieldLink RX2 22 "ArrayTrainer$Parser" "now" "LArrayTrainer$Step;") (List.mem_cons_of_mem _ (wr3 _ (List.mem_of_getElem? (i := 14) rfl)))
  have k_19_1 := hts (.fieldLink RX2 78 "ArrayTrainer$Step" "cls" "I") (List.mem_cons_of_mem _ (wr19 _ (List.mem_of_getElem? (i := 1) rfl)))
  have k_8_23 := hts (.fieldLink RX2 81 "ArrayTrainer$Parser" "faultKind" "I") (List.mem_cons_of_mem _ (wr8 _ (List.mem_of_getElem? (i := 23) rfl)))
  have k_19_2 := hts (.fieldLink RX2 215 "ArrayTrainer$Parser" "namePlace" "I") (List.mem_cons_of_mem _ (wr19 _ (List.mem_of_getElem? (i := 2) rfl)))
  have k_9_0 := hts (.fieldLink RX2 84 "ArrayTrainer$Parser" "faultPlace" "I") (List.mem_cons_of_mem _ (wr9 _ (List.mem_of_getElem? (i := 0) rfl)))
  obtain ⟨H, hH⟩ : ∃ H : Heap, H = s.heap := ⟨_, rfl⟩
  obtain ⟨locs, hlc⟩ : ∃ L : List Loc, L = [] := ⟨_, rfl⟩
  have hP : va_P D vwCl (tw cs q v_t_tapeSize v_t_textSize v_t_faultKind a_t_tape a_t_text a_g_beyond v_g_size a_g_steps a_h_beyond v_h_size a_h_steps a_r_scratch a_r_now v_r_takes v_r_negative v_r_namePlace v_r_faultKind v_r_faultPlace v_a_size v_a_limit v_a_digits v_a_kind v_a_from v_a_to v_o_size a_o_out v_b_size v_b_limit v_b_digits v_b_kind v_b_from v_b_to a_u_atom a_u_other a_u_hand v_u_marksMade v_u_came v_u_guesses v_u_right v_u_taken a_u_vars a_u_marks a_u_outcomes a_u_indexes v_s_things v_s_looked v_s_lookedTooOften v_s_arraysMade v_s_cellsMade a_s_classes a_s_starts a_s_lengths a_s_cells a_L a_K a_vc a_vd a_si a_sj a_iv a_inn a_ac) H := by rw [hH]; exact hP
  have hS : va_S A s.heap H locs := by rw [hH, hlc]; exact hS
  refine wHL hH hlc ?_
  have b_d9 := iB d9
  refine lv_aload_n hx hb dX2_endClass_0 rfl (lv_at hl 0 rfl) ?_
  have hf1 : aS a_L a_K a_r_now := by first | assumption
  refine va_get (D := D) (ci := 1) (v := .ref a_r_now) (C := RX2) (T := TX2) (N := 8) hx hb hts hinX2 hown hK hP 7 rfl rfl 2 (by decide) k_3_14 (fun _ h9 => h9) rfl dX2_endClass_1 ?_
  refine lv_dup hx hb dX2_endClass_4 rfl ?_
  obtain ⟨k5_, hk5_⟩ := pl_S (X := (twX cs q v_t_tapeSize v_t_textSize v_t_faultKind a_t_tape a_t_text a_g_beyond v_g_size a_g_steps a_h_beyond v_h_size a_h_steps a_r_scratch a_r_now v_r_takes v_r_negative v_r_namePlace v_r_faultKind v_r_faultPlace v_a_size v_a_limit v_a_digits v_a_kind v_a_from v_a_to v_o_size a_o_out v_b_size v_b_limit v_b_digits v_b_kind v_b_from v_b_to a_u_atom a_u_other a_u_hand v_u_marksMade v_u_came v_u_guesses v_u_right v_u_taken a_u_vars a_u_marks a_u_outcomes a_u_indexes v_s_things v_s_looked v_s_lookedTooOften v_s_arraysMade v_s_cellsMade a_s_classes a_s_starts a_s_lengths a_s_cells)) (cI := cs 0) (vc := a_vc) (vd := a_vd) (si := a_si) (sj := a_sj) (iv := a_iv) (inn := a_inn) (ac := a_ac) hf1
  refine va_get (D := D) (ci := 5) (v := .int (a_si a_r_now 7)) (C := RX6) (T := TX6) (N := 15) hx hb hts hinX6 hown hK hP k5_ hk5_ rfl 7 (by decide) k_19_1 (fun _ h9 => h9) rfl dX2_endClass_5 ?_
  refine lv_topi (fun x5 e_x5 => ?_)
  have b_x5 := iB x5
  refine lv_iload_n hx hb dX2_endClass_8 rfl (lv_at hl 1 rfl) ?_
  refine lv_bipush (v := 20) hx hb dX2_endClass_9 (by decide) ?_
  refine m_imul (X := d9.toInt) (Y := 20) hx hb dX2_endClass_11 rfl (by decide) (fun x11 e_x11 g9 => ?_)
  obtain ⟨k_x11, g_x11⟩ := g9
  have b_x11 := iB x11
  try (have q_x11 : x11.toInt = d9.toInt * 20 := (by omega); clear g_x11 k_x11)
  refine m_iadd (X := x5.toInt) (Y := x11.toInt) hx hb dX2_endClass_12 rfl rfl (fun x12 e_x12 g9 => ?_)
  obtain ⟨k_x12, g_x12⟩ := g9
  have b_x12 := iB x12
  try (have q_x12 : x12.toInt = x5.toInt + x11.toInt := (by omega); clear g_x12 k_x12)
  obtain ⟨k13_, hk13_⟩ := pl_S (X := (twX cs q v_t_tapeSize v_t_textSize v_t_faultKind a_t_tape a_t_text a_g_beyond v_g_size a_g_steps a_h_beyond v_h_size a_h_steps a_r_scratch a_r_now v_r_takes v_r_negative v_r_namePlace v_r_faultKind v_r_faultPlace v_a_size v_a_limit v_a_digits v_a_kind v_a_from v_a_to v_o_size a_o_out v_b_size v_b_limit v_b_digits v_b_kind v_b_from v_b_to a_u_atom a_u_other a_u_hand v_u_marksMade v_u_came v_u_guesses v_u_right v_u_taken a_u_vars a_u_marks a_u_outcomes a_u_indexes v_s_things v_s_looked v_s_lookedTooOften v_s_arraysMade v_s_cellsMade a_s_classes a_s_starts a_s_lengths a_s_cells)) (cI := cs 0) (vc := a_vc) (vd := a_vd) (si := a_si) (sj := a_sj) (iv := a_iv) (inn := a_inn) (ac := a_ac) hf1
  have hDk := hD
  refine va_put (D := D) (ci := 5) (v := .int x12) (ty := .int) (C := RX6) (T := TX6) (N := 15) hx hb hts hinX6 tyX6 tyX6_ok nmX6 hown hK hP hD hS k13_ hk13_ rfl 7 (by decide) k_19_1 (fun _ h9 => h9) rfl (by decide +kernel) rfl rfl (Nat.le_of_ble_eq_true rfl) dX2_endClass_13 (fun H locs hP hD hS => ?_)
  obtain ⟨a_si_13, e_a_si_13⟩ : ∃ g, g = up2 a_si a_r_now 7 x12 := ⟨_, rfl⟩
  have hP : va_P D vwCl (tw cs q v_t_tapeSize v_t_textSize v_t_faultKind a_t_tape a_t_text a_g_beyond v_g_size a_g_steps a_h_beyond v_h_size a_h_steps a_r_scratch a_r_now v_r_takes v_r_negative v_r_namePlace v_r_faultKind v_r_faultPlace v_a_size v_a_limit v_a_digits v_a_kind v_a_from v_a_to v_o_size a_o_out v_b_size v_b_limit v_b_digits v_b_kind v_b_from v_b_to a_u_atom a_u_other a_u_hand v_u_marksMade v_u_came v_u_guesses v_u_right v_u_taken a_u_vars a_u_marks a_u_outcomes a_u_indexes v_s_things v_s_looked v_s_lookedTooOften v_s_arraysMade v_s_cellsMade a_s_classes a_s_starts a_s_lengths a_s_cells a_L a_K a_vc a_vd a_si_13 a_sj a_iv a_inn a_ac) H := by rw [e_a_si_13]; exact vaP_eq (pu_cls_ hDk hf1 hk13_ _) hP
  have hD : va_D A (tw cs q v_t_tapeSize v_t_textSize v_t_faultKind a_t_tape a_t_text a_g_beyond v_g_size a_g_steps a_h_beyond v_h_size a_h_steps a_r_scratch a_r_now v_r_takes v_r_negative v_r_namePlace v_r_faultKind v_r_faultPlace v_a_size v_a_limit v_a_digits v_a_kind v_a_from v_a_to v_o_size a_o_out v_b_size v_b_limit v_b_digits v_b_kind v_b_from v_b_to a_u_atom a_u_other a_u_hand v_u_marksMade v_u_came v_u_guesses v_u_right v_u_taken a_u_vars a_u_marks a_u_outcomes a_u_indexes v_s_things v_s_looked v_s_lookedTooOften v_s_arraysMade v_s_cellsMade a_s_classes a_s_starts a_s_lengths a_s_cells a_L a_K a_vc a_vd a_si_13 a_sj a_iv a_inn a_ac) := by rw [e_a_si_13]; exact vaD_eq (pu_cls_ hDk hf1 hk13_ _) hD
  have hPI : PI a_L a_K a_si_13 a_iv a_inn := by exact PI.up (by assumption) e_a_si_13 (by decide)
  refine lv_aload_n hx hb dX2_endClass_16 rfl (lv_at hl 0 rfl) ?_
  have hf17 : aS a_L a_K a_r_now := by first | assumption
  refine va_get (D := D) (ci := 1) (v := .ref a_r_now) (C := RX2) (T := TX2) (N := 8) hx hb hts hinX2 hown hK hP 7 rfl rfl 2 (by decide) k_3_14 (fun _ h9 => h9) rfl dX2_endClass_17 ?_
  obtain ⟨k20_, hk20_⟩ := pl_S (X := (twX cs q v_t_tapeSize v_t_textSize v_t_faultKind a_t_tape a_t_text a_g_beyond v_g_size a_g_steps a_h_beyond v_h_size a_h_steps a_r_scratch a_r_now v_r_takes v_r_negative v_r_namePlace v_r_faultKind v_r_faultPlace v_a_size v_a_limit v_a_digits v_a_kind v_a_from v_a_to v_o_size a_o_out v_b_size v_b_limit v_b_digits v_b_kind v_b_from v_b_to a_u_atom a_u_other a_u_hand v_u_marksMade v_u_came v_u_guesses v_u_right v_u_taken a_u_vars a_u_marks a_u_outcomes a_u_indexes v_s_things v_s_looked v_s_lookedTooOften v_s_arraysMade v_s_cellsMade a_s_classes a_s_starts a_s_lengths a_s_cells)) (cI := cs 0) (vc := a_vc) (vd := a_vd) (si := a_si_13) (sj := a_sj) (iv := a_iv) (inn := a_inn) (ac := a_ac) hf17
  refine va_get (D := D) (ci := 5) (v := .int (a_si_13 a_r_now 7)) (C := RX6) (T := TX6) (N := 15) hx hb hts hinX6 hown hK hP k20_ hk20_ rfl 7 (by decide) k_19_1 (fun _ h9 => h9) rfl dX2_endClass_20 ?_
  refine lv_topi (fun x20 e_x20 => ?_)
  have b_x20 := iB x20
  refine call_iSP (As := [.int x20]) (rest := []) ⟨hx, hb, hml, hown, hts⟩ (tX0_isClass (l := l) x20) (va_cwS 1 hts (gS (wr19 _ (List.mem_of_getElem? (i := 3) rfl)) (wr19 _ (List.mem_of_getElem? (i := 4) rfl)) (wr19 _ (List.mem_of_getElem? (i := 5) rfl)) (wr19 _ (List.mem_of_getElem? (i := 6) rfl))) rfl rfl rfl (by decide +kernel) ⟨Nat.le_of_ble_eq_true rfl, Nat.le_of_ble_eq_true rfl⟩) (hK.sub [] rfl) hP hD hE hS hA rfl hl.1 rfl (Nat.le_of_ble_eq_true rfl) dX2_endClass_23 ⟨Nat.le_of_ble_eq_true rfl, Nat.le_of_ble_eq_true rfl⟩ (fun r23 w9 H locs hw23 hP hD hS => ?_)
  obtain ⟨rfl, hw23_0⟩ := hw23
  have b_r23 := iB r23
  refine m_if_eq (X := r23.toInt) (tgt := 31) hx hb dX2_endClass_26 (by decide) rfl (fun c26 => ?_) (fun c26 => ?_)
  · skip
    refine lv_aload_n hx hb dX2_endClass_31 rfl (lv_at hl 0 rfl) ?_
    refine lv_iconst (v := 3) hx hb dX2_endClass_32 (by decide) ?_
    refine va_put (D := D) (ci := 1) (v := .int 3) (ty := .int) (C := RX2) (T := TX2) (N := 8) hx hb hts hinX2 tyX2 tyX2_ok nmX2 hown hK hP hD hS 7 rfl rfl 6 (by decide) k_8_23 (fun _ h9 => h9) rfl (by decide +kernel) rfl rfl (Nat.le_of_ble_eq_true rfl) dX2_endClass_33 (fun H locs hP hD hS => ?_)
    have hP : va_P D vwCl (tw cs q v_t_tapeSize v_t_textSize v_t_faultKind a_t_tape a_t_text a_g_beyond v_g_size a_g_steps a_h_beyond v_h_size a_h_steps a_r_scratch a_r_now v_r_takes v_r_negative v_r_namePlace (3 : Int32) v_r_faultPlace v_a_size v_a_limit v_a_digits v_a_kind v_a_from v_a_to v_o_size a_o_out v_b_size v_b_limit v_b_digits v_b_kind v_b_from v_b_to a_u_atom a_u_other a_u_hand v_u_marksMade v_u_came v_u_guesses v_u_right v_u_taken a_u_vars a_u_marks a_u_outcomes a_u_indexes v_s_things v_s_looked v_s_lookedTooOften v_s_arraysMade v_s_cellsMade a_s_classes a_s_starts a_s_lengths a_s_cells a_L a_K a_vc a_vd a_si_13 a_sj a_iv a_inn a_ac) H := hP
    have hD : va_D A (tw cs q v_t_tapeSize v_t_textSize v_t_faultKind a_t_tape a_t_text a_g_beyond v_g_size a_g_steps a_h_beyond v_h_size a_h_steps a_r_scratch a_r_now v_r_takes v_r_negative v_r_namePlace (3 : Int32) v_r_faultPlace v_a_size v_a_limit v_a_digits v_a_kind v_a_from v_a_to v_o_size a_o_out v_b_size v_b_limit v_b_digits v_b_kind v_b_from v_b_to a_u_atom a_u_other a_u_hand v_u_marksMade v_u_came v_u_guesses v_u_right v_u_taken a_u_vars a_u_marks a_u_outcomes a_u_indexes v_s_things v_s_looked v_s_lookedTooOften v_s_arraysMade v_s_cellsMade a_s_classes a_s_starts a_s_lengths a_s_cells a_L a_K a_vc a_vd a_si_13 a_sj a_iv a_inn a_ac) := hD
    refine lv_aload_n hx hb dX2_endClass_36 rfl (lv_at hl 0 rfl) ?_
    refine lv_aload_n hx hb dX2_endClass_37 rfl (lv_at hl 0 rfl) ?_
    refine va_get (D := D) (ci := 1) (v := .int v_r_namePlace) (C := RX2) (T := TX2) (N := 8) hx hb hts hinX2 hown hK hP 7 rfl rfl 5 (by decide) k_19_2 (fun _ h9 => h9) rfl dX2_endClass_38 ?_
    refine va_put (D := D) (ci := 1) (v := .int v_r_namePlace) (ty := .int) (C := RX2) (T := TX2) (N := 8) hx hb hts hinX2 tyX2 tyX2_ok nmX2 hown hK hP hD hS 7 rfl rfl 7 (by decide) k_9_0 (fun _ h9 => h9) rfl (by decide +kernel) rfl rfl (Nat.le_of_ble_eq_true rfl) dX2_endClass_41 (fun H locs hP hD hS => ?_)
    have hP : va_P D vwCl (tw cs q v_t_tapeSize v_t_textSize v_t_faultKind a_t_tape a_t_text a_g_beyond v_g_size a_g_steps a_h_beyond v_h_size a_h_steps a_r_scratch a_r_now v_r_takes v_r_negative v_r_namePlace (3 : Int32) v_r_namePlace v_a_size v_a_limit v_a_digits v_a_kind v_a_from v_a_to v_o_size a_o_out v_b_size v_b_limit v_b_digits v_b_kind v_b_from v_b_to a_u_atom a_u_other a_u_hand v_u_marksMade v_u_came v_u_guesses v_u_right v_u_taken a_u_vars a_u_marks a_u_outcomes a_u_indexes v_s_things v_s_looked v_s_lookedTooOften v_s_arraysMade v_s_cellsMade a_s_classes a_s_starts a_s_lengths a_s_cells a_L a_K a_vc a_vd a_si_13 a_sj a_iv a_inn a_ac) H := hP
    have hD : va_D A (tw cs q v_t_tapeSize v_t_textSize v_t_faultKind a_t_tape a_t_text a_g_beyond v_g_size a_g_steps a_h_beyond v_h_size a_h_steps a_r_scratch a_r_now v_r_takes v_r_negative v_r_namePlace (3 : Int32) v_r_namePlace v_a_size v_a_limit v_a_digits v_a_kind v_a_from v_a_to v_o_size a_o_out v_b_size v_b_limit v_b_digits v_b_kind v_b_from v_b_to a_u_atom a_u_other a_u_hand v_u_marksMade v_u_came v_u_guesses v_u_right v_u_taken a_u_vars a_u_marks a_u_outcomes a_u_indexes v_s_things v_s_looked v_s_lookedTooOften v_s_arraysMade v_s_cellsMade a_s_classes a_s_starts a_s_lengths a_s_cells a_L a_K a_vc a_vd a_si_13 a_sj a_iv a_inn a_ac) := hD
    refine lv_iconst (v := 0) hx hb dX2_endClass_44 (by decide) ?_
    subst hAe
    rw [hQ]
    exact W.zret (v := 0) hx hb hr (by decide) (fun t ht hW => ⟨⟨0, _, rfl, ⟨(3 : Int32), v_r_namePlace, a_si_13, rfl, by first | assumption | omega | (intros; omega) | decide, by first | assumption | omega | (intros; omega) | decide⟩, by rw [ht]; exact hP, va_K.moved hW.alike hK, hD⟩, hS.F ht⟩) hS.2.2 dX2_endClass_45
  · skip
    refine lv_iconst (v := 1) hx hb dX2_endClass_29 (by decide) ?_
    subst hAe
    rw [hQ]
    exact W.zret (v := 1) hx hb hr (by decide) (fun t ht hW => ⟨⟨1, _, rfl, ⟨v_r_faultKind, v_r_faultPlace, a_si_13, rfl, by first | assumption | omega | (intros; omega) | decide, by first | assumption | omega | (intros; omega) | decide⟩, by rw [ht]; exact hP, va_K.moved hW.alike hK, hD⟩, hS.F ht⟩) hS.2.2 dX2_endClass_30

def rmX2_readRepeat : Room := { frames := 160, cells := 0, slots := 0, locals := 3200 }
set_option maxHeartbeats 4000000 in
set_option maxRecDepth 100000 in
theorem tX2_readRepeat {l : Launch} {D : va_G} {K : Nat → Nat → Nat} {cs : Nat → ClassId} {q : Nat → Nat} {v_t_tapeSize v_t_textSize v_t_faultKind v_g_size v_h_size v_r_takes v_r_negative v_r_namePlace v_r_faultKind v_r_faultPlace v_a_size v_a_limit v_a_digits v_a_kind v_a_from v_a_to v_o_size v_b_size v_b_limit v_b_digits v_b_kind v_b_from v_b_to v_u_marksMade v_u_came v_u_guesses v_u_right v_u_taken v_s_things v_s_looked v_s_lookedTooOften v_s_arraysMade v_s_cellsMade : Int32} {a_t_tape a_t_text a_o_out a_u_outcomes a_u_indexes a_s_classes a_s_starts a_s_lengths a_vc : Nat → Int32} {a_g_beyond a_h_beyond a_r_scratch a_r_now a_u_atom a_u_other a_u_hand : Nat} {a_g_steps a_h_steps a_u_vars a_u_marks : Nat → Option Nat} {a_s_cells a_vd a_sj : Nat → Int64} {a_L : List Nat} {a_K a_iv a_inn : Nat → Nat} {a_si a_ac : Nat → Nat → Int32} (g9 : Int32) (a9 : Int32) (p_0 : LI 3100 v_a_size v_a_limit v_a_digits v_a_kind v_a_from v_a_to) (p_1 : PI a_L a_K a_si a_iv a_inn) (p_2 : aS a_L a_K a_r_now) : CtI l yX2_readRepeat (wG yX2_readRepeat cX2_readRepeat 4 (some .int)) rmX2_readRepeat D (twT cs) K [.ref (q 7), .int g9, .int a9] (tw cs q v_t_tapeSize v_t_textSize v_t_faultKind a_t_tape a_t_text a_g_beyond v_g_size a_g_steps a_h_beyond v_h_size a_h_steps a_r_scratch a_r_now v_r_takes v_r_negative v_r_namePlace v_r_faultKind v_r_faultPlace v_a_size v_a_limit v_a_digits v_a_kind v_a_from v_a_to v_o_size a_o_out v_b_size v_b_limit v_b_digits v_b_kind v_b_from v_b_to a_u_atom a_u_other a_u_hand v_u_marksMade v_u_came v_u_guesses v_u_right v_u_taken a_u_vars a_u_marks a_u_outcomes a_u_indexes v_s_things v_s_looked v_s_lookedTooOften v_s_arraysMade v_s_cellsMade a_s_classes a_s_starts a_s_lengths a_s_cells a_L a_K a_vc a_vd a_si a_sj a_iv a_inn a_ac) (fun r w1 => ∃ (v_r_faultKind' : Int32) (v_r_faultPlace' : Int32) (v_a_digits' : Int32) (v_a_kind' : Int32) (v_a_from' : Int32) (v_a_to' : Int32) (a_si' : Nat → Nat → Int32), w1 = (tw cs q v_t_tapeSize v_t_textSize v_t_faultKind a_t_tape a_t_text a_g_beyond v_g_size a_g_steps a_h_beyond v_h_size a_h_steps a_r_scratch a_r_now v_r_takes v_r_negative v_r_namePlace v_r_faultKind' v_r_faultPlace' v_a_size v_a_limit v_a_digits' v_a_kind' v_a_from' v_a_to' v_o_size a_o_out v_b_size v_b_limit v_b_digits v_b_kind v_b_from v_b_to a_u_atom a_u_other a_u_hand v_u_marksMade v_u_came v_u_guesses v_u_right v_u_taken a_u_vars a_u_marks a_u_outcomes a_u_indexes v_s_things v_s_looked v_s_lookedTooOften v_s_arraysMade v_s_cellsMade a_s_classes a_s_starts a_s_lengths a_s_cells a_L a_K a_vc a_vd a_si' a_sj a_iv a_inn a_ac) ∧ (LI 3100 v_a_size v_a_limit v_a_digits' v_a_kind' v_a_from' v_a_to') ∧ (PI a_L a_K a_si' a_iv a_inn)) 0 0 := by
  intro sz
  refine Met.ofW (cc := cX2_readRepeat) (maxL := 4) (ret := (some .int)) (by decide) rfl ?_
  intro p e s m args below meth c s₁ B hml hv
  obtain ⟨rfl, hsz, hP, hK, hD0, hE⟩ := hv
  have hx := B.exec
  have hb := B.bytes
  have hr := B.returns
  have hts := atoms_spec (ws := (wG yX2_readRepeat cX2_readRepeat 4 (some .int))) B.pre
  have hown : s.vm.findClass RX2 = some m.cls := findClass_of_methodNamed B.named
  have hlocks := B.notSynchronized
  subst hsz
  have hD := hD0.self (sz := s.heap.size)
  obtain ⟨A, hAe⟩ : ∃ A : Nat → Prop, A = va_A (tw cs q v_t_tapeSize v_t_textSize v_t_faultKind a_t_tape a_t_text a_g_beyond v_g_size a_g_steps a_h_beyond v_h_size a_h_steps a_r_scratch a_r_now v_r_takes v_r_negative v_r_namePlace v_r_faultKind v_r_faultPlace v_a_size v_a_limit v_a_digits v_a_kind v_a_from v_a_to v_o_size a_o_out v_b_size v_b_limit v_b_digits v_b_kind v_b_from v_b_to a_u_atom a_u_other a_u_hand v_u_marksMade v_u_came v_u_guesses v_u_right v_u_taken a_u_vars a_u_marks a_u_outcomes a_u_indexes v_s_things v_s_looked v_s_lookedTooOften v_s_arraysMade v_s_cellsMade a_s_classes a_s_starts a_s_lengths a_s_cells a_L a_K a_vc a_vd a_si a_sj a_iv a_inn a_ac) s.heap.size := ⟨_, rfl⟩
  rw [← hAe] at hD hE
  have hA : ∀ q : Nat, s.heap.size ≤ q → A q := fun q h => by rw [hAe]; exact Or.inr h
  have hS : va_S A s.heap s.heap [] := va_S.rf
  have hl := lv_entry ([.ref (q 7), .int g9, .int a9]) (n := 4) (Nat.le_of_ble_eq_true rfl)
  rw [lg_entry_eq]
  generalize (lg_sl ([.ref (q 7), .int g9, .int a9]) ++ List.replicate (4 - (lg_sl ([.ref (q 7), .int g9, .int a9])).length) Slot.unset).toArray = ls at hl ⊢
  have hl : lv_has ls 4 [(0, .ref (q 7)), (1, .int g9), (2, .int a9)] := hl
  refine wq (fun Q hQ => ?_)
  have hinX2 : ∀ w ∈ wsX20, w ∈ (wG yX2_readRepeat cX2_readRepeat 4 (some .int)) := fun w h => List.mem_cons_of_mem _ (inlX2 w h)
  have hinX6 : ∀ w ∈ wsX60, w ∈ (wG yX2_readRepeat cX2_readRepeat 4 (some .int)) := fun w h => List.mem_cons_of_mem _ (inlX6 w h)
  have kc0 : (-1 : Int32).toInt = -1 := by decide
  have kc1 : (1 : Int32).toInt = 1 := by decide
  have kc2 : (3 : Int32).toInt = 3 := by decide
  have kc3 : (4 : Int32).toInt = 4 := by decide
  have kc4 : (42 : Int32).toInt = 42 := by decide
  have kc5 : (43 : Int32).toInt = 43 := by decide
  have kc6 : (47 : Int32).toInt = 47 := by decide
  have kc7 : (91 : Int32).toInt = 91 := by decide
  have kc8 : (93 : Int32).toInt = 93 := by decide
  have k_3_14 := hts (.fieldLink RX2 22 "ArrayTrainer$Parser" "now" "LArrayTrainer$Step;") (List.mem_cons_of_mem _ (wr3 _ (List.mem_of_getElem? (i := 14) rfl)))
  have k_18_19 := hts (.fieldLink RX2 201 "ArrayTrainer$Step" "indexes" "I") (List.mem_cons_of_mem _ (wr18 _ (List.mem_of_getElem? (i := 19) rfl)))
  have k_18_20 := hts (.fieldLink RX2 204 "ArrayTrainer$Step" "blankDims" "I") (List.mem_cons_of_mem _ (wr18 _ (List.mem_of_getElem? (i := 20) rfl)))
  have k_3_11 := hts (.fieldLink RX2 9 "ArrayTrainer$Parser" "lexer" "LArrayTrainer$Lexer;") (List.mem_cons_of_mem _ (wr3 _ (List.mem_of_getElem? (i := 11) rfl)))
  obtain ⟨H, hH⟩ : ∃ H : Heap, H = s.heap := ⟨_, rfl⟩
  obtain ⟨locs, hlc⟩ : ∃ L : List Loc, L = [] := ⟨_, rfl⟩
  have hP : va_P D vwCl (tw cs q v_t_tapeSize v_t_textSize v_t_faultKind a_t_tape a_t_text a_g_beyond v_g_size a_g_steps a_h_beyond v_h_size a_h_steps a_r_scratch a_r_now v_r_takes v_r_negative v_r_namePlace v_r_faultKind v_r_faultPlace v_a_size v_a_limit v_a_digits v_a_kind v_a_from v_a_to v_o_size a_o_out v_b_size v_b_limit v_b_digits v_b_kind v_b_from v_b_to a_u_atom a_u_other a_u_hand v_u_marksMade v_u_came v_u_guesses v_u_right v_u_taken a_u_vars a_u_marks a_u_outcomes a_u_indexes v_s_things v_s_looked v_s_lookedTooOften v_s_arraysMade v_s_cellsMade a_s_classes a_s_starts a_s_lengths a_s_cells a_L a_K a_vc a_vd a_si a_sj a_iv a_inn a_ac) H := by rw [hH]; exact hP
  have hS : va_S A s.heap H locs := by rw [hH, hlc]; exact hS
  refine wHL hH hlc ?_
  have b_g9 := iB g9
  have b_a9 := iB a9
  refine lv_aload_n hx hb dX2_readRepeat_0 rfl (lv_at hl 0 rfl) ?_
  have hf1 : aS a_L a_K a_r_now := by first | assumption
  refine va_get (D := D) (ci := 1) (v := .ref a_r_now) (C := RX2) (T := TX2) (N := 8) hx hb hts hinX2 hown hK hP 7 rfl rfl 2 (by decide) k_3_14 (fun _ h9 => h9) rfl dX2_readRepeat_1 ?_
  obtain ⟨k4_, hk4_⟩ := pl_S (X := (twX cs q v_t_tapeSize v_t_textSize v_t_faultKind a_t_tape a_t_text a_g_beyond v_g_size a_g_steps a_h_beyond v_h_size a_h_steps a_r_scratch a_r_now v_r_takes v_r_negative v_r_namePlace v_r_faultKind v_r_faultPlace v_a_size v_a_limit v_a_digits v_a_kind v_a_from v_a_to v_o_size a_o_out v_b_size v_b_limit v_b_digits v_b_kind v_b_from v_b_to a_u_atom a_u_other a_u_hand v_u_marksMade v_u_came v_u_guesses v_u_right v_u_taken a_u_vars a_u_marks a_u_outcomes a_u_indexes v_s_things v_s_looked v_s_lookedTooOften v_s_arraysMade v_s_cellsMade a_s_classes a_s_starts a_s_lengths a_s_cells)) (cI := cs 0) (vc := a_vc) (vd := a_vd) (si := a_si) (sj := a_sj) (iv := a_iv) (inn := a_inn) (ac := a_ac) hf1
  refine va_get (D := D) (ci := 5) (v := .int (a_si a_r_now 9)) (C := RX6) (T := TX6) (N := 15) hx hb hts hinX6 hown hK hP k4_ hk4_ rfl 9 (by decide) k_18_19 (fun _ h9 => h9) rfl dX2_readRepeat_4 ?_
  refine lv_topi (fun x4 e_x4 => ?_)
  have b_x4 := iB x4
  refine lv_aload_n hx hb dX2_readRepeat_7 rfl (lv_at hl 0 rfl) ?_
  have hf8 : aS a_L a_K a_r_now := by first | assumption
  refine va_get (D := D) (ci := 1) (v := .ref a_r_now) (C := RX2) (T := TX2) (N := 8) hx hb hts hinX2 hown hK hP 7 rfl rfl 2 (by decide) k_3_14 (fun _ h9 => h9) rfl dX2_readRepeat_8 ?_
  obtain ⟨k11_, hk11_⟩ := pl_S (X := (twX cs q v_t_tapeSize v_t_textSize v_t_faultKind a_t_tape a_t_text a_g_beyond v_g_size a_g_steps a_h_beyond v_h_size a_h_steps a_r_scratch a_r_now v_r_takes v_r_negative v_r_namePlace v_r_faultKind v_r_faultPlace v_a_size v_a_limit v_a_digits v_a_kind v_a_from v_a_to v_o_size a_o_out v_b_size v_b_limit v_b_digits v_b_kind v_b_from v_b_to a_u_atom a_u_other a_u_hand v_u_marksMade v_u_came v_u_guesses v_u_right v_u_taken a_u_vars a_u_marks a_u_outcomes a_u_indexes v_s_things v_s_looked v_s_lookedTooOften v_s_arraysMade v_s_cellsMade a_s_classes a_s_starts a_s_lengths a_s_cells)) (cI := cs 0) (vc := a_vc) (vd := a_vd) (si := a_si) (sj := a_sj) (iv := a_iv) (inn := a_inn) (ac := a_ac) hf8
  refine va_get (D := D) (ci := 5) (v := .int (a_si a_r_now 8)) (C := RX6) (T := TX6) (N := 15) hx hb hts hinX6 hown hK hP k11_ hk11_ rfl 8 (by decide) k_18_20 (fun _ h9 => h9) rfl dX2_readRepeat_11 ?_
  refine lv_topi (fun x11 e_x11 => ?_)
  have b_x11 := iB x11
  refine m_iadd (X := x4.toInt) (Y := x11.toInt) hx hb dX2_readRepeat_14 rfl rfl (fun x14 e_x14 g9 => ?_)
  obtain ⟨k_x14, g_x14⟩ := g9
  have b_x14 := iB x14
  try (have q_x14 : x14.toInt = x4.toInt + x11.toInt := (by omega); clear g_x14 k_x14)
  refine lv_istore_n (lv' := [(3, .int x14), (0, .ref (q 7)), (1, .int g9), (2, .int a9)]) hx hb dX2_readRepeat_15 rfl hl (by decide) rfl (fun ls hl => ?_)
  refine lv_iload_n hx hb dX2_readRepeat_16 rfl (lv_at hl 2 rfl) ?_
  refine lv_bipush (v := 47) hx hb dX2_readRepeat_17 (by decide) ?_
  have J30 : ∀ (l3_30 : Int32) (H : Heap) (locs : List Loc) (ls : Array Slot), va_P D vwCl (tw cs q v_t_tapeSize v_t_textSize v_t_faultKind a_t_tape a_t_text a_g_beyond v_g_size a_g_steps a_h_beyond v_h_size a_h_steps a_r_scratch a_r_now v_r_takes v_r_negative v_r_namePlace v_r_faultKind v_r_faultPlace v_a_size v_a_limit v_a_digits v_a_kind v_a_from v_a_to v_o_size a_o_out v_b_size v_b_limit v_b_digits v_b_kind v_b_from v_b_to a_u_atom a_u_other a_u_hand v_u_marksMade v_u_came v_u_guesses v_u_right v_u_taken a_u_vars a_u_marks a_u_outcomes a_u_indexes v_s_things v_s_looked v_s_lookedTooOften v_s_arraysMade v_s_cellsMade a_s_classes a_s_starts a_s_lengths a_s_cells a_L a_K a_vc a_vd a_si a_sj a_iv a_inn a_ac) H → va_D A (tw cs q v_t_tapeSize v_t_textSize v_t_faultKind a_t_tape a_t_text a_g_beyond v_g_size a_g_steps a_h_beyond v_h_size a_h_steps a_r_scratch a_r_now v_r_takes v_r_negative v_r_namePlace v_r_faultKind v_r_faultPlace v_a_size v_a_limit v_a_digits v_a_kind v_a_from v_a_to v_o_size a_o_out v_b_size v_b_limit v_b_digits v_b_kind v_b_from v_b_to a_u_atom a_u_other a_u_hand v_u_marksMade v_u_came v_u_guesses v_u_right v_u_taken a_u_vars a_u_marks a_u_outcomes a_u_indexes v_s_things v_s_looked v_s_lookedTooOften v_s_arraysMade v_s_cellsMade a_s_classes a_s_starts a_s_lengths a_s_cells a_L a_K a_vc a_vd a_si a_sj a_iv a_inn a_ac) → va_S A s.heap H locs → lv_has ls 4 [(0, .ref (q 7)), (1, .int g9), (2, .int a9), (3, .int l3_30)] → W p l e (headSpec (wG yX2_readRepeat cX2_readRepeat 4 (some .int)) rmX2_readRepeat).room s m ([.ref (q 7), .int g9, .int a9] : List Value).toArray below meth c H locs 0 0 Q (F0 m 30 ls []) := by
    intro l3_30 H locs ls hP hD hS hl
    refine lv_aload_n hx hb dX2_readRepeat_30 rfl (lv_at hl 0 rfl) ?_
    refine va_get (D := D) (ci := 1) (v := .ref (q 8)) (C := RX2) (T := TX2) (N := 8) hx hb hts hinX2 hown hK hP 7 rfl rfl 0 (by decide) k_3_11 (fun _ h9 => h9) rfl dX2_readRepeat_31 ?_
    refine lv_bipush (v := 91) hx hb dX2_readRepeat_34 (by decide) ?_
    refine call_i (As := [.int 91]) (rest := []) ⟨hx, hb, hml, hown, hts⟩ (tX1_isSign_qa (l := l) (91 : Int32) (by first | assumption | omega | (intros; omega) | decide)) (cwV 1 hts (gV (wr17 _ (List.mem_of_getElem? (i := 18) rfl)) (wr17 _ (List.mem_of_getElem? (i := 19) rfl)) (wr17 _ (List.mem_of_getElem? (i := 20) rfl)) (wr2 _ (List.mem_of_getElem? (i := 2) rfl)) (wr17 _ (List.mem_of_getElem? (i := 21) rfl))) rfl rfl rfl (by decide +kernel) ⟨Nat.le_of_ble_eq_true rfl, Nat.le_of_ble_eq_true rfl⟩) (va_recv hK hP (ci := 0) (q0 := 8) rfl rfl) hK hP hD hE hS hA rfl hl.1 rfl (Nat.le_of_ble_eq_true rfl) dX2_readRepeat_36 ⟨Nat.le_of_ble_eq_true rfl, Nat.le_of_ble_eq_true rfl⟩ (fun r36 w9 H locs hw36 hP hD hS => ?_)
    obtain ⟨rfl, hw36_0⟩ := hw36
    have b_r36 := iB r36
    refine m_if_ne (X := r36.toInt) (tgt := 64) hx hb dX2_readRepeat_39 (by decide) rfl (fun c39 => ?_) (fun c39 => ?_)
    · skip
      refine lv_iload_n hx hb dX2_readRepeat_64 rfl (lv_at hl 3 rfl) ?_
      refine lv_iconst (v := 3) hx hb dX2_readRepeat_65 (by decide) ?_
      refine m_icmp_ne (X := l3_30.toInt) (Y := 3) (tgt := 77) hx hb dX2_readRepeat_66 (by decide) rfl (by decide) (fun c66 => ?_) (fun c66 => ?_)
      · skip
        refine lv_iload_n hx hb dX2_readRepeat_77 rfl (lv_at hl 1 rfl) ?_
        refine lv_bipush (v := 42) hx hb dX2_readRepeat_78 (by decide) ?_
        refine m_icmp_ne (X := g9.toInt) (Y := 42) (tgt := 87) hx hb dX2_readRepeat_80 (by decide) rfl (by decide) (fun c80 => ?_) (fun c80 => ?_)
        · skip
          refine lv_aload_n hx hb dX2_readRepeat_87 rfl (lv_at hl 0 rfl) ?_
          refine va_get (D := D) (ci := 1) (v := .ref (q 8)) (C := RX2) (T := TX2) (N := 8) hx hb hts hinX2 hown hK hP 7 rfl rfl 0 (by decide) k_3_11 (fun _ h9 => h9) rfl dX2_readRepeat_88 ?_
          refine call_v (As := []) (rest := []) ⟨hx, hb, hml, hown, hts⟩ (tX1_next_qa (l := l)  (by first | assumption | exact LI.z (by assumption))) (cwV 0 hts (gV (wr9 _ (List.mem_of_getElem? (i := 17) rfl)) (wr9 _ (List.mem_of_getElem? (i := 18) rfl)) (wr9 _ (List.mem_of_getElem? (i := 19) rfl)) (wr2 _ (List.mem_of_getElem? (i := 2) rfl)) (wr9 _ (List.mem_of_getElem? (i := 20) rfl))) rfl rfl rfl (by decide +kernel) ⟨Nat.le_of_ble_eq_true rfl, Nat.le_of_ble_eq_true rfl⟩) (va_recv hK hP (ci := 0) (q0 := 8) rfl rfl) hK hP hD hE hS hA rfl hl.1 rfl (Nat.le_of_ble_eq_true rfl) dX2_readRepeat_91 ⟨Nat.le_of_ble_eq_true rfl, Nat.le_of_ble_eq_true rfl⟩ (fun w9 H locs hw91 hP hD hS => ?_)
          obtain ⟨v_a_digits_91, v_a_kind_91, v_a_from_91, v_a_to_91, rfl, hw91_0⟩ := hw91
          have b_v_a_digits_91 := iB v_a_digits_91
          have b_v_a_kind_91 := iB v_a_kind_91
          have b_v_a_from_91 := iB v_a_from_91
          have b_v_a_to_91 := iB v_a_to_91
          refine lv_iload_n hx hb dX2_readRepeat_94 rfl (lv_at hl 1 rfl) ?_
          refine lv_bipush (v := 43) hx hb dX2_readRepeat_95 (by decide) ?_
          have J126 : ∀ (H : Heap) (locs : List Loc) (ls : Array Slot), (LI 3100 v_a_size v_a_limit v_a_digits_91 v_a_kind_91 v_a_from_91 v_a_to_91) → va_P D vwCl (tw cs q v_t_tapeSize v_t_textSize v_t_faultKind a_t_tape a_t_text a_g_beyond v_g_size a_g_steps a_h_beyond v_h_size a_h_steps a_r_scratch a_r_now v_r_takes v_r_negative v_r_namePlace v_r_faultKind v_r_faultPlace v_a_size v_a_limit v_a_digits_91 v_a_kind_91 v_a_from_91 v_a_to_91 v_o_size a_o_out v_b_size v_b_limit v_b_digits v_b_kind v_b_from v_b_to a_u_atom a_u_other a_u_hand v_u_marksMade v_u_came v_u_guesses v_u_right v_u_taken a_u_vars a_u_marks a_u_outcomes a_u_indexes v_s_things v_s_looked v_s_lookedTooOften v_s_arraysMade v_s_cellsMade a_s_classes a_s_starts a_s_lengths a_s_cells a_L a_K a_vc a_vd a_si a_sj a_iv a_inn a_ac) H → va_D A (tw cs q v_t_tapeSize v_t_textSize v_t_faultKind a_t_tape a_t_text a_g_beyond v_g_size a_g_steps a_h_beyond v_h_size a_h_steps a_r_scratch a_r_now v_r_takes v_r_negative v_r_namePlace v_r_faultKind v_r_faultPlace v_a_size v_a_limit v_a_digits_91 v_a_kind_91 v_a_from_91 v_a_to_91 v_o_size a_o_out v_b_size v_b_limit v_b_digits v_b_kind v_b_from v_b_to a_u_atom a_u_other a_u_hand v_u_marksMade v_u_came v_u_guesses v_u_right v_u_taken a_u_vars a_u_marks a_u_outcomes a_u_indexes v_s_things v_s_looked v_s_lookedTooOften v_s_arraysMade v_s_cellsMade a_s_classes a_s_starts a_s_lengths a_s_cells a_L a_K a_vc a_vd a_si a_sj a_iv a_inn a_ac) → va_S A s.heap H locs → lv_has ls 4 [(0, .ref (q 7)), (2, .int a9)] → W p l e (headSpec (wG yX2_readRepeat cX2_readRepeat 4 (some .int)) rmX2_readRepeat).room s m ([.ref (q 7), .int g9, .int a9] : List Value).toArray below meth c H locs 0 0 Q (F0 m 126 ls []) := by
            intro H locs ls f126_0 hP hD hS hl
            refine lv_aload_n hx hb dX2_readRepeat_126 rfl (lv_at hl 0 rfl) ?_
            have hf127 : aS a_L a_K a_r_now := by first | assumption
            refine va_get (D := D) (ci := 1) (v := .ref a_r_now) (C := RX2) (T := TX2) (N := 8) hx hb hts hinX2 hown hK hP 7 rfl rfl 2 (by decide) k_3_14 (fun _ h9 => h9) rfl dX2_readRepeat_127 ?_
            refine lv_dup hx hb dX2_readRepeat_130 rfl ?_
            obtain ⟨k131_, hk131_⟩ := pl_S (X := (twX cs q v_t_tapeSize v_t_textSize v_t_faultKind a_t_tape a_t_text a_g_beyond v_g_size a_g_steps a_h_beyond v_h_size a_h_steps a_r_scratch a_r_now v_r_takes v_r_negative v_r_namePlace v_r_faultKind v_r_faultPlace v_a_size v_a_limit v_a_digits_91 v_a_kind_91 v_a_from_91 v_a_to_91 v_o_size a_o_out v_b_size v_b_limit v_b_digits v_b_kind v_b_from v_b_to a_u_atom a_u_other a_u_hand v_u_marksMade v_u_came v_u_guesses v_u_right v_u_taken a_u_vars a_u_marks a_u_outcomes a_u_indexes v_s_things v_s_looked v_s_lookedTooOften v_s_arraysMade v_s_cellsMade a_s_classes a_s_starts a_s_lengths a_s_cells)) (cI := cs 0) (vc := a_vc) (vd := a_vd) (si := a_si) (sj := a_sj) (iv := a_iv) (inn := a_inn) (ac := a_ac) hf127
            refine va_get (D := D) (ci := 5) (v := .int (a_si a_r_now 8)) (C := RX6) (T := TX6) (N := 15) hx hb hts hinX6 hown hK hP k131_ hk131_ rfl 8 (by decide) k_18_20 (fun _ h9 => h9) rfl dX2_readRepeat_131 ?_
            refine lv_topi (fun x131 e_x131 => ?_)
            have b_x131 := iB x131
            refine lv_iconst (v := 1) hx hb dX2_readRepeat_134 (by decide) ?_
            refine m_iadd (X := x131.toInt) (Y := 1) hx hb dX2_readRepeat_135 rfl (by decide) (fun x135 e_x135 g9 => ?_)
            obtain ⟨k_x135, g_x135⟩ := g9
            have b_x135 := iB x135
            try (have q_x135 : x135.toInt = x131.toInt + 1 := (by omega); clear g_x135 k_x135)
            obtain ⟨k136_, hk136_⟩ := pl_S (X := (twX cs q v_t_tapeSize v_t_textSize v_t_faultKind a_t_tape a_t_text a_g_beyond v_g_size a_g_steps a_h_beyond v_h_size a_h_steps a_r_scratch a_r_now v_r_takes v_r_negative v_r_namePlace v_r_faultKind v_r_faultPlace v_a_size v_a_limit v_a_digits_91 v_a_kind_91 v_a_from_91 v_a_to_91 v_o_size a_o_out v_b_size v_b_limit v_b_digits v_b_kind v_b_from v_b_to a_u_atom a_u_other a_u_hand v_u_marksMade v_u_came v_u_guesses v_u_right v_u_taken a_u_vars a_u_marks a_u_outcomes a_u_indexes v_s_things v_s_looked v_s_lookedTooOften v_s_arraysMade v_s_cellsMade a_s_classes a_s_starts a_s_lengths a_s_cells)) (cI := cs 0) (vc := a_vc) (vd := a_vd) (si := a_si) (sj := a_sj) (iv := a_iv) (inn := a_inn) (ac := a_ac) hf127
            have hDk := hD
            refine va_put (D := D) (ci := 5) (v := .int x135) (ty := .int) (C := RX6) (T := TX6) (N := 15) hx hb hts hinX6 tyX6 tyX6_ok nmX6 hown hK hP hD hS k136_ hk136_ rfl 8 (by decide) k_18_20 (fun _ h9 => h9) rfl (by decide +kernel) rfl rfl (Nat.le_of_ble_eq_true rfl) dX2_readRepeat_136 (fun H locs hP hD hS => ?_)
            obtain ⟨a_si_136, e_a_si_136⟩ : ∃ g, g = up2 a_si a_r_now 8 x135 := ⟨_, rfl⟩
            have hP : va_P D vwCl (tw cs q v_t_tapeSize v_t_textSize v_t_faultKind a_t_tape a_t_text a_g_beyond v_g_size a_g_steps a_h_beyond v_h_size a_h_steps a_r_scratch a_r_now v_r_takes v_r_negative v_r_namePlace v_r_faultKind v_r_faultPlace v_a_size v_a_limit v_a_digits_91 v_a_kind_91 v_a_from_91 v_a_to_91 v_o_size a_o_out v_b_size v_b_limit v_b_digits v_b_kind v_b_from v_b_to a_u_atom a_u_other a_u_hand v_u_marksMade v_u_came v_u_guesses v_u_right v_u_taken a_u_vars a_u_marks a_u_outcomes a_u_indexes v_s_things v_s_looked v_s_lookedTooOften v_s_arraysMade v_s_cellsMade a_s_classes a_s_starts a_s_lengths a_s_cells a_L a_K a_vc a_vd a_si_136 a_sj a_iv a_inn a_ac) H := by rw [e_a_si_136]; exact vaP_eq (pu_blankDims_ hDk hf127 hk136_ _) hP
            have hD : va_D A (tw cs q v_t_tapeSize v_t_textSize v_t_faultKind a_t_tape a_t_text a_g_beyond v_g_size a_g_steps a_h_beyond v_h_size a_h_steps a_r_scratch a_r_now v_r_takes v_r_negative v_r_namePlace v_r_faultKind v_r_faultPlace v_a_size v_a_limit v_a_digits_91 v_a_kind_91 v_a_from_91 v_a_to_91 v_o_size a_o_out v_b_size v_b_limit v_b_digits v_b_kind v_b_from v_b_to a_u_atom a_u_other a_u_hand v_u_marksMade v_u_came v_u_guesses v_u_right v_u_taken a_u_vars a_u_marks a_u_outcomes a_u_indexes v_s_things v_s_looked v_s_lookedTooOften v_s_arraysMade v_s_cellsMade a_s_classes a_s_starts a_s_lengths a_s_cells a_L a_K a_vc a_vd a_si_136 a_sj a_iv a_inn a_ac) := by rw [e_a_si_136]; exact vaD_eq (pu_blankDims_ hDk hf127 hk136_ _) hD
            have hPI : PI a_L a_K a_si_136 a_iv a_inn := by exact PI.up (by assumption) e_a_si_136 (by decide)
            refine lv_aload_n hx hb dX2_readRepeat_139 rfl (lv_at hl 0 rfl) ?_
            refine lv_aload_n hx hb dX2_readRepeat_140 rfl (lv_at hl 0 rfl) ?_
            refine va_get (D := D) (ci := 1) (v := .ref (q 8)) (C := RX2) (T := TX2) (N := 8) hx hb hts hinX2 hown hK hP 7 rfl rfl 0 (by decide) k_3_11 (fun _ h9 => h9) rfl dX2_readRepeat_141 ?_
            refine lv_bipush (v := 93) hx hb dX2_readRepeat_144 (by decide) ?_
            refine call_i (As := [.int 93]) (rest := [.ref (q 7)]) ⟨hx, hb, hml, hown, hts⟩ (tX1_isSign_qa (l := l) (93 : Int32) (by first | assumption | omega | (intros; omega) | decide)) (cwV 1 hts (gV (wr17 _ (List.mem_of_getElem? (i := 18) rfl)) (wr17 _ (List.mem_of_getElem? (i := 19) rfl)) (wr17 _ (List.mem_of_getElem? (i := 20) rfl)) (wr2 _ (List.mem_of_getElem? (i := 2) rfl)) (wr17 _ (List.mem_of_getElem? (i := 21) rfl))) rfl rfl rfl (by decide +kernel) ⟨Nat.le_of_ble_eq_true rfl, Nat.le_of_ble_eq_true rfl⟩) (va_recv hK hP (ci := 0) (q0 := 8) rfl rfl) hK hP hD hE hS hA rfl hl.1 rfl (Nat.le_of_ble_eq_true rfl) dX2_readRepeat_146 ⟨Nat.le_of_ble_eq_true rfl, Nat.le_of_ble_eq_true rfl⟩ (fun r146 w9 H locs hw146 hP hD hS => ?_)
            obtain ⟨rfl, hw146_0⟩ := hw146
            have b_r146 := iB r146
            refine call_i (As := [.int r146]) (rest := []) ⟨hx, hb, hml, hown, hts⟩ (tX2_passIf (l := l) r146 (by first | assumption | omega | (intros; omega) | decide)) (cwV 1 hts (gV (wr17 _ (List.mem_of_getElem? (i := 2) rfl)) (wr17 _ (List.mem_of_getElem? (i := 3) rfl)) (wr17 _ (List.mem_of_getElem? (i := 4) rfl)) (wr1 _ (List.mem_of_getElem? (i := 23) rfl)) (wr17 _ (List.mem_of_getElem? (i := 5) rfl))) rfl rfl rfl (by decide +kernel) ⟨Nat.le_of_ble_eq_true rfl, Nat.le_of_ble_eq_true rfl⟩) (va_recv hK hP (ci := 1) (q0 := 7) rfl rfl) hK hP hD hE hS hA rfl hl.1 rfl (Nat.le_of_ble_eq_true rfl) dX2_readRepeat_149 ⟨Nat.le_of_ble_eq_true rfl, Nat.le_of_ble_eq_true rfl⟩ (fun r149 w9 H locs hw149 hP hD hS => ?_)
            obtain ⟨v_r_faultKind_149, v_r_faultPlace_149, v_a_digits_149, v_a_kind_149, v_a_from_149, v_a_to_149, rfl, hw149_0, hw149_1⟩ := hw149
            have b_v_r_faultKind_149 := iB v_r_faultKind_149
            have b_v_r_faultPlace_149 := iB v_r_faultPlace_149
            have b_v_a_digits_149 := iB v_a_digits_149
            have b_v_a_kind_149 := iB v_a_kind_149
            have b_v_a_from_149 := iB v_a_from_149
            have b_v_a_to_149 := iB v_a_to_149
            have b_r149 := iB r149
            refine m_if_eq (X := r149.toInt) (tgt := 159) hx hb dX2_readRepeat_152 (by decide) rfl (fun c152 => ?_) (fun c152 => ?_)
            · skip
              refine lv_iconst (v := (-1)) hx hb dX2_readRepeat_159 (by decide) ?_
              subst hAe
              rw [hQ]
              exact W.iret (v := (-1)) hx hb hr (fun t ht hW => ⟨⟨(-1), _, rfl, ⟨v_r_faultKind_149, v_r_faultPlace_149, v_a_digits_149, v_a_kind_149, v_a_from_149, v_a_to_149, a_si_136, rfl, by first | assumption | omega | (intros; omega) | decide, by first | assumption | omega | (intros; omega) | decide⟩, by rw [ht]; exact hP, va_K.moved hW.alike hK, hD⟩, hS.F ht⟩) hS.2.2 dX2_readRepeat_160
            · skip
              refine lv_iload_n hx hb dX2_readRepeat_155 rfl (lv_at hl 1 rfl) ?_
              refine lv_goto (tgt := 160) hx hb dX2_readRepeat_156 (by decide) ?_
              subst hAe
              rw [hQ]
              exact W.iret (v := a9) hx hb hr (fun t ht hW => ⟨⟨a9, _, rfl, ⟨v_r_faultKind_149, v_r_faultPlace_149, v_a_digits_149, v_a_kind_149, v_a_from_149, v_a_to_149, a_si_136, rfl, by first | assumption | omega | (intros; omega) | decide, by first | assumption | omega | (intros; omega) | decide⟩, by rw [ht]; exact hP, va_K.moved hW.alike hK, hD⟩, hS.F ht⟩) hS.2.2 dX2_readRepeat_160
          refine m_icmp_ne (X := g9.toInt) (Y := 43) (tgt := 126) hx hb dX2_readRepeat_97 (by decide) rfl (by decide) (fun c97 => ?_) (fun c97 => ?_)
          · skip
            exact J126 H locs ls (by first | assumption | omega | (intros; omega) | decide) hP hD hS (lv_sub hl [0, 2] rfl)
          · skip
            refine lv_aload_n hx hb dX2_readRepeat_100 rfl (lv_at hl 0 rfl) ?_
            have hf101 : aS a_L a_K a_r_now := by first | assumption
            refine va_get (D := D) (ci := 1) (v := .ref a_r_now) (C := RX2) (T := TX2) (N := 8) hx hb hts hinX2 hown hK hP 7 rfl rfl 2 (by decide) k_3_14 (fun _ h9 => h9) rfl dX2_readRepeat_101 ?_
            obtain ⟨k104_, hk104_⟩ := pl_S (X := (twX cs q v_t_tapeSize v_t_textSize v_t_faultKind a_t_tape a_t_text a_g_beyond v_g_size a_g_steps a_h_beyond v_h_size a_h_steps a_r_scratch a_r_now v_r_takes v_r_negative v_r_namePlace v_r_faultKind v_r_faultPlace v_a_size v_a_limit v_a_digits_91 v_a_kind_91 v_a_from_91 v_a_to_91 v_o_size a_o_out v_b_size v_b_limit v_b_digits v_b_kind v_b_from v_b_to a_u_atom a_u_other a_u_hand v_u_marksMade v_u_came v_u_guesses v_u_right v_u_taken a_u_vars a_u_marks a_u_outcomes a_u_indexes v_s_things v_s_looked v_s_lookedTooOften v_s_arraysMade v_s_cellsMade a_s_classes a_s_starts a_s_lengths a_s_cells)) (cI := cs 0) (vc := a_vc) (vd := a_vd) (si := a_si) (sj := a_sj) (iv := a_iv) (inn := a_inn) (ac := a_ac) hf101
            refine va_get (D := D) (ci := 5) (v := .int (a_si a_r_now 8)) (C := RX6) (T := TX6) (N := 15) hx hb hts hinX6 hown hK hP k104_ hk104_ rfl 8 (by decide) k_18_20 (fun _ h9 => h9) rfl dX2_readRepeat_104 ?_
            refine lv_topi (fun x104 e_x104 => ?_)
            have b_x104 := iB x104
            refine m_if_ne (X := x104.toInt) (tgt := 126) hx hb dX2_readRepeat_107 (by decide) rfl (fun c107 => ?_) (fun c107 => ?_)
            · skip
              exact J126 H locs ls (by first | assumption | omega | (intros; omega) | decide) hP hD hS (lv_sub hl [0, 2] rfl)
            · skip
              refine lv_aload_n hx hb dX2_readRepeat_110 rfl (lv_at hl 0 rfl) ?_
              refine va_get (D := D) (ci := 1) (v := .ref (q 8)) (C := RX2) (T := TX2) (N := 8) hx hb hts hinX2 hown hK hP 7 rfl rfl 0 (by decide) k_3_11 (fun _ h9 => h9) rfl dX2_readRepeat_111 ?_
              refine lv_bipush (v := 93) hx hb dX2_readRepeat_114 (by decide) ?_
              refine call_i (As := [.int 93]) (rest := []) ⟨hx, hb, hml, hown, hts⟩ (tX1_isSign_qa (l := l) (93 : Int32) (by first | assumption | omega | (intros; omega) | decide)) (cwV 1 hts (gV (wr17 _ (List.mem_of_getElem? (i := 18) rfl)) (wr17 _ (List.mem_of_getElem? (i := 19) rfl)) (wr17 _ (List.mem_of_getElem? (i := 20) rfl)) (wr2 _ (List.mem_of_getElem? (i := 2) rfl)) (wr17 _ (List.mem_of_getElem? (i := 21) rfl))) rfl rfl rfl (by decide +kernel) ⟨Nat.le_of_ble_eq_true rfl, Nat.le_of_ble_eq_true rfl⟩) (va_recv hK hP (ci := 0) (q0 := 8) rfl rfl) hK hP hD hE hS hA rfl hl.1 rfl (Nat.le_of_ble_eq_true rfl) dX2_readRepeat_116 ⟨Nat.le_of_ble_eq_true rfl, Nat.le_of_ble_eq_true rfl⟩ (fun r116 w9 H locs hw116 hP hD hS => ?_)
              obtain ⟨rfl, hw116_0⟩ := hw116
              have b_r116 := iB r116
              refine m_if_ne (X := r116.toInt) (tgt := 126) hx hb dX2_readRepeat_119 (by decide) rfl (fun c119 => ?_) (fun c119 => ?_)
              · skip
                exact J126 H locs ls (by first | assumption | omega | (intros; omega) | decide) hP hD hS (lv_sub hl [0, 2] rfl)
              · skip
                refine lv_iload_n hx hb dX2_readRepeat_122 rfl (lv_at hl 2 rfl) ?_
                refine lv_iconst (v := 3) hx hb dX2_readRepeat_123 (by decide) ?_
                refine m_isub (X := a9.toInt) (Y := 3) hx hb dX2_readRepeat_124 rfl (by decide) (fun x124 e_x124 g9 => ?_)
                obtain ⟨k_x124, g_x124⟩ := g9
                have b_x124 := iB x124
                try (have q_x124 : x124.toInt = a9.toInt - 3 := (by omega); clear g_x124 k_x124)
                subst hAe
                rw [hQ]
                exact W.iret (v := x124) hx hb hr (fun t ht hW => ⟨⟨x124, _, rfl, ⟨v_r_faultKind, v_r_faultPlace, v_a_digits_91, v_a_kind_91, v_a_from_91, v_a_to_91, a_si, rfl, by first | assumption | omega | (intros; omega) | decide, by first | assumption | omega | (intros; omega) | decide⟩, by rw [ht]; exact hP, va_K.moved hW.alike hK, hD⟩, hS.F ht⟩) hS.2.2 dX2_readRepeat_125
        · skip
          refine lv_iload_n hx hb dX2_readRepeat_83 rfl (lv_at hl 2 rfl) ?_
          refine lv_iconst (v := 4) hx hb dX2_readRepeat_84 (by decide) ?_
          refine m_isub (X := a9.toInt) (Y := 4) hx hb dX2_readRepeat_85 rfl (by decide) (fun x85 e_x85 g9 => ?_)
          obtain ⟨k_x85, g_x85⟩ := g9
          have b_x85 := iB x85
          try (have q_x85 : x85.toInt = a9.toInt - 4 := (by omega); clear g_x85 k_x85)
          subst hAe
          rw [hQ]
          exact W.iret (v := x85) hx hb hr (fun t ht hW => ⟨⟨x85, _, rfl, ⟨v_r_faultKind, v_r_faultPlace, v_a_digits, v_a_kind, v_a_from, v_a_to, a_si, rfl, by first | assumption | omega | (intros; omega) | decide, by first | assumption | omega | (intros; omega) | decide⟩, by rw [ht]; exact hP, va_K.moved hW.alike hK, hD⟩, hS.F ht⟩) hS.2.2 dX2_readRepeat_86
      · skip
        refine lv_aload_n hx hb dX2_readRepeat_69 rfl (lv_at hl 0 rfl) ?_
        refine lv_iconst (v := 4) hx hb dX2_readRepeat_70 (by decide) ?_
        refine call_i (As := [.int 4]) (rest := []) ⟨hx, hb, hml, hown, hts⟩ (tX2_refuse (l := l) (4 : Int32)) (cwV 1 hts (gV (wr15 _ (List.mem_of_getElem? (i := 20) rfl)) (wr15 _ (List.mem_of_getElem? (i := 21) rfl)) (wr15 _ (List.mem_of_getElem? (i := 22) rfl)) (wr1 _ (List.mem_of_getElem? (i := 23) rfl)) (wr15 _ (List.mem_of_getElem? (i := 23) rfl))) rfl rfl rfl (by decide +kernel) ⟨Nat.le_of_ble_eq_true rfl, Nat.le_of_ble_eq_true rfl⟩) (va_recv hK hP (ci := 1) (q0 := 7) rfl rfl) hK hP hD hE hS hA rfl hl.1 rfl (Nat.le_of_ble_eq_true rfl) dX2_readRepeat_71 ⟨Nat.le_of_ble_eq_true rfl, Nat.le_of_ble_eq_true rfl⟩ (fun r71 w9 H locs hw71 hP hD hS => ?_)
        obtain ⟨v_r_faultKind_71, v_r_faultPlace_71, rfl, hw71_0⟩ := hw71
        have b_v_r_faultKind_71 := iB v_r_faultKind_71
        have b_v_r_faultPlace_71 := iB v_r_faultPlace_71
        have b_r71 := iB r71
        refine lv_pop hx hb dX2_readRepeat_74 rfl ?_
        refine lv_iconst (v := (-1)) hx hb dX2_readRepeat_75 (by decide) ?_
        subst hAe
        rw [hQ]
        exact W.iret (v := (-1)) hx hb hr (fun t ht hW => ⟨⟨(-1), _, rfl, ⟨v_r_faultKind_71, v_r_faultPlace_71, v_a_digits, v_a_kind, v_a_from, v_a_to, a_si, rfl, by first | assumption | omega | (intros; omega) | decide, by first | assumption | omega | (intros; omega) | decide⟩, by rw [ht]; exact hP, va_K.moved hW.alike hK, hD⟩, hS.F ht⟩) hS.2.2 dX2_readRepeat_76
    · skip
      refine lv_iload_n hx hb dX2_readRepeat_42 rfl (lv_at hl 1 rfl) ?_
      refine lv_bipush (v := 42) hx hb dX2_readRepeat_43 (by decide) ?_
      have J56 : ∀ (a_si_56 : Nat → Nat → Int32) (v_r_faultKind_56 : Int32) (v_r_faultPlace_56 : Int32) (H : Heap) (locs : List Loc) (ls : Array Slot), (PI a_L a_K a_si_56 a_iv a_inn) → va_P D vwCl (tw cs q v_t_tapeSize v_t_textSize v_t_faultKind a_t_tape a_t_text a_g_beyond v_g_size a_g_steps a_h_beyond v_h_size a_h_steps a_r_scratch a_r_now v_r_takes v_r_negative v_r_namePlace v_r_faultKind_56 v_r_faultPlace_56 v_a_size v_a_limit v_a_digits v_a_kind v_a_from v_a_to v_o_size a_o_out v_b_size v_b_limit v_b_digits v_b_kind v_b_from v_b_to a_u_atom a_u_other a_u_hand v_u_marksMade v_u_came v_u_guesses v_u_right v_u_taken a_u_vars a_u_marks a_u_outcomes a_u_indexes v_s_things v_s_looked v_s_lookedTooOften v_s_arraysMade v_s_cellsMade a_s_classes a_s_starts a_s_lengths a_s_cells a_L a_K a_vc a_vd a_si_56 a_sj a_iv a_inn a_ac) H → va_D A (tw cs q v_t_tapeSize v_t_textSize v_t_faultKind a_t_tape a_t_text a_g_beyond v_g_size a_g_steps a_h_beyond v_h_size a_h_steps a_r_scratch a_r_now v_r_takes v_r_negative v_r_namePlace v_r_faultKind_56 v_r_faultPlace_56 v_a_size v_a_limit v_a_digits v_a_kind v_a_from v_a_to v_o_size a_o_out v_b_size v_b_limit v_b_digits v_b_kind v_b_from v_b_to a_u_atom a_u_other a_u_hand v_u_marksMade v_u_came v_u_guesses v_u_right v_u_taken a_u_vars a_u_marks a_u_outcomes a_u_indexes v_s_things v_s_looked v_s_lookedTooOften v_s_arraysMade v_s_cellsMade a_s_classes a_s_starts a_s_lengths a_s_cells a_L a_K a_vc a_vd a_si_56 a_sj a_iv a_inn a_ac) → va_S A s.heap H locs → lv_has ls 4 [(2, .int a9)] → W p l e (headSpec (wG yX2_readRepeat cX2_readRepeat 4 (some .int)) rmX2_readRepeat).room s m ([.ref (q 7), .int g9, .int a9] : List Value).toArray below meth c H locs 0 0 Q (F0 m 56 ls []) := by
        intro a_si_56 v_r_faultKind_56 v_r_faultPlace_56 H locs ls f56_0 hP hD hS hl
        refine lv_iload_n hx hb dX2_readRepeat_56 rfl (lv_at hl 0 rfl) ?_
        refine lv_iconst (v := 1) hx hb dX2_readRepeat_57 (by decide) ?_
        refine m_iadd (X := a9.toInt) (Y := 1) hx hb dX2_readRepeat_58 rfl (by decide) (fun x58 e_x58 g9 => ?_)
        obtain ⟨k_x58, g_x58⟩ := g9
        have b_x58 := iB x58
        try (have q_x58 : x58.toInt = a9.toInt + 1 := (by omega); clear g_x58 k_x58)
        refine lv_goto (tgt := 63) hx hb dX2_readRepeat_59 (by decide) ?_
        subst hAe
        rw [hQ]
        exact W.iret (v := x58) hx hb hr (fun t ht hW => ⟨⟨x58, _, rfl, ⟨v_r_faultKind_56, v_r_faultPlace_56, v_a_digits, v_a_kind, v_a_from, v_a_to, a_si_56, rfl, by first | assumption | omega | (intros; omega) | decide, by first | assumption | omega | (intros; omega) | decide⟩, by rw [ht]; exact hP, va_K.moved hW.alike hK, hD⟩, hS.F ht⟩) hS.2.2 dX2_readRepeat_63
      refine m_icmp_eq (X := g9.toInt) (Y := 42) (tgt := 56) hx hb dX2_readRepeat_45 (by decide) rfl (by decide) (fun c45 => ?_) (fun c45 => ?_)
      · skip
        exact J56 a_si v_r_faultKind v_r_faultPlace H locs ls (by first | assumption | omega | (intros; omega) | decide) hP hD hS (lv_sub hl [2] rfl)
      · skip
        refine lv_aload_n hx hb dX2_readRepeat_48 rfl (lv_at hl 0 rfl) ?_
        refine lv_iload_n hx hb dX2_readRepeat_49 rfl (lv_at hl 3 rfl) ?_
        refine call_i (As := [.int l3_30]) (rest := []) ⟨hx, hb, hml, hown, hts⟩ (tX2_endClass (l := l) l3_30 (by first | assumption | omega | (intros; omega) | decide) (by first | assumption | omega | (intros; omega) | decide)) (cwV 1 hts (gV (wr18 _ (List.mem_of_getElem? (i := 21) rfl)) (wr18 _ (List.mem_of_getElem? (i := 22) rfl)) (wr18 _ (List.mem_of_getElem? (i := 23) rfl)) (wr1 _ (List.mem_of_getElem? (i := 23) rfl)) (wr19 _ (List.mem_of_getElem? (i := 0) rfl))) rfl rfl rfl (by decide +kernel) ⟨Nat.le_of_ble_eq_true rfl, Nat.le_of_ble_eq_true rfl⟩) (va_recv hK hP (ci := 1) (q0 := 7) rfl rfl) hK hP hD hE hS hA rfl hl.1 rfl (Nat.le_of_ble_eq_true rfl) dX2_readRepeat_50 ⟨Nat.le_of_ble_eq_true rfl, Nat.le_of_ble_eq_true rfl⟩ (fun r50 w9 H locs hw50 hP hD hS => ?_)
        obtain ⟨v_r_faultKind_50, v_r_faultPlace_50, a_si_50, rfl, hw50_0, hw50_1⟩ := hw50
        have b_v_r_faultKind_50 := iB v_r_faultKind_50
        have b_v_r_faultPlace_50 := iB v_r_faultPlace_50
        have b_r50 := iB r50
        refine m_if_eq (X := r50.toInt) (tgt := 62) hx hb dX2_readRepeat_53 (by decide) rfl (fun c53 => ?_) (fun c53 => ?_)
        · skip
          refine lv_iconst (v := (-1)) hx hb dX2_readRepeat_62 (by decide) ?_
          subst hAe
          rw [hQ]
          exact W.iret (v := (-1)) hx hb hr (fun t ht hW => ⟨⟨(-1), _, rfl, ⟨v_r_faultKind_50, v_r_faultPlace_50, v_a_digits, v_a_kind, v_a_from, v_a_to, a_si_50, rfl, by first | assumption | omega | (intros; omega) | decide, by first | assumption | omega | (intros; omega) | decide⟩, by rw [ht]; exact hP, va_K.moved hW.alike hK, hD⟩, hS.F ht⟩) hS.2.2 dX2_readRepeat_63
        · skip
          exact J56 a_si_50 v_r_faultKind_50 v_r_faultPlace_50 H locs ls (by first | assumption | omega | (intros; omega) | decide) hP hD hS (lv_sub hl [2] rfl)
  refine m_icmp_ne (X := g9.toInt) (Y := 47) (tgt := 30) hx hb dX2_readRepeat_19 (by decide) rfl (by decide) (fun c19 => ?_) (fun c19 => ?_)
  · skip
    exact J30 x14 H locs ls hP hD hS (lv_sub hl [1, 2, 3, 0] rfl)
  · skip
    refine lv_aload_n hx hb dX2_readRepeat_22 rfl (lv_at hl 1 rfl) ?_
    have hf23 : aS a_L a_K a_r_now := by first | assumption
    refine va_get (D := D) (ci := 1) (v := .ref a_r_now) (C := RX2) (T := TX2) (N := 8) hx hb hts hinX2 hown hK hP 7 rfl rfl 2 (by decide) k_3_14 (fun _ h9 => h9) rfl dX2_readRepeat_23 ?_
    obtain ⟨k26_, hk26_⟩ := pl_S (X := (twX cs q v_t_tapeSize v_t_textSize v_t_faultKind a_t_tape a_t_text a_g_beyond v_g_size a_g_steps a_h_beyond v_h_size a_h_steps a_r_scratch a_r_now v_r_takes v_r_negative v_r_namePlace v_r_faultKind v_r_faultPlace v_a_size v_a_limit v_a_digits v_a_kind v_a_from v_a_to v_o_size a_o_out v_b_size v_b_limit v_b_digits v_b_kind v_b_from v_b_to a_u_atom a_u_other a_u_hand v_u_marksMade v_u_came v_u_guesses v_u_right v_u_taken a_u_vars a_u_marks a_u_outcomes a_u_indexes v_s_things v_s_looked v_s_lookedTooOften v_s_arraysMade v_s_cellsMade a_s_classes a_s_starts a_s_lengths a_s_cells)) (cI := cs 0) (vc := a_vc) (vd := a_vd) (si := a_si) (sj := a_sj) (iv := a_iv) (inn := a_inn) (ac := a_ac) hf23
    refine va_get (D := D) (ci := 5) (v := .int (a_si a_r_now 8)) (C := RX6) (T := TX6) (N := 15) hx hb hts hinX6 hown hK hP k26_ hk26_ rfl 8 (by decide) k_18_20 (fun _ h9 => h9) rfl dX2_readRepeat_26 ?_
    refine lv_topi (fun x26 e_x26 => ?_)
    have b_x26 := iB x26
    refine lv_istore_n (lv' := [(3, .int x26), (0, .ref (q 7)), (1, .int g9), (2, .int a9)]) hx hb dX2_readRepeat_29 rfl hl (by decide) rfl (fun ls hl => ?_)
    exact J30 x26 H locs ls hP hD hS (lv_sub hl [1, 2, 3, 0] rfl)

def rmX2_acceptIndex : Room := { frames := 120, cells := 0, slots := 0, locals := 2400 }
set_option maxHeartbeats 4000000 in
set_option maxRecDepth 100000 in
theorem tX2_acceptIndex {l : Launch} {D : va_G} {K : Nat → Nat → Nat} {cs : Nat → ClassId} {q : Nat → Nat} {v_t_tapeSize v_t_textSize v_t_faultKind v_g_size v_h_size v_r_takes v_r_negative v_r_namePlace v_r_faultKind v_r_faultPlace v_a_size v_a_limit v_a_digits v_a_kind v_a_from v_a_to v_o_size v_b_size v_b_limit v_b_digits v_b_kind v_b_from v_b_to v_u_marksMade v_u_came v_u_guesses v_u_right v_u_taken v_s_things v_s_looked v_s_lookedTooOften v_s_arraysMade v_s_cellsMade : Int32} {a_t_tape a_t_text a_o_out a_u_outcomes a_u_indexes a_s_classes a_s_starts a_s_lengths a_vc : Nat → Int32} {a_g_beyond a_h_beyond a_r_scratch a_r_now a_u_atom a_u_other a_u_hand : Nat} {a_g_steps a_h_steps a_u_vars a_u_marks : Nat → Option Nat} {a_s_cells a_vd a_sj : Nat → Int64} {a_L : List Nat} {a_K a_iv a_inn : Nat → Nat} {a_si a_ac : Nat → Nat → Int32} (p_0 : LI 3100 v_a_size v_a_limit v_a_digits v_a_kind v_a_from v_a_to) (p_1 : PI a_L a_K a_si a_iv a_inn) (p_2 : aS a_L a_K a_r_now) : CtI l yX2_acceptIndex (wG yX2_acceptIndex cX2_acceptIndex 3 (some .boolean)) rmX2_acceptIndex D (twT cs) K [.ref (q 7)] (tw cs q v_t_tapeSize v_t_textSize v_t_faultKind a_t_tape a_t_text a_g_beyond v_g_size a_g_steps a_h_beyond v_h_size a_h_steps a_r_scratch a_r_now v_r_takes v_r_negative v_r_namePlace v_r_faultKind v_r_faultPlace v_a_size v_a_limit v_a_digits v_a_kind v_a_from v_a_to v_o_size a_o_out v_b_size v_b_limit v_b_digits v_b_kind v_b_from v_b_to a_u_atom a_u_other a_u_hand v_u_marksMade v_u_came v_u_guesses v_u_right v_u_taken a_u_vars a_u_marks a_u_outcomes a_u_indexes v_s_things v_s_looked v_s_lookedTooOften v_s_arraysMade v_s_cellsMade a_s_classes a_s_starts a_s_lengths a_s_cells a_L a_K a_vc a_vd a_si a_sj a_iv a_inn a_ac) (fun r w1 => ∃ (v_r_faultKind' : Int32) (v_r_faultPlace' : Int32) (a_si' : Nat → Nat → Int32) (a_ac' : Nat → Nat → Int32), w1 = (tw cs q v_t_tapeSize v_t_textSize v_t_faultKind a_t_tape a_t_text a_g_beyond v_g_size a_g_steps a_h_beyond v_h_size a_h_steps a_r_scratch a_r_now v_r_takes v_r_negative v_r_namePlace v_r_faultKind' v_r_faultPlace' v_a_size v_a_limit v_a_digits v_a_kind v_a_from v_a_to v_o_size a_o_out v_b_size v_b_limit v_b_digits v_b_kind v_b_from v_b_to a_u_atom a_u_other a_u_hand v_u_marksMade v_u_came v_u_guesses v_u_right v_u_taken a_u_vars a_u_marks a_u_outcomes a_u_indexes v_s_things v_s_looked v_s_lookedTooOften v_s_arraysMade v_s_cellsMade a_s_classes a_s_starts a_s_lengths a_s_cells a_L a_K a_vc a_vd a_si' a_sj a_iv a_inn a_ac') ∧ (PI a_L a_K a_si' a_iv a_inn) ∧ (r.toInt = 0 ∨ r.toInt = 1)) 0 0 := by
  intro sz
  refine Met.ofW (cc := cX2_acceptIndex) (maxL := 3) (ret := (some .boolean)) (by decide) rfl ?_
  intro p e s m args below meth c s₁ B hml hv
  obtain ⟨rfl, hsz, hP, hK, hD0, hE⟩ := hv
  have hx := B.exec
  have hb := B.bytes
  have hr := B.returns
  have hts := atoms_spec (ws := (wG yX2_acceptIndex cX2_acceptIndex 3 (some .boolean))) B.pre
  have hown : s.vm.findClass RX2 = some m.cls := findClass_of_methodNamed B.named
  have hlocks := B.notSynchronized
  subst hsz
  have hD := hD0.self (sz := s.heap.size)
  obtain ⟨A, hAe⟩ : ∃ A : Nat → Prop, A = va_A (tw cs q v_t_tapeSize v_t_textSize v_t_faultKind a_t_tape a_t_text a_g_beyond v_g_size a_g_steps a_h_beyond v_h_size a_h_steps a_r_scratch a_r_now v_r_takes v_r_negative v_r_namePlace v_r_faultKind v_r_faultPlace v_a_size v_a_limit v_a_digits v_a_kind v_a_from v_a_to v_o_size a_o_out v_b_size v_b_limit v_b_digits v_b_kind v_b_from v_b_to a_u_atom a_u_other a_u_hand v_u_marksMade v_u_came v_u_guesses v_u_right v_u_taken a_u_vars a_u_marks a_u_outcomes a_u_indexes v_s_things v_s_looked v_s_lookedTooOften v_s_arraysMade v_s_cellsMade a_s_classes a_s_starts a_s_lengths a_s_cells a_L a_K a_vc a_vd a_si a_sj a_iv a_inn a_ac) s.heap.size := ⟨_, rfl⟩
  rw [← hAe] at hD hE
  have hA : ∀ q : Nat, s.heap.size ≤ q → A q := fun q h => by rw [hAe]; exact Or.inr h
  have hS : va_S A s.heap s.heap [] := va_S.rf
  have hl := lv_entry ([.ref (q 7)]) (n := 3) (Nat.le_of_ble_eq_true rfl)
  rw [lg_entry_eq]
  generalize (lg_sl ([.ref (q 7)]) ++ List.replicate (3 - (lg_sl ([.ref (q 7)])).length) Slot.unset).toArray = ls at hl ⊢
  have hl : lv_has ls 3 [(0, .ref (q 7))] := hl
  refine wq (fun Q hQ => ?_)
  have hinX1 : ∀ w ∈ wsX10, w ∈ (wG yX2_acceptIndex cX2_acceptIndex 3 (some .boolean)) := fun w h => List.mem_cons_of_mem _ (inlX1 w h)
  have hinX2 : ∀ w ∈ wsX20, w ∈ (wG yX2_acceptIndex cX2_acceptIndex 3 (some .boolean)) := fun w h => List.mem_cons_of_mem _ (inlX2 w h)
  have kc0 : (-1 : Int32).toInt = -1 := by decide
  have kc1 : (0 : Int32).toInt = 0 := by decide
  have kc2 : (1 : Int32).toInt = 1 := by decide
  have kc3 : (3 : Int32).toInt = 3 := by decide
  have kc4 : (4 : Int32).toInt = 4 := by decide
  have k_3_11 := hts (.fieldLink RX2 9 "ArrayTrainer$Parser" "lexer" "LArrayTrainer$Lexer;") (List.mem_cons_of_mem _ (wr3 _ (List.mem_of_getElem? (i := 11) rfl)))
  have k_8_17 := hts (.fieldLink RX2 35 "ArrayTrainer$Lexer" "kind" "I") (List.mem_cons_of_mem _ (wr8 _ (List.mem_of_getElem? (i := 17) rfl)))
  have k_9_2 := hts (.fieldLink RX2 90 "ArrayTrainer$Parser" "negative" "Z") (List.mem_cons_of_mem _ (wr9 _ (List.mem_of_getElem? (i := 2) rfl)))
  have k_3_14 := hts (.fieldLink RX2 22 "ArrayTrainer$Parser" "now" "LArrayTrainer$Step;") (List.mem_cons_of_mem _ (wr3 _ (List.mem_of_getElem? (i := 14) rfl)))
  obtain ⟨H, hH⟩ : ∃ H : Heap, H = s.heap := ⟨_, rfl⟩
  obtain ⟨locs, hlc⟩ : ∃ L : List Loc, L = [] := ⟨_, rfl⟩
  have hP : va_P D vwCl (tw cs q v_t_tapeSize v_t_textSize v_t_faultKind a_t_tape a_t_text a_g_beyond v_g_size a_g_steps a_h_beyond v_h_size a_h_steps a_r_scratch a_r_now v_r_takes v_r_negative v_r_namePlace v_r_faultKind v_r_faultPlace v_a_size v_a_limit v_a_digits v_a_kind v_a_from v_a_to v_o_size a_o_out v_b_size v_b_limit v_b_digits v_b_kind v_b_from v_b_to a_u_atom a_u_other a_u_hand v_u_marksMade v_u_came v_u_guesses v_u_right v_u_taken a_u_vars a_u_marks a_u_outcomes a_u_indexes v_s_things v_s_looked v_s_lookedTooOften v_s_arraysMade v_s_cellsMade a_s_classes a_s_starts a_s_lengths a_s_cells a_L a_K a_vc a_vd a_si a_sj a_iv a_inn a_ac) H := by rw [hH]; exact hP
  have hS : va_S A s.heap H locs := by rw [hH, hlc]; exact hS
  refine wHL hH hlc ?_
  refine lv_aload_n hx hb dX2_acceptIndex_0 rfl (lv_at hl 0 rfl) ?_
  refine va_get (D := D) (ci := 1) (v := .ref (q 8)) (C := RX2) (T := TX2) (N := 8) hx hb hts hinX2 hown hK hP 7 rfl rfl 0 (by decide) k_3_11 (fun _ h9 => h9) rfl dX2_acceptIndex_1 ?_
  refine va_get (D := D) (ci := 0) (v := .int v_a_kind) (C := RX1) (T := TX1) (N := 7) hx hb hts hinX1 hown hK hP 8 rfl rfl 4 (by decide) k_8_17 (fun _ h9 => h9) rfl dX2_acceptIndex_4 ?_
  refine lv_iconst (v := 3) hx hb dX2_acceptIndex_7 (by decide) ?_
  refine m_icmp_eq (X := v_a_kind.toInt) (Y := 3) (tgt := 54) hx hb dX2_acceptIndex_8 (by decide) rfl (by decide) (fun c8 => ?_) (fun c8 => ?_)
  · skip
    refine lv_aload_n hx hb dX2_acceptIndex_54 rfl (lv_at hl 0 rfl) ?_
    refine va_get (D := D) (ci := 1) (v := .ref (q 8)) (C := RX2) (T := TX2) (N := 8) hx hb hts hinX2 hown hK hP 7 rfl rfl 0 (by decide) k_3_11 (fun _ h9 => h9) rfl dX2_acceptIndex_55 ?_
    refine call_j (As := []) (rest := []) ⟨hx, hb, hml, hown, hts⟩ (tX1_magnitude_qa (l := l)  (by first | assumption | omega | (intros; omega) | decide)) (cwV 0 hts (gV (wr20 _ (List.mem_of_getElem? (i := 3) rfl)) (wr20 _ (List.mem_of_getElem? (i := 4) rfl)) (wr20 _ (List.mem_of_getElem? (i := 5) rfl)) (wr2 _ (List.mem_of_getElem? (i := 2) rfl)) (wr20 _ (List.mem_of_getElem? (i := 6) rfl))) rfl rfl rfl (by decide +kernel) ⟨Nat.le_of_ble_eq_true rfl, Nat.le_of_ble_eq_true rfl⟩) (va_recv hK hP (ci := 0) (q0 := 8) rfl rfl) hK hP hD hE hS hA rfl hl.1 rfl (Nat.le_of_ble_eq_true rfl) dX2_acceptIndex_58 ⟨Nat.le_of_ble_eq_true rfl, Nat.le_of_ble_eq_true rfl⟩ (fun r58 w9 H locs hw58 hP hD hS => ?_)
    obtain ⟨rfl⟩ := hw58
    have b_r58 := jB r58
    refine lv_lstore_n (lv' := [(1, .long r58), (0, .ref (q 7))]) hx hb dX2_acceptIndex_61 rfl hl (by decide) rfl (fun ls hl => ?_)
    refine lv_aload_n hx hb dX2_acceptIndex_62 rfl (lv_at hl 1 rfl) ?_
    refine va_get (D := D) (ci := 1) (v := .ref (q 8)) (C := RX2) (T := TX2) (N := 8) hx hb hts hinX2 hown hK hP 7 rfl rfl 0 (by decide) k_3_11 (fun _ h9 => h9) rfl dX2_acceptIndex_63 ?_
    refine call_i (As := []) (rest := []) ⟨hx, hb, hml, hown, hts⟩ (tX1_numberKind_qa (l := l)  (by first | assumption | omega | (intros; omega) | decide) (by first | assumption | omega | (intros; omega) | decide)) (cwV 0 hts (gV (wr20 _ (List.mem_of_getElem? (i := 8) rfl)) (wr20 _ (List.mem_of_getElem? (i := 9) rfl)) (wr20 _ (List.mem_of_getElem? (i := 10) rfl)) (wr2 _ (List.mem_of_getElem? (i := 2) rfl)) (wr20 _ (List.mem_of_getElem? (i := 11) rfl))) rfl rfl rfl (by decide +kernel) ⟨Nat.le_of_ble_eq_true rfl, Nat.le_of_ble_eq_true rfl⟩) (va_recv hK hP (ci := 0) (q0 := 8) rfl rfl) hK hP hD hE hS hA rfl hl.1 rfl (Nat.le_of_ble_eq_true rfl) dX2_acceptIndex_66 ⟨Nat.le_of_ble_eq_true rfl, Nat.le_of_ble_eq_true rfl⟩ (fun r66 w9 H locs hw66 hP hD hS => ?_)
    obtain ⟨rfl⟩ := hw66
    have b_r66 := iB r66
    refine lv_iconst (v := 4) hx hb dX2_acceptIndex_69 (by decide) ?_
    have J85 : ∀ (H : Heap) (locs : List Loc) (ls : Array Slot), va_P D vwCl (tw cs q v_t_tapeSize v_t_textSize v_t_faultKind a_t_tape a_t_text a_g_beyond v_g_size a_g_steps a_h_beyond v_h_size a_h_steps a_r_scratch a_r_now v_r_takes v_r_negative v_r_namePlace v_r_faultKind v_r_faultPlace v_a_size v_a_limit v_a_digits v_a_kind v_a_from v_a_to v_o_size a_o_out v_b_size v_b_limit v_b_digits v_b_kind v_b_from v_b_to a_u_atom a_u_other a_u_hand v_u_marksMade v_u_came v_u_guesses v_u_right v_u_taken a_u_vars a_u_marks a_u_outcomes a_u_indexes v_s_things v_s_looked v_s_lookedTooOften v_s_arraysMade v_s_cellsMade a_s_classes a_s_starts a_s_lengths a_s_cells a_L a_K a_vc a_vd a_si a_sj a_iv a_inn a_ac) H → va_D A (tw cs q v_t_tapeSize v_t_textSize v_t_faultKind a_t_tape a_t_text a_g_beyond v_g_size a_g_steps a_h_beyond v_h_size a_h_steps a_r_scratch a_r_now v_r_takes v_r_negative v_r_namePlace v_r_faultKind v_r_faultPlace v_a_size v_a_limit v_a_digits v_a_kind v_a_from v_a_to v_o_size a_o_out v_b_size v_b_limit v_b_digits v_b_kind v_b_from v_b_to a_u_atom a_u_other a_u_hand v_u_marksMade v_u_came v_u_guesses v_u_right v_u_taken a_u_vars a_u_marks a_u_outcomes a_u_indexes v_s_things v_s_looked v_s_lookedTooOften v_s_arraysMade v_s_cellsMade a_s_classes a_s_starts a_s_lengths a_s_cells a_L a_K a_vc a_vd a_si a_sj a_iv a_inn a_ac) → va_S A s.heap H locs → lv_has ls 3 [(0, .ref (q 7))] → W p l e (headSpec (wG yX2_acceptIndex cX2_acceptIndex 3 (some .boolean)) rmX2_acceptIndex).room s m ([.ref (q 7)] : List Value).toArray below meth c H locs 0 0 Q (F0 m 85 ls []) := by
      intro H locs ls hP hD hS hl
      refine lv_aload_n hx hb dX2_acceptIndex_85 rfl (lv_at hl 0 rfl) ?_
      refine lv_iconst (v := 3) hx hb dX2_acceptIndex_86 (by decide) ?_
      refine call_i (As := [.int 3]) (rest := []) ⟨hx, hb, hml, hown, hts⟩ (tX2_refuse (l := l) (3 : Int32)) (cwV 1 hts (gV (wr15 _ (List.mem_of_getElem? (i := 20) rfl)) (wr15 _ (List.mem_of_getElem? (i := 21) rfl)) (wr15 _ (List.mem_of_getElem? (i := 22) rfl)) (wr1 _ (List.mem_of_getElem? (i := 23) rfl)) (wr15 _ (List.mem_of_getElem? (i := 23) rfl))) rfl rfl rfl (by decide +kernel) ⟨Nat.le_of_ble_eq_true rfl, Nat.le_of_ble_eq_true rfl⟩) (va_recv hK hP (ci := 1) (q0 := 7) rfl rfl) hK hP hD hE hS hA rfl hl.1 rfl (Nat.le_of_ble_eq_true rfl) dX2_acceptIndex_87 ⟨Nat.le_of_ble_eq_true rfl, Nat.le_of_ble_eq_true rfl⟩ (fun r87 w9 H locs hw87 hP hD hS => ?_)
      obtain ⟨v_r_faultKind_87, v_r_faultPlace_87, rfl, hw87_0⟩ := hw87
      have b_v_r_faultKind_87 := iB v_r_faultKind_87
      have b_v_r_faultPlace_87 := iB v_r_faultPlace_87
      have b_r87 := iB r87
      subst hAe
      rw [hQ]
      exact W.zret (v := r87) hx hb hr (nbool (by first | omega | decide)) (fun t ht hW => ⟨⟨r87, _, rfl, ⟨v_r_faultKind_87, v_r_faultPlace_87, a_si, a_ac, rfl, by first | assumption | omega | (intros; omega) | decide, by first | assumption | omega | (intros; omega) | decide⟩, by rw [ht]; exact hP, va_K.moved hW.alike hK, hD⟩, hS.F ht⟩) hS.2.2 dX2_acceptIndex_90
    refine m_icmp_ne (X := r66.toInt) (Y := 4) (tgt := 85) hx hb dX2_acceptIndex_70 (by decide) rfl (by decide) (fun c70 => ?_) (fun c70 => ?_)
    · skip
      exact J85 H locs ls hP hD hS (lv_sub hl [1] rfl)
    · skip
      refine lv_iconst (v := 4) hx hb dX2_acceptIndex_73 (by decide) ?_
      refine lv_lload_n hx hb dX2_acceptIndex_74 rfl (lv_at hl 0 rfl) ?_
      refine lv_aload_n hx hb dX2_acceptIndex_75 rfl (lv_at hl 1 rfl) ?_
      refine va_get (D := D) (ci := 1) (v := .int v_r_negative) (C := RX2) (T := TX2) (N := 8) hx hb hts hinX2 hown hK hP 7 rfl rfl 4 (by decide) k_9_2 (fun _ h9 => h9) rfl dX2_acceptIndex_76 ?_
      refine call_iSP (As := [.int 4, .long r58, .int v_r_negative]) (rest := []) ⟨hx, hb, hml, hown, hts⟩ (tX0_has (l := l) (4 : Int32) r58 v_r_negative) (va_cwS 3 hts (gS (wr20 _ (List.mem_of_getElem? (i := 12) rfl)) (wr20 _ (List.mem_of_getElem? (i := 13) rfl)) (wr19 _ (List.mem_of_getElem? (i := 5) rfl)) (wr20 _ (List.mem_of_getElem? (i := 14) rfl))) rfl rfl rfl (by decide +kernel) ⟨Nat.le_of_ble_eq_true rfl, Nat.le_of_ble_eq_true rfl⟩) (hK.sub [] rfl) hP hD hE hS hA rfl hl.1 rfl (Nat.le_of_ble_eq_true rfl) dX2_acceptIndex_79 ⟨Nat.le_of_ble_eq_true rfl, Nat.le_of_ble_eq_true rfl⟩ (fun r79 w9 H locs hw79 hP hD hS => ?_)
      obtain ⟨rfl⟩ := hw79
      have b_r79 := iB r79
      refine m_if_ne (X := r79.toInt) (tgt := 91) hx hb dX2_acceptIndex_82 (by decide) rfl (fun c82 => ?_) (fun c82 => ?_)
      · skip
        refine lv_aload_n hx hb dX2_acceptIndex_91 rfl (lv_at hl 1 rfl) ?_
        have hf92 : aS a_L a_K a_r_now := by first | assumption
        refine va_get (D := D) (ci := 1) (v := .ref a_r_now) (C := RX2) (T := TX2) (N := 8) hx hb hts hinX2 hown hK hP 7 rfl rfl 2 (by decide) k_3_14 (fun _ h9 => h9) rfl dX2_acceptIndex_92 ?_
        refine lv_iconst (v := (-1)) hx hb dX2_acceptIndex_95 (by decide) ?_
        refine lv_aload_n hx hb dX2_acceptIndex_96 rfl (lv_at hl 1 rfl) ?_
        refine va_get (D := D) (ci := 1) (v := .int v_r_negative) (C := RX2) (T := TX2) (N := 8) hx hb hts hinX2 hown hK hP 7 rfl rfl 4 (by decide) k_9_2 (fun _ h9 => h9) rfl dX2_acceptIndex_97 ?_
        have J109 : ∀ (s2_109 : Int64) (H : Heap) (locs : List Loc) (ls : Array Slot), va_P D vwCl (tw cs q v_t_tapeSize v_t_textSize v_t_faultKind a_t_tape a_t_text a_g_beyond v_g_size a_g_steps a_h_beyond v_h_size a_h_steps a_r_scratch a_r_now v_r_takes v_r_negative v_r_namePlace v_r_faultKind v_r_faultPlace v_a_size v_a_limit v_a_digits v_a_kind v_a_from v_a_to v_o_size a_o_out v_b_size v_b_limit v_b_digits v_b_kind v_b_from v_b_to a_u_atom a_u_other a_u_hand v_u_marksMade v_u_came v_u_guesses v_u_right v_u_taken a_u_vars a_u_marks a_u_outcomes a_u_indexes v_s_things v_s_looked v_s_lookedTooOften v_s_arraysMade v_s_cellsMade a_s_classes a_s_starts a_s_lengths a_s_cells a_L a_K a_vc a_vd a_si a_sj a_iv a_inn a_ac) H → va_D A (tw cs q v_t_tapeSize v_t_textSize v_t_faultKind a_t_tape a_t_text a_g_beyond v_g_size a_g_steps a_h_beyond v_h_size a_h_steps a_r_scratch a_r_now v_r_takes v_r_negative v_r_namePlace v_r_faultKind v_r_faultPlace v_a_size v_a_limit v_a_digits v_a_kind v_a_from v_a_to v_o_size a_o_out v_b_size v_b_limit v_b_digits v_b_kind v_b_from v_b_to a_u_atom a_u_other a_u_hand v_u_marksMade v_u_came v_u_guesses v_u_right v_u_taken a_u_vars a_u_marks a_u_outcomes a_u_indexes v_s_things v_s_looked v_s_lookedTooOften v_s_arraysMade v_s_cellsMade a_s_classes a_s_starts a_s_lengths a_s_cells a_L a_K a_vc a_vd a_si a_sj a_iv a_inn a_ac) → va_S A s.heap H locs → lv_has ls 3 [] → W p l e (headSpec (wG yX2_acceptIndex cX2_acceptIndex 3 (some .boolean)) rmX2_acceptIndex).room s m ([.ref (q 7)] : List Value).toArray below meth c H locs 0 0 Q (F0 m 109 ls [.long s2_109, .int (-1), .ref a_r_now]) := by
          intro s2_109 H locs ls hP hD hS hl
          refine m_l2i hx hb dX2_acceptIndex_109 (fun x109 e_x109 => ?_)
          have b_x109 := iB x109
          obtain ⟨k110_, hk110_⟩ := pl_S (X := (twX cs q v_t_tapeSize v_t_textSize v_t_faultKind a_t_tape a_t_text a_g_beyond v_g_size a_g_steps a_h_beyond v_h_size a_h_steps a_r_scratch a_r_now v_r_takes v_r_negative v_r_namePlace v_r_faultKind v_r_faultPlace v_a_size v_a_limit v_a_digits v_a_kind v_a_from v_a_to v_o_size a_o_out v_b_size v_b_limit v_b_digits v_b_kind v_b_from v_b_to a_u_atom a_u_other a_u_hand v_u_marksMade v_u_came v_u_guesses v_u_right v_u_taken a_u_vars a_u_marks a_u_outcomes a_u_indexes v_s_things v_s_looked v_s_lookedTooOften v_s_arraysMade v_s_cellsMade a_s_classes a_s_starts a_s_lengths a_s_cells)) (cI := cs 0) (vc := a_vc) (vd := a_vd) (si := a_si) (sj := a_sj) (iv := a_iv) (inn := a_inn) (ac := a_ac) hf92
          refine call_v (As := [.int (-1), .int x109]) (rest := []) ⟨hx, hb, hml, hown, hts⟩ (tX6_addIndex (l := l) a_r_now hf92 (-1 : Int32) x109 (by first | assumption | omega | (intros; omega) | decide)) (cwV 2 hts (gV (wr19 _ (List.mem_of_getElem? (i := 23) rfl)) (wr20 _ (List.mem_of_getElem? (i := 0) rfl)) (wr20 _ (List.mem_of_getElem? (i := 1) rfl)) (wr2 _ (List.mem_of_getElem? (i := 18) rfl)) (wr20 _ (List.mem_of_getElem? (i := 2) rfl))) rfl rfl rfl (by decide +kernel) ⟨Nat.le_of_ble_eq_true rfl, Nat.le_of_ble_eq_true rfl⟩) (va_recv hK hP (ci := 5) (q0 := k110_) rfl hk110_) hK hP hD hE hS hA rfl hl.1 rfl (Nat.le_of_ble_eq_true rfl) dX2_acceptIndex_110 ⟨Nat.le_of_ble_eq_true rfl, Nat.le_of_ble_eq_true rfl⟩ (fun w9 H locs hw110 hP hD hS => ?_)
          obtain ⟨a_si_110, a_ac_110, rfl, hw110_0⟩ := hw110
          refine lv_iconst (v := 1) hx hb dX2_acceptIndex_113 (by decide) ?_
          subst hAe
          rw [hQ]
          exact W.zret (v := 1) hx hb hr (by decide) (fun t ht hW => ⟨⟨1, _, rfl, ⟨v_r_faultKind, v_r_faultPlace, a_si_110, a_ac_110, rfl, by first | assumption | omega | (intros; omega) | decide, by first | assumption | omega | (intros; omega) | decide⟩, by rw [ht]; exact hP, va_K.moved hW.alike hK, hD⟩, hS.F ht⟩) hS.2.2 dX2_acceptIndex_114
        refine m_if_eq (X := v_r_negative.toInt) (tgt := 108) hx hb dX2_acceptIndex_100 (by decide) rfl (fun c100 => ?_) (fun c100 => ?_)
        · skip
          refine lv_lload_n hx hb dX2_acceptIndex_108 rfl (lv_at hl 0 rfl) ?_
          exact J109 r58 H locs ls hP hD hS (lv_sub hl [] rfl)
        · skip
          refine lv_lload_n hx hb dX2_acceptIndex_103 rfl (lv_at hl 0 rfl) ?_
          refine m_lneg (X := r58.toInt) hx hb dX2_acceptIndex_104 rfl (fun x104 e_x104 g9 => ?_)
          obtain ⟨k_x104, g_x104⟩ := g9
          have b_x104 := jB x104
          try (have q_x104 : x104.toInt = -r58.toInt := (by omega); clear g_x104 k_x104)
          refine lv_goto (tgt := 109) hx hb dX2_acceptIndex_105 (by decide) ?_
          exact J109 x104 H locs ls hP hD hS (lv_sub hl [] rfl)
      · skip
        exact J85 H locs ls hP hD hS (lv_sub hl [1] rfl)
  · skip
    refine lv_aload_n hx hb dX2_acceptIndex_11 rfl (lv_at hl 0 rfl) ?_
    refine va_get (D := D) (ci := 1) (v := .int v_r_negative) (C := RX2) (T := TX2) (N := 8) hx hb hts hinX2 hown hK hP 7 rfl rfl 4 (by decide) k_9_2 (fun _ h9 => h9) rfl dX2_acceptIndex_12 ?_
    have J29 : ∀ (s0_29 : Int32) (H : Heap) (locs : List Loc) (ls : Array Slot), va_P D vwCl (tw cs q v_t_tapeSize v_t_textSize v_t_faultKind a_t_tape a_t_text a_g_beyond v_g_size a_g_steps a_h_beyond v_h_size a_h_steps a_r_scratch a_r_now v_r_takes v_r_negative v_r_namePlace v_r_faultKind v_r_faultPlace v_a_size v_a_limit v_a_digits v_a_kind v_a_from v_a_to v_o_size a_o_out v_b_size v_b_limit v_b_digits v_b_kind v_b_from v_b_to a_u_atom a_u_other a_u_hand v_u_marksMade v_u_came v_u_guesses v_u_right v_u_taken a_u_vars a_u_marks a_u_outcomes a_u_indexes v_s_things v_s_looked v_s_lookedTooOften v_s_arraysMade v_s_cellsMade a_s_classes a_s_starts a_s_lengths a_s_cells a_L a_K a_vc a_vd a_si a_sj a_iv a_inn a_ac) H → va_D A (tw cs q v_t_tapeSize v_t_textSize v_t_faultKind a_t_tape a_t_text a_g_beyond v_g_size a_g_steps a_h_beyond v_h_size a_h_steps a_r_scratch a_r_now v_r_takes v_r_negative v_r_namePlace v_r_faultKind v_r_faultPlace v_a_size v_a_limit v_a_digits v_a_kind v_a_from v_a_to v_o_size a_o_out v_b_size v_b_limit v_b_digits v_b_kind v_b_from v_b_to a_u_atom a_u_other a_u_hand v_u_marksMade v_u_came v_u_guesses v_u_right v_u_taken a_u_vars a_u_marks a_u_outcomes a_u_indexes v_s_things v_s_looked v_s_lookedTooOften v_s_arraysMade v_s_cellsMade a_s_classes a_s_starts a_s_lengths a_s_cells a_L a_K a_vc a_vd a_si a_sj a_iv a_inn a_ac) → va_S A s.heap H locs → lv_has ls 3 [(0, .ref (q 7))] → W p l e (headSpec (wG yX2_acceptIndex cX2_acceptIndex 3 (some .boolean)) rmX2_acceptIndex).room s m ([.ref (q 7)] : List Value).toArray below meth c H locs 0 0 Q (F0 m 29 ls [.int s0_29]) := by
      intro s0_29 H locs ls hP hD hS hl
      refine lv_istore_n (lv' := [(1, .int s0_29), (0, .ref (q 7))]) hx hb dX2_acceptIndex_29 rfl hl (by decide) rfl (fun ls hl => ?_)
      refine lv_aload_n hx hb dX2_acceptIndex_30 rfl (lv_at hl 1 rfl) ?_
      have hf31 : aS a_L a_K a_r_now := by first | assumption
      refine va_get (D := D) (ci := 1) (v := .ref a_r_now) (C := RX2) (T := TX2) (N := 8) hx hb hts hinX2 hown hK hP 7 rfl rfl 2 (by decide) k_3_14 (fun _ h9 => h9) rfl dX2_acceptIndex_31 ?_
      refine lv_iload_n hx hb dX2_acceptIndex_34 rfl (lv_at hl 0 rfl) ?_
      refine lv_iconst (v := 0) hx hb dX2_acceptIndex_35 (by decide) ?_
      obtain ⟨k36_, hk36_⟩ := pl_S (X := (twX cs q v_t_tapeSize v_t_textSize v_t_faultKind a_t_tape a_t_text a_g_beyond v_g_size a_g_steps a_h_beyond v_h_size a_h_steps a_r_scratch a_r_now v_r_takes v_r_negative v_r_namePlace v_r_faultKind v_r_faultPlace v_a_size v_a_limit v_a_digits v_a_kind v_a_from v_a_to v_o_size a_o_out v_b_size v_b_limit v_b_digits v_b_kind v_b_from v_b_to a_u_atom a_u_other a_u_hand v_u_marksMade v_u_came v_u_guesses v_u_right v_u_taken a_u_vars a_u_marks a_u_outcomes a_u_indexes v_s_things v_s_looked v_s_lookedTooOften v_s_arraysMade v_s_cellsMade a_s_classes a_s_starts a_s_lengths a_s_cells)) (cI := cs 0) (vc := a_vc) (vd := a_vd) (si := a_si) (sj := a_sj) (iv := a_iv) (inn := a_inn) (ac := a_ac) hf31
      refine call_v (As := [.int s0_29, .int 0]) (rest := []) ⟨hx, hb, hml, hown, hts⟩ (tX6_addIndex (l := l) a_r_now hf31 s0_29 (0 : Int32) (by first | assumption | omega | (intros; omega) | decide)) (cwV 2 hts (gV (wr19 _ (List.mem_of_getElem? (i := 23) rfl)) (wr20 _ (List.mem_of_getElem? (i := 0) rfl)) (wr20 _ (List.mem_of_getElem? (i := 1) rfl)) (wr2 _ (List.mem_of_getElem? (i := 18) rfl)) (wr20 _ (List.mem_of_getElem? (i := 2) rfl))) rfl rfl rfl (by decide +kernel) ⟨Nat.le_of_ble_eq_true rfl, Nat.le_of_ble_eq_true rfl⟩) (va_recv hK hP (ci := 5) (q0 := k36_) rfl hk36_) hK hP hD hE hS hA rfl hl.1 rfl (Nat.le_of_ble_eq_true rfl) dX2_acceptIndex_36 ⟨Nat.le_of_ble_eq_true rfl, Nat.le_of_ble_eq_true rfl⟩ (fun w9 H locs hw36 hP hD hS => ?_)
      obtain ⟨a_si_36, a_ac_36, rfl, hw36_0⟩ := hw36
      refine lv_aload_n hx hb dX2_acceptIndex_39 rfl (lv_at hl 1 rfl) ?_
      refine lv_iload_n hx hb dX2_acceptIndex_40 rfl (lv_at hl 0 rfl) ?_
      refine lv_iconst (v := (-1)) hx hb dX2_acceptIndex_41 (by decide) ?_
      refine m_icmp_eq (X := s0_29.toInt) (Y := (-1)) (tgt := 49) hx hb dX2_acceptIndex_42 (by decide) rfl (by decide) (fun c42 => ?_) (fun c42 => ?_)
      · skip
        refine lv_iconst (v := 0) hx hb dX2_acceptIndex_49 (by decide) ?_
        refine call_i (As := [.int 0]) (rest := []) ⟨hx, hb, hml, hown, hts⟩ (tX2_acceptIf (l := l) (0 : Int32)) (cwV 1 hts (gV (wr19 _ (List.mem_of_getElem? (i := 12) rfl)) (wr19 _ (List.mem_of_getElem? (i := 13) rfl)) (wr19 _ (List.mem_of_getElem? (i := 14) rfl)) (wr1 _ (List.mem_of_getElem? (i := 23) rfl)) (wr19 _ (List.mem_of_getElem? (i := 15) rfl))) rfl rfl rfl (by decide +kernel) ⟨Nat.le_of_ble_eq_true rfl, Nat.le_of_ble_eq_true rfl⟩) (va_recv hK hP (ci := 1) (q0 := 7) rfl rfl) hK hP hD hE hS hA rfl hl.1 rfl (Nat.le_of_ble_eq_true rfl) dX2_acceptIndex_50 ⟨Nat.le_of_ble_eq_true rfl, Nat.le_of_ble_eq_true rfl⟩ (fun r50 w9 H locs hw50 hP hD hS => ?_)
        obtain ⟨v_r_faultKind_50, v_r_faultPlace_50, rfl, hw50_0⟩ := hw50
        have b_v_r_faultKind_50 := iB v_r_faultKind_50
        have b_v_r_faultPlace_50 := iB v_r_faultPlace_50
        have b_r50 := iB r50
        subst hAe
        rw [hQ]
        exact W.zret (v := r50) hx hb hr (nbool (by first | omega | decide)) (fun t ht hW => ⟨⟨r50, _, rfl, ⟨v_r_faultKind_50, v_r_faultPlace_50, a_si_36, a_ac_36, rfl, by first | assumption | omega | (intros; omega) | decide, by first | assumption | omega | (intros; omega) | decide⟩, by rw [ht]; exact hP, va_K.moved hW.alike hK, hD⟩, hS.F ht⟩) hS.2.2 dX2_acceptIndex_53
      · skip
        refine lv_iconst (v := 1) hx hb dX2_acceptIndex_45 (by decide) ?_
        refine lv_goto (tgt := 50) hx hb dX2_acceptIndex_46 (by decide) ?_
        refine call_i (As := [.int 1]) (rest := []) ⟨hx, hb, hml, hown, hts⟩ (tX2_acceptIf (l := l) (1 : Int32)) (cwV 1 hts (gV (wr19 _ (List.mem_of_getElem? (i := 12) rfl)) (wr19 _ (List.mem_of_getElem? (i := 13) rfl)) (wr19 _ (List.mem_of_getElem? (i := 14) rfl)) (wr1 _ (List.mem_of_getElem? (i := 23) rfl)) (wr19 _ (List.mem_of_getElem? (i := 15) rfl))) rfl rfl rfl (by decide +kernel) ⟨Nat.le_of_ble_eq_true rfl, Nat.le_of_ble_eq_true rfl⟩) (va_recv hK hP (ci := 1) (q0 := 7) rfl rfl) hK hP hD hE hS hA rfl hl.1 rfl (Nat.le_of_ble_eq_true rfl) dX2_acceptIndex_50 ⟨Nat.le_of_ble_eq_true rfl, Nat.le_of_ble_eq_true rfl⟩ (fun r50 w9 H locs hw50 hP hD hS => ?_)
        obtain ⟨v_r_faultKind_50, v_r_faultPlace_50, rfl, hw50_0⟩ := hw50
        have b_v_r_faultKind_50 := iB v_r_faultKind_50
        have b_v_r_faultPlace_50 := iB v_r_faultPlace_50
        have b_r50 := iB r50
        subst hAe
        rw [hQ]
        exact W.zret (v := r50) hx hb hr (nbool (by first | omega | decide)) (fun t ht hW => ⟨⟨r50, _, rfl, ⟨v_r_faultKind_50, v_r_faultPlace_50, a_si_36, a_ac_36, rfl, by first | assumption | omega | (intros; omega) | decide, by first | assumption | omega | (intros; omega) | decide⟩, by rw [ht]; exact hP, va_K.moved hW.alike hK, hD⟩, hS.F ht⟩) hS.2.2 dX2_acceptIndex_53
    refine m_if_eq (X := v_r_negative.toInt) (tgt := 22) hx hb dX2_acceptIndex_15 (by decide) rfl (fun c15 => ?_) (fun c15 => ?_)
    · skip
      refine lv_aload_n hx hb dX2_acceptIndex_22 rfl (lv_at hl 0 rfl) ?_
      refine va_get (D := D) (ci := 1) (v := .ref (q 8)) (C := RX2) (T := TX2) (N := 8) hx hb hts hinX2 hown hK hP 7 rfl rfl 0 (by decide) k_3_11 (fun _ h9 => h9) rfl dX2_acceptIndex_23 ?_
      refine call_i (As := []) (rest := []) ⟨hx, hb, hml, hown, hts⟩ (tX1_variable_qa (l := l)  (by first | assumption | omega | (intros; omega) | decide)) (cwV 0 hts (gV (wr14 _ (List.mem_of_getElem? (i := 3) rfl)) (wr14 _ (List.mem_of_getElem? (i := 4) rfl)) (wr14 _ (List.mem_of_getElem? (i := 5) rfl)) (wr2 _ (List.mem_of_getElem? (i := 2) rfl)) (wr14 _ (List.mem_of_getElem? (i := 6) rfl))) rfl rfl rfl (by decide +kernel) ⟨Nat.le_of_ble_eq_true rfl, Nat.le_of_ble_eq_true rfl⟩) (va_recv hK hP (ci := 0) (q0 := 8) rfl rfl) hK hP hD hE hS hA rfl hl.1 rfl (Nat.le_of_ble_eq_true rfl) dX2_acceptIndex_26 ⟨Nat.le_of_ble_eq_true rfl, Nat.le_of_ble_eq_true rfl⟩ (fun r26 w9 H locs hw26 hP hD hS => ?_)
      obtain ⟨rfl⟩ := hw26
      have b_r26 := iB r26
      exact J29 r26 H locs ls hP hD hS (lv_sub hl [0] rfl)
    · skip
      refine lv_iconst (v := (-1)) hx hb dX2_acceptIndex_18 (by decide) ?_
      refine lv_goto (tgt := 29) hx hb dX2_acceptIndex_19 (by decide) ?_
      exact J29 (-1 : Int32) H locs ls hP hD hS (lv_sub hl [0] rfl)

def rmX2_acceptNumber : Room := { frames := 120, cells := 0, slots := 0, locals := 2400 }
set_option maxHeartbeats 4000000 in
set_option maxRecDepth 100000 in
theorem tX2_acceptNumber {l : Launch} {D : va_G} {K : Nat → Nat → Nat} {cs : Nat → ClassId} {q : Nat → Nat} {v_t_tapeSize v_t_textSize v_t_faultKind v_g_size v_h_size v_r_takes v_r_negative v_r_namePlace v_r_faultKind v_r_faultPlace v_a_size v_a_limit v_a_digits v_a_kind v_a_from v_a_to v_o_size v_b_size v_b_limit v_b_digits v_b_kind v_b_from v_b_to v_u_marksMade v_u_came v_u_guesses v_u_right v_u_taken v_s_things v_s_looked v_s_lookedTooOften v_s_arraysMade v_s_cellsMade : Int32} {a_t_tape a_t_text a_o_out a_u_outcomes a_u_indexes a_s_classes a_s_starts a_s_lengths a_vc : Nat → Int32} {a_g_beyond a_h_beyond a_r_scratch a_r_now a_u_atom a_u_other a_u_hand : Nat} {a_g_steps a_h_steps a_u_vars a_u_marks : Nat → Option Nat} {a_s_cells a_vd a_sj : Nat → Int64} {a_L : List Nat} {a_K a_iv a_inn : Nat → Nat} {a_si a_ac : Nat → Nat → Int32} (p_0 : LI 3100 v_a_size v_a_limit v_a_digits v_a_kind v_a_from v_a_to) (p_1 : PI a_L a_K a_si a_iv a_inn) (p_2 : aS a_L a_K a_r_now) (p_3 : v_a_kind.toInt = 3) : CtI l yX2_acceptNumber (wG yX2_acceptNumber cX2_acceptNumber 4 (some .boolean)) rmX2_acceptNumber D (twT cs) K [.ref (q 7)] (tw cs q v_t_tapeSize v_t_textSize v_t_faultKind a_t_tape a_t_text a_g_beyond v_g_size a_g_steps a_h_beyond v_h_size a_h_steps a_r_scratch a_r_now v_r_takes v_r_negative v_r_namePlace v_r_faultKind v_r_faultPlace v_a_size v_a_limit v_a_digits v_a_kind v_a_from v_a_to v_o_size a_o_out v_b_size v_b_limit v_b_digits v_b_kind v_b_from v_b_to a_u_atom a_u_other a_u_hand v_u_marksMade v_u_came v_u_guesses v_u_right v_u_taken a_u_vars a_u_marks a_u_outcomes a_u_indexes v_s_things v_s_looked v_s_lookedTooOften v_s_arraysMade v_s_cellsMade a_s_classes a_s_starts a_s_lengths a_s_cells a_L a_K a_vc a_vd a_si a_sj a_iv a_inn a_ac) (fun r w1 => ∃ (v_r_faultKind' : Int32) (v_r_faultPlace' : Int32) (a_si' : Nat → Nat → Int32) (a_sj' : Nat → Int64), w1 = (tw cs q v_t_tapeSize v_t_textSize v_t_faultKind a_t_tape a_t_text a_g_beyond v_g_size a_g_steps a_h_beyond v_h_size a_h_steps a_r_scratch a_r_now v_r_takes v_r_negative v_r_namePlace v_r_faultKind' v_r_faultPlace' v_a_size v_a_limit v_a_digits v_a_kind v_a_from v_a_to v_o_size a_o_out v_b_size v_b_limit v_b_digits v_b_kind v_b_from v_b_to a_u_atom a_u_other a_u_hand v_u_marksMade v_u_came v_u_guesses v_u_right v_u_taken a_u_vars a_u_marks a_u_outcomes a_u_indexes v_s_things v_s_looked v_s_lookedTooOften v_s_arraysMade v_s_cellsMade a_s_classes a_s_starts a_s_lengths a_s_cells a_L a_K a_vc a_vd a_si' a_sj' a_iv a_inn a_ac) ∧ (PI a_L a_K a_si' a_iv a_inn) ∧ (r.toInt = 0 ∨ r.toInt = 1)) 0 0 := by
  intro sz
  refine Met.ofW (cc := cX2_acceptNumber) (maxL := 4) (ret := (some .boolean)) (by decide) rfl ?_
  intro p e s m args below meth c s₁ B hml hv
  obtain ⟨rfl, hsz, hP, hK, hD0, hE⟩ := hv
  have hx := B.exec
  have hb := B.bytes
  have hr := B.returns
  have hts := atoms_spec (ws := (wG yX2_acceptNumber cX2_acceptNumber 4 (some .boolean))) B.pre
  have hown : s.vm.findClass RX2 = some m.cls := findClass_of_methodNamed B.named
  have hlocks := B.notSynchronized
  subst hsz
  have hD := hD0.self (sz := s.heap.size)
  obtain ⟨A, hAe⟩ : ∃ A : Nat → Prop, A = va_A (tw cs q v_t_tapeSize v_t_textSize v_t_faultKind a_t_tape a_t_text a_g_beyond v_g_size a_g_steps a_h_beyond v_h_size a_h_steps a_r_scratch a_r_now v_r_takes v_r_negative v_r_namePlace v_r_faultKind v_r_faultPlace v_a_size v_a_limit v_a_digits v_a_kind v_a_from v_a_to v_o_size a_o_out v_b_size v_b_limit v_b_digits v_b_kind v_b_from v_b_to a_u_atom a_u_other a_u_hand v_u_marksMade v_u_came v_u_guesses v_u_right v_u_taken a_u_vars a_u_marks a_u_outcomes a_u_indexes v_s_things v_s_looked v_s_lookedTooOften v_s_arraysMade v_s_cellsMade a_s_classes a_s_starts a_s_lengths a_s_cells a_L a_K a_vc a_vd a_si a_sj a_iv a_inn a_ac) s.heap.size := ⟨_, rfl⟩
  rw [← hAe] at hD hE
  have hA : ∀ q : Nat, s.heap.size ≤ q → A q := fun q h => by rw [hAe]; exact Or.inr h
  have hS : va_S A s.heap s.heap [] := va_S.rf
  have hl := lv_entry ([.ref (q 7)]) (n := 4) (Nat.le_of_ble_eq_true rfl)
  rw [lg_entry_eq]
  generalize (lg_sl ([.ref (q 7)]) ++ List.replicate (4 - (lg_sl ([.ref (q 7)])).length) Slot.unset).toArray = ls at hl ⊢
  have hl : lv_has ls 4 [(0, .ref (q 7))] := hl
  refine wq (fun Q hQ => ?_)
  have hinX2 : ∀ w ∈ wsX20, w ∈ (wG yX2_acceptNumber cX2_acceptNumber 4 (some .boolean)) := fun w h => List.mem_cons_of_mem _ (inlX2 w h)
  have hinX6 : ∀ w ∈ wsX60, w ∈ (wG yX2_acceptNumber cX2_acceptNumber 4 (some .boolean)) := fun w h => List.mem_cons_of_mem _ (inlX6 w h)
  have kc0 : (1 : Int32).toInt = 1 := by decide
  have kc1 : (3 : Int32).toInt = 3 := by decide
  have k_3_11 := hts (.fieldLink RX2 9 "ArrayTrainer$Parser" "lexer" "LArrayTrainer$Lexer;") (List.mem_cons_of_mem _ (wr3 _ (List.mem_of_getElem? (i := 11) rfl)))
  have k_9_2 := hts (.fieldLink RX2 90 "ArrayTrainer$Parser" "negative" "Z") (List.mem_cons_of_mem _ (wr9 _ (List.mem_of_getElem? (i := 2) rfl)))
  have k_3_14 := hts (.fieldLink RX2 22 "ArrayTrainer$Parser" "now" "LArrayTrainer$Step;") (List.mem_cons_of_mem _ (wr3 _ (List.mem_of_getElem? (i := 14) rfl)))
  have k_20_22 := hts (.fieldLink RX2 258 "ArrayTrainer$Step" "atomClass" "I") (List.mem_cons_of_mem _ (wr20 _ (List.mem_of_getElem? (i := 22) rfl)))
  have k_20_23 := hts (.fieldLink RX2 265 "ArrayTrainer$Step" "atomNumber" "J") (List.mem_cons_of_mem _ (wr20 _ (List.mem_of_getElem? (i := 23) rfl)))
  obtain ⟨H, hH⟩ : ∃ H : Heap, H = s.heap := ⟨_, rfl⟩
  obtain ⟨locs, hlc⟩ : ∃ L : List Loc, L = [] := ⟨_, rfl⟩
  have hP : va_P D vwCl (tw cs q v_t_tapeSize v_t_textSize v_t_faultKind a_t_tape a_t_text a_g_beyond v_g_size a_g_steps a_h_beyond v_h_size a_h_steps a_r_scratch a_r_now v_r_takes v_r_negative v_r_namePlace v_r_faultKind v_r_faultPlace v_a_size v_a_limit v_a_digits v_a_kind v_a_from v_a_to v_o_size a_o_out v_b_size v_b_limit v_b_digits v_b_kind v_b_from v_b_to a_u_atom a_u_other a_u_hand v_u_marksMade v_u_came v_u_guesses v_u_right v_u_taken a_u_vars a_u_marks a_u_outcomes a_u_indexes v_s_things v_s_looked v_s_lookedTooOften v_s_arraysMade v_s_cellsMade a_s_classes a_s_starts a_s_lengths a_s_cells a_L a_K a_vc a_vd a_si a_sj a_iv a_inn a_ac) H := by rw [hH]; exact hP
  have hS : va_S A s.heap H locs := by rw [hH, hlc]; exact hS
  refine wHL hH hlc ?_
  refine lv_aload_n hx hb dX2_acceptNumber_0 rfl (lv_at hl 0 rfl) ?_
  refine va_get (D := D) (ci := 1) (v := .ref (q 8)) (C := RX2) (T := TX2) (N := 8) hx hb hts hinX2 hown hK hP 7 rfl rfl 0 (by decide) k_3_11 (fun _ h9 => h9) rfl dX2_acceptNumber_1 ?_
  refine call_i (As := []) (rest := []) ⟨hx, hb, hml, hown, hts⟩ (tX1_numberKind_qa (l := l)  (by first | assumption | omega | (intros; omega) | decide) (by first | assumption | omega | (intros; omega) | decide)) (cwV 0 hts (gV (wr20 _ (List.mem_of_getElem? (i := 8) rfl)) (wr20 _ (List.mem_of_getElem? (i := 9) rfl)) (wr20 _ (List.mem_of_getElem? (i := 10) rfl)) (wr2 _ (List.mem_of_getElem? (i := 2) rfl)) (wr20 _ (List.mem_of_getElem? (i := 11) rfl))) rfl rfl rfl (by decide +kernel) ⟨Nat.le_of_ble_eq_true rfl, Nat.le_of_ble_eq_true rfl⟩) (va_recv hK hP (ci := 0) (q0 := 8) rfl rfl) hK hP hD hE hS hA rfl hl.1 rfl (Nat.le_of_ble_eq_true rfl) dX2_acceptNumber_4 ⟨Nat.le_of_ble_eq_true rfl, Nat.le_of_ble_eq_true rfl⟩ (fun r4 w9 H locs hw4 hP hD hS => ?_)
  obtain ⟨rfl⟩ := hw4
  have b_r4 := iB r4
  refine lv_istore_n (lv' := [(1, .int r4), (0, .ref (q 7))]) hx hb dX2_acceptNumber_7 rfl hl (by decide) rfl (fun ls hl => ?_)
  refine lv_aload_n hx hb dX2_acceptNumber_8 rfl (lv_at hl 1 rfl) ?_
  refine va_get (D := D) (ci := 1) (v := .ref (q 8)) (C := RX2) (T := TX2) (N := 8) hx hb hts hinX2 hown hK hP 7 rfl rfl 0 (by decide) k_3_11 (fun _ h9 => h9) rfl dX2_acceptNumber_9 ?_
  refine call_j (As := []) (rest := []) ⟨hx, hb, hml, hown, hts⟩ (tX1_magnitude_qa (l := l)  (by first | assumption | omega | (intros; omega) | decide)) (cwV 0 hts (gV (wr20 _ (List.mem_of_getElem? (i := 3) rfl)) (wr20 _ (List.mem_of_getElem? (i := 4) rfl)) (wr20 _ (List.mem_of_getElem? (i := 5) rfl)) (wr2 _ (List.mem_of_getElem? (i := 2) rfl)) (wr20 _ (List.mem_of_getElem? (i := 6) rfl))) rfl rfl rfl (by decide +kernel) ⟨Nat.le_of_ble_eq_true rfl, Nat.le_of_ble_eq_true rfl⟩) (va_recv hK hP (ci := 0) (q0 := 8) rfl rfl) hK hP hD hE hS hA rfl hl.1 rfl (Nat.le_of_ble_eq_true rfl) dX2_acceptNumber_12 ⟨Nat.le_of_ble_eq_true rfl, Nat.le_of_ble_eq_true rfl⟩ (fun r12 w9 H locs hw12 hP hD hS => ?_)
  obtain ⟨rfl⟩ := hw12
  have b_r12 := jB r12
  refine lv_lstore_n (lv' := [(2, .long r12), (1, .int r4), (0, .ref (q 7))]) hx hb dX2_acceptNumber_15 rfl hl (by decide) rfl (fun ls hl => ?_)
  refine lv_iload_n hx hb dX2_acceptNumber_16 rfl (lv_at hl 1 rfl) ?_
  refine lv_lload_n hx hb dX2_acceptNumber_17 rfl (lv_at hl 0 rfl) ?_
  refine lv_aload_n hx hb dX2_acceptNumber_18 rfl (lv_at hl 2 rfl) ?_
  refine va_get (D := D) (ci := 1) (v := .int v_r_negative) (C := RX2) (T := TX2) (N := 8) hx hb hts hinX2 hown hK hP 7 rfl rfl 4 (by decide) k_9_2 (fun _ h9 => h9) rfl dX2_acceptNumber_19 ?_
  refine call_iSP (As := [.int r4, .long r12, .int v_r_negative]) (rest := []) ⟨hx, hb, hml, hown, hts⟩ (tX0_has (l := l) r4 r12 v_r_negative) (va_cwS 3 hts (gS (wr20 _ (List.mem_of_getElem? (i := 12) rfl)) (wr20 _ (List.mem_of_getElem? (i := 13) rfl)) (wr19 _ (List.mem_of_getElem? (i := 5) rfl)) (wr20 _ (List.mem_of_getElem? (i := 14) rfl))) rfl rfl rfl (by decide +kernel) ⟨Nat.le_of_ble_eq_true rfl, Nat.le_of_ble_eq_true rfl⟩) (hK.sub [] rfl) hP hD hE hS hA rfl hl.1 rfl (Nat.le_of_ble_eq_true rfl) dX2_acceptNumber_22 ⟨Nat.le_of_ble_eq_true rfl, Nat.le_of_ble_eq_true rfl⟩ (fun r22 w9 H locs hw22 hP hD hS => ?_)
  obtain ⟨rfl⟩ := hw22
  have b_r22 := iB r22
  refine m_if_ne (X := r22.toInt) (tgt := 34) hx hb dX2_acceptNumber_25 (by decide) rfl (fun c25 => ?_) (fun c25 => ?_)
  · skip
    refine lv_aload_n hx hb dX2_acceptNumber_34 rfl (lv_at hl 2 rfl) ?_
    have hf35 : aS a_L a_K a_r_now := by first | assumption
    refine va_get (D := D) (ci := 1) (v := .ref a_r_now) (C := RX2) (T := TX2) (N := 8) hx hb hts hinX2 hown hK hP 7 rfl rfl 2 (by decide) k_3_14 (fun _ h9 => h9) rfl dX2_acceptNumber_35 ?_
    refine lv_iload_n hx hb dX2_acceptNumber_38 rfl (lv_at hl 1 rfl) ?_
    obtain ⟨k39_, hk39_⟩ := pl_S (X := (twX cs q v_t_tapeSize v_t_textSize v_t_faultKind a_t_tape a_t_text a_g_beyond v_g_size a_g_steps a_h_beyond v_h_size a_h_steps a_r_scratch a_r_now v_r_takes v_r_negative v_r_namePlace v_r_faultKind v_r_faultPlace v_a_size v_a_limit v_a_digits v_a_kind v_a_from v_a_to v_o_size a_o_out v_b_size v_b_limit v_b_digits v_b_kind v_b_from v_b_to a_u_atom a_u_other a_u_hand v_u_marksMade v_u_came v_u_guesses v_u_right v_u_taken a_u_vars a_u_marks a_u_outcomes a_u_indexes v_s_things v_s_looked v_s_lookedTooOften v_s_arraysMade v_s_cellsMade a_s_classes a_s_starts a_s_lengths a_s_cells)) (cI := cs 0) (vc := a_vc) (vd := a_vd) (si := a_si) (sj := a_sj) (iv := a_iv) (inn := a_inn) (ac := a_ac) hf35
    have hDk := hD
    refine va_put (D := D) (ci := 5) (v := .int r4) (ty := .int) (C := RX6) (T := TX6) (N := 15) hx hb hts hinX6 tyX6 tyX6_ok nmX6 hown hK hP hD hS k39_ hk39_ rfl 13 (by decide) k_20_22 (fun _ h9 => h9) rfl (by decide +kernel) rfl rfl (Nat.le_of_ble_eq_true rfl) dX2_acceptNumber_39 (fun H locs hP hD hS => ?_)
    obtain ⟨a_si_39, e_a_si_39⟩ : ∃ g, g = up2 a_si a_r_now 11 r4 := ⟨_, rfl⟩
    have hP : va_P D vwCl (tw cs q v_t_tapeSize v_t_textSize v_t_faultKind a_t_tape a_t_text a_g_beyond v_g_size a_g_steps a_h_beyond v_h_size a_h_steps a_r_scratch a_r_now v_r_takes v_r_negative v_r_namePlace v_r_faultKind v_r_faultPlace v_a_size v_a_limit v_a_digits v_a_kind v_a_from v_a_to v_o_size a_o_out v_b_size v_b_limit v_b_digits v_b_kind v_b_from v_b_to a_u_atom a_u_other a_u_hand v_u_marksMade v_u_came v_u_guesses v_u_right v_u_taken a_u_vars a_u_marks a_u_outcomes a_u_indexes v_s_things v_s_looked v_s_lookedTooOften v_s_arraysMade v_s_cellsMade a_s_classes a_s_starts a_s_lengths a_s_cells a_L a_K a_vc a_vd a_si_39 a_sj a_iv a_inn a_ac) H := by rw [e_a_si_39]; exact vaP_eq (pu_atomClass_ hDk hf35 hk39_ _) hP
    have hD : va_D A (tw cs q v_t_tapeSize v_t_textSize v_t_faultKind a_t_tape a_t_text a_g_beyond v_g_size a_g_steps a_h_beyond v_h_size a_h_steps a_r_scratch a_r_now v_r_takes v_r_negative v_r_namePlace v_r_faultKind v_r_faultPlace v_a_size v_a_limit v_a_digits v_a_kind v_a_from v_a_to v_o_size a_o_out v_b_size v_b_limit v_b_digits v_b_kind v_b_from v_b_to a_u_atom a_u_other a_u_hand v_u_marksMade v_u_came v_u_guesses v_u_right v_u_taken a_u_vars a_u_marks a_u_outcomes a_u_indexes v_s_things v_s_looked v_s_lookedTooOften v_s_arraysMade v_s_cellsMade a_s_classes a_s_starts a_s_lengths a_s_cells a_L a_K a_vc a_vd a_si_39 a_sj a_iv a_inn a_ac) := by rw [e_a_si_39]; exact vaD_eq (pu_atomClass_ hDk hf35 hk39_ _) hD
    have hPI : PI a_L a_K a_si_39 a_iv a_inn := by exact PI.up (by assumption) e_a_si_39 (by decide)
    refine lv_aload_n hx hb dX2_acceptNumber_42 rfl (lv_at hl 2 rfl) ?_
    have hf43 : aS a_L a_K a_r_now := by first | assumption
    refine va_get (D := D) (ci := 1) (v := .ref a_r_now) (C := RX2) (T := TX2) (N := 8) hx hb hts hinX2 hown hK hP 7 rfl rfl 2 (by decide) k_3_14 (fun _ h9 => h9) rfl dX2_acceptNumber_43 ?_
    refine lv_aload_n hx hb dX2_acceptNumber_46 rfl (lv_at hl 2 rfl) ?_
    refine va_get (D := D) (ci := 1) (v := .int v_r_negative) (C := RX2) (T := TX2) (N := 8) hx hb hts hinX2 hown hK hP 7 rfl rfl 4 (by decide) k_9_2 (fun _ h9 => h9) rfl dX2_acceptNumber_47 ?_
    have J59 : ∀ (s1_59 : Int64) (H : Heap) (locs : List Loc) (ls : Array Slot), va_P D vwCl (tw cs q v_t_tapeSize v_t_textSize v_t_faultKind a_t_tape a_t_text a_g_beyond v_g_size a_g_steps a_h_beyond v_h_size a_h_steps a_r_scratch a_r_now v_r_takes v_r_negative v_r_namePlace v_r_faultKind v_r_faultPlace v_a_size v_a_limit v_a_digits v_a_kind v_a_from v_a_to v_o_size a_o_out v_b_size v_b_limit v_b_digits v_b_kind v_b_from v_b_to a_u_atom a_u_other a_u_hand v_u_marksMade v_u_came v_u_guesses v_u_right v_u_taken a_u_vars a_u_marks a_u_outcomes a_u_indexes v_s_things v_s_looked v_s_lookedTooOften v_s_arraysMade v_s_cellsMade a_s_classes a_s_starts a_s_lengths a_s_cells a_L a_K a_vc a_vd a_si_39 a_sj a_iv a_inn a_ac) H → va_D A (tw cs q v_t_tapeSize v_t_textSize v_t_faultKind a_t_tape a_t_text a_g_beyond v_g_size a_g_steps a_h_beyond v_h_size a_h_steps a_r_scratch a_r_now v_r_takes v_r_negative v_r_namePlace v_r_faultKind v_r_faultPlace v_a_size v_a_limit v_a_digits v_a_kind v_a_from v_a_to v_o_size a_o_out v_b_size v_b_limit v_b_digits v_b_kind v_b_from v_b_to a_u_atom a_u_other a_u_hand v_u_marksMade v_u_came v_u_guesses v_u_right v_u_taken a_u_vars a_u_marks a_u_outcomes a_u_indexes v_s_things v_s_looked v_s_lookedTooOften v_s_arraysMade v_s_cellsMade a_s_classes a_s_starts a_s_lengths a_s_cells a_L a_K a_vc a_vd a_si_39 a_sj a_iv a_inn a_ac) → va_S A s.heap H locs → lv_has ls 4 [(1, .int r4)] → W p l e (headSpec (wG yX2_acceptNumber cX2_acceptNumber 4 (some .boolean)) rmX2_acceptNumber).room s m ([.ref (q 7)] : List Value).toArray below meth c H locs 0 0 Q (F0 m 59 ls [.long s1_59, .ref a_r_now]) := by
      intro s1_59 H locs ls hP hD hS hl
      refine lv_iload_n hx hb dX2_acceptNumber_59 rfl (lv_at hl 0 rfl) ?_
      refine call_jSP (As := [.long s1_59, .int r4]) (rest := [.ref a_r_now]) ⟨hx, hb, hml, hown, hts⟩ (tX0_widened (l := l) s1_59 r4) (va_cwS 2 hts (gS (wr21 _ (List.mem_of_getElem? (i := 0) rfl)) (wr21 _ (List.mem_of_getElem? (i := 1) rfl)) (wr19 _ (List.mem_of_getElem? (i := 5) rfl)) (wr21 _ (List.mem_of_getElem? (i := 2) rfl))) rfl rfl rfl (by decide +kernel) ⟨Nat.le_of_ble_eq_true rfl, Nat.le_of_ble_eq_true rfl⟩) (hK.sub [] rfl) hP hD hE hS hA rfl hl.1 rfl (Nat.le_of_ble_eq_true rfl) dX2_acceptNumber_60 ⟨Nat.le_of_ble_eq_true rfl, Nat.le_of_ble_eq_true rfl⟩ (fun r60 w9 H locs hw60 hP hD hS => ?_)
      obtain ⟨rfl⟩ := hw60
      have b_r60 := jB r60
      obtain ⟨k63_, hk63_⟩ := pl_S (X := (twX cs q v_t_tapeSize v_t_textSize v_t_faultKind a_t_tape a_t_text a_g_beyond v_g_size a_g_steps a_h_beyond v_h_size a_h_steps a_r_scratch a_r_now v_r_takes v_r_negative v_r_namePlace v_r_faultKind v_r_faultPlace v_a_size v_a_limit v_a_digits v_a_kind v_a_from v_a_to v_o_size a_o_out v_b_size v_b_limit v_b_digits v_b_kind v_b_from v_b_to a_u_atom a_u_other a_u_hand v_u_marksMade v_u_came v_u_guesses v_u_right v_u_taken a_u_vars a_u_marks a_u_outcomes a_u_indexes v_s_things v_s_looked v_s_lookedTooOften v_s_arraysMade v_s_cellsMade a_s_classes a_s_starts a_s_lengths a_s_cells)) (cI := cs 0) (vc := a_vc) (vd := a_vd) (si := a_si_39) (sj := a_sj) (iv := a_iv) (inn := a_inn) (ac := a_ac) hf43
      have hDk := hD
      refine va_put (D := D) (ci := 5) (v := .long r60) (ty := .long) (C := RX6) (T := TX6) (N := 15) hx hb hts hinX6 tyX6 tyX6_ok nmX6 hown hK hP hD hS k63_ hk63_ rfl 14 (by decide) k_20_23 (fun _ h9 => h9) rfl (by decide +kernel) rfl rfl (Nat.le_of_ble_eq_true rfl) dX2_acceptNumber_63 (fun H locs hP hD hS => ?_)
      obtain ⟨a_sj_63, e_a_sj_63⟩ : ∃ g, g = va_up a_sj a_r_now r60 := ⟨_, rfl⟩
      have hP : va_P D vwCl (tw cs q v_t_tapeSize v_t_textSize v_t_faultKind a_t_tape a_t_text a_g_beyond v_g_size a_g_steps a_h_beyond v_h_size a_h_steps a_r_scratch a_r_now v_r_takes v_r_negative v_r_namePlace v_r_faultKind v_r_faultPlace v_a_size v_a_limit v_a_digits v_a_kind v_a_from v_a_to v_o_size a_o_out v_b_size v_b_limit v_b_digits v_b_kind v_b_from v_b_to a_u_atom a_u_other a_u_hand v_u_marksMade v_u_came v_u_guesses v_u_right v_u_taken a_u_vars a_u_marks a_u_outcomes a_u_indexes v_s_things v_s_looked v_s_lookedTooOften v_s_arraysMade v_s_cellsMade a_s_classes a_s_starts a_s_lengths a_s_cells a_L a_K a_vc a_vd a_si_39 a_sj_63 a_iv a_inn a_ac) H := by rw [e_a_sj_63]; exact vaP_eq (pu_atomNumber_ hDk hf43 hk63_ _) hP
      have hD : va_D A (tw cs q v_t_tapeSize v_t_textSize v_t_faultKind a_t_tape a_t_text a_g_beyond v_g_size a_g_steps a_h_beyond v_h_size a_h_steps a_r_scratch a_r_now v_r_takes v_r_negative v_r_namePlace v_r_faultKind v_r_faultPlace v_a_size v_a_limit v_a_digits v_a_kind v_a_from v_a_to v_o_size a_o_out v_b_size v_b_limit v_b_digits v_b_kind v_b_from v_b_to a_u_atom a_u_other a_u_hand v_u_marksMade v_u_came v_u_guesses v_u_right v_u_taken a_u_vars a_u_marks a_u_outcomes a_u_indexes v_s_things v_s_looked v_s_lookedTooOften v_s_arraysMade v_s_cellsMade a_s_classes a_s_starts a_s_lengths a_s_cells a_L a_K a_vc a_vd a_si_39 a_sj_63 a_iv a_inn a_ac) := by rw [e_a_sj_63]; exact vaD_eq (pu_atomNumber_ hDk hf43 hk63_ _) hD
      refine lv_iconst (v := 1) hx hb dX2_acceptNumber_66 (by decide) ?_
      subst hAe
      rw [hQ]
      exact W.zret (v := 1) hx hb hr (by decide) (fun t ht hW => ⟨⟨1, _, rfl, ⟨v_r_faultKind, v_r_faultPlace, a_si_39, a_sj_63, rfl, by first | assumption | omega | (intros; omega) | decide, by first | assumption | omega | (intros; omega) | decide⟩, by rw [ht]; exact hP, va_K.moved hW.alike hK, hD⟩, hS.F ht⟩) hS.2.2 dX2_acceptNumber_67
    refine m_if_eq (X := v_r_negative.toInt) (tgt := 58) hx hb dX2_acceptNumber_50 (by decide) rfl (fun c50 => ?_) (fun c50 => ?_)
    · skip
      refine lv_lload_n hx hb dX2_acceptNumber_58 rfl (lv_at hl 0 rfl) ?_
      exact J59 r12 H locs ls hP hD hS (lv_sub hl [1] rfl)
    · skip
      refine lv_lload_n hx hb dX2_acceptNumber_53 rfl (lv_at hl 0 rfl) ?_
      refine m_lneg (X := r12.toInt) hx hb dX2_acceptNumber_54 rfl (fun x54 e_x54 g9 => ?_)
      obtain ⟨k_x54, g_x54⟩ := g9
      have b_x54 := jB x54
      try (have q_x54 : x54.toInt = -r12.toInt := (by omega); clear g_x54 k_x54)
      refine lv_goto (tgt := 59) hx hb dX2_acceptNumber_55 (by decide) ?_
      exact J59 x54 H locs ls hP hD hS (lv_sub hl [1] rfl)
  · skip
    refine lv_aload_n hx hb dX2_acceptNumber_28 rfl (lv_at hl 2 rfl) ?_
    refine lv_iconst (v := 3) hx hb dX2_acceptNumber_29 (by decide) ?_
    refine call_i (As := [.int 3]) (rest := []) ⟨hx, hb, hml, hown, hts⟩ (tX2_refuse (l := l) (3 : Int32)) (cwV 1 hts (gV (wr15 _ (List.mem_of_getElem? (i := 20) rfl)) (wr15 _ (List.mem_of_getElem? (i := 21) rfl)) (wr15 _ (List.mem_of_getElem? (i := 22) rfl)) (wr1 _ (List.mem_of_getElem? (i := 23) rfl)) (wr15 _ (List.mem_of_getElem? (i := 23) rfl))) rfl rfl rfl (by decide +kernel) ⟨Nat.le_of_ble_eq_true rfl, Nat.le_of_ble_eq_true rfl⟩) (va_recv hK hP (ci := 1) (q0 := 7) rfl rfl) hK hP hD hE hS hA rfl hl.1 rfl (Nat.le_of_ble_eq_true rfl) dX2_acceptNumber_30 ⟨Nat.le_of_ble_eq_true rfl, Nat.le_of_ble_eq_true rfl⟩ (fun r30 w9 H locs hw30 hP hD hS => ?_)
    obtain ⟨v_r_faultKind_30, v_r_faultPlace_30, rfl, hw30_0⟩ := hw30
    have b_v_r_faultKind_30 := iB v_r_faultKind_30
    have b_v_r_faultPlace_30 := iB v_r_faultPlace_30
    have b_r30 := iB r30
    subst hAe
    rw [hQ]
    exact W.zret (v := r30) hx hb hr (nbool (by first | omega | decide)) (fun t ht hW => ⟨⟨r30, _, rfl, ⟨v_r_faultKind_30, v_r_faultPlace_30, a_si, a_sj, rfl, by first | assumption | omega | (intros; omega) | decide, by first | assumption | omega | (intros; omega) | decide⟩, by rw [ht]; exact hP, va_K.moved hW.alike hK, hD⟩, hS.F ht⟩) hS.2.2 dX2_acceptNumber_33

def rmX2_acceptOtherAtom : Room := { frames := 140, cells := 0, slots := 0, locals := 2800 }
set_option maxHeartbeats 4000000 in
set_option maxRecDepth 100000 in
theorem tX2_acceptOtherAtom {l : Launch} {D : va_G} {K : Nat → Nat → Nat} {cs : Nat → ClassId} {q : Nat → Nat} {v_t_tapeSize v_t_textSize v_t_faultKind v_g_size v_h_size v_r_takes v_r_negative v_r_namePlace v_r_faultKind v_r_faultPlace v_a_size v_a_limit v_a_digits v_a_kind v_a_from v_a_to v_o_size v_b_size v_b_limit v_b_digits v_b_kind v_b_from v_b_to v_u_marksMade v_u_came v_u_guesses v_u_right v_u_taken v_s_things v_s_looked v_s_lookedTooOften v_s_arraysMade v_s_cellsMade : Int32} {a_t_tape a_t_text a_o_out a_u_outcomes a_u_indexes a_s_classes a_s_starts a_s_lengths a_vc : Nat → Int32} {a_g_beyond a_h_beyond a_r_scratch a_r_now a_u_atom a_u_other a_u_hand : Nat} {a_g_steps a_h_steps a_u_vars a_u_marks : Nat → Option Nat} {a_s_cells a_vd a_sj : Nat → Int64} {a_L : List Nat} {a_K a_iv a_inn : Nat → Nat} {a_si a_ac : Nat → Nat → Int32} (p_0 : LI 3100 v_a_size v_a_limit v_a_digits v_a_kind v_a_from v_a_to) (p_1 : PI a_L a_K a_si a_iv a_inn) (p_2 : aS a_L a_K a_r_now) : CtI l yX2_acceptOtherAtom (wG yX2_acceptOtherAtom cX2_acceptOtherAtom 4 (some .boolean)) rmX2_acceptOtherAtom D (twT cs) K [.ref (q 7)] (tw cs q v_t_tapeSize v_t_textSize v_t_faultKind a_t_tape a_t_text a_g_beyond v_g_size a_g_steps a_h_beyond v_h_size a_h_steps a_r_scratch a_r_now v_r_takes v_r_negative v_r_namePlace v_r_faultKind v_r_faultPlace v_a_size v_a_limit v_a_digits v_a_kind v_a_from v_a_to v_o_size a_o_out v_b_size v_b_limit v_b_digits v_b_kind v_b_from v_b_to a_u_atom a_u_other a_u_hand v_u_marksMade v_u_came v_u_guesses v_u_right v_u_taken a_u_vars a_u_marks a_u_outcomes a_u_indexes v_s_things v_s_looked v_s_lookedTooOften v_s_arraysMade v_s_cellsMade a_s_classes a_s_starts a_s_lengths a_s_cells a_L a_K a_vc a_vd a_si a_sj a_iv a_inn a_ac) (fun r w1 => ∃ (v_r_faultKind' : Int32) (v_r_faultPlace' : Int32) (a_si' : Nat → Nat → Int32) (a_sj' : Nat → Int64), w1 = (tw cs q v_t_tapeSize v_t_textSize v_t_faultKind a_t_tape a_t_text a_g_beyond v_g_size a_g_steps a_h_beyond v_h_size a_h_steps a_r_scratch a_r_now v_r_takes v_r_negative v_r_namePlace v_r_faultKind' v_r_faultPlace' v_a_size v_a_limit v_a_digits v_a_kind v_a_from v_a_to v_o_size a_o_out v_b_size v_b_limit v_b_digits v_b_kind v_b_from v_b_to a_u_atom a_u_other a_u_hand v_u_marksMade v_u_came v_u_guesses v_u_right v_u_taken a_u_vars a_u_marks a_u_outcomes a_u_indexes v_s_things v_s_looked v_s_lookedTooOften v_s_arraysMade v_s_cellsMade a_s_classes a_s_starts a_s_lengths a_s_cells a_L a_K a_vc a_vd a_si' a_sj' a_iv a_inn a_ac) ∧ (PI a_L a_K a_si' a_iv a_inn) ∧ (r.toInt = 0 ∨ r.toInt = 1)) 0 0 := by
  intro sz
  refine Met.ofW (cc := cX2_acceptOtherAtom) (maxL := 4) (ret := (some .boolean)) (by decide) rfl ?_
  intro p e s m args below meth c s₁ B hml hv
  obtain ⟨rfl, hsz, hP, hK, hD0, hE⟩ := hv
  have hx := B.exec
  have hb := B.bytes
  have hr := B.returns
  have hts := atoms_spec (ws := (wG yX2_acceptOtherAtom cX2_acceptOtherAtom 4 (some .boolean))) B.pre
  have hown : s.vm.findClass RX2 = some m.cls := findClass_of_methodNamed B.named
  have hlocks := B.notSynchronized
  subst hsz
  have hD := hD0.self (sz := s.heap.size)
  obtain ⟨A, hAe⟩ : ∃ A : Nat → Prop, A = va_A (tw cs q v_t_tapeSize v_t_textSize v_t_faultKind a_t_tape a_t_text a_g_beyond v_g_size a_g_steps a_h_beyond v_h_size a_h_steps a_r_scratch a_r_now v_r_takes v_r_negative v_r_namePlace v_r_faultKind v_r_faultPlace v_a_size v_a_limit v_a_digits v_a_kind v_a_from v_a_to v_o_size a_o_out v_b_size v_b_limit v_b_digits v_b_kind v_b_from v_b_to a_u_atom a_u_other a_u_hand v_u_marksMade v_u_came v_u_guesses v_u_right v_u_taken a_u_vars a_u_marks a_u_outcomes a_u_indexes v_s_things v_s_looked v_s_lookedTooOften v_s_arraysMade v_s_cellsMade a_s_classes a_s_starts a_s_lengths a_s_cells a_L a_K a_vc a_vd a_si a_sj a_iv a_inn a_ac) s.heap.size := ⟨_, rfl⟩
  rw [← hAe] at hD hE
  have hA : ∀ q : Nat, s.heap.size ≤ q → A q := fun q h => by rw [hAe]; exact Or.inr h
  have hS : va_S A s.heap s.heap [] := va_S.rf
  have hl := lv_entry ([.ref (q 7)]) (n := 4) (Nat.le_of_ble_eq_true rfl)
  rw [lg_entry_eq]
  generalize (lg_sl ([.ref (q 7)]) ++ List.replicate (4 - (lg_sl ([.ref (q 7)])).length) Slot.unset).toArray = ls at hl ⊢
  have hl : lv_has ls 4 [(0, .ref (q 7))] := hl
  refine wq (fun Q hQ => ?_)
  have hinX2 : ∀ w ∈ wsX20, w ∈ (wG yX2_acceptOtherAtom cX2_acceptOtherAtom 4 (some .boolean)) := fun w h => List.mem_cons_of_mem _ (inlX2 w h)
  have hinX6 : ∀ w ∈ wsX60, w ∈ (wG yX2_acceptOtherAtom cX2_acceptOtherAtom 4 (some .boolean)) := fun w h => List.mem_cons_of_mem _ (inlX6 w h)
  have kc0 : (-1 : Int32).toInt = -1 := by decide
  have kc1 : (0 : Int32).toInt = 0 := by decide
  have kc2 : (1 : Int32).toInt = 1 := by decide
  have kc3 : (2 : Int32).toInt = 2 := by decide
  have kc4 : (8 : Int32).toInt = 8 := by decide
  have kc5 : (15 : Int32).toInt = 15 := by decide
  have k_9_2 := hts (.fieldLink RX2 90 "ArrayTrainer$Parser" "negative" "Z") (List.mem_cons_of_mem _ (wr9 _ (List.mem_of_getElem? (i := 2) rfl)))
  have k_3_11 := hts (.fieldLink RX2 9 "ArrayTrainer$Parser" "lexer" "LArrayTrainer$Lexer;") (List.mem_cons_of_mem _ (wr3 _ (List.mem_of_getElem? (i := 11) rfl)))
  have k_3_14 := hts (.fieldLink RX2 22 "ArrayTrainer$Parser" "now" "LArrayTrainer$Step;") (List.mem_cons_of_mem _ (wr3 _ (List.mem_of_getElem? (i := 14) rfl)))
  have k_18_2 := hts (.fieldLink RX2 152 "ArrayTrainer$Step" "atomVar" "I") (List.mem_cons_of_mem _ (wr18 _ (List.mem_of_getElem? (i := 2) rfl)))
  have k_20_22 := hts (.fieldLink RX2 258 "ArrayTrainer$Step" "atomClass" "I") (List.mem_cons_of_mem _ (wr20 _ (List.mem_of_getElem? (i := 22) rfl)))
  have k_20_23 := hts (.fieldLink RX2 265 "ArrayTrainer$Step" "atomNumber" "J") (List.mem_cons_of_mem _ (wr20 _ (List.mem_of_getElem? (i := 23) rfl)))
  obtain ⟨H, hH⟩ : ∃ H : Heap, H = s.heap := ⟨_, rfl⟩
  obtain ⟨locs, hlc⟩ : ∃ L : List Loc, L = [] := ⟨_, rfl⟩
  have hP : va_P D vwCl (tw cs q v_t_tapeSize v_t_textSize v_t_faultKind a_t_tape a_t_text a_g_beyond v_g_size a_g_steps a_h_beyond v_h_size a_h_steps a_r_scratch a_r_now v_r_takes v_r_negative v_r_namePlace v_r_faultKind v_r_faultPlace v_a_size v_a_limit v_a_digits v_a_kind v_a_from v_a_to v_o_size a_o_out v_b_size v_b_limit v_b_digits v_b_kind v_b_from v_b_to a_u_atom a_u_other a_u_hand v_u_marksMade v_u_came v_u_guesses v_u_right v_u_taken a_u_vars a_u_marks a_u_outcomes a_u_indexes v_s_things v_s_looked v_s_lookedTooOften v_s_arraysMade v_s_cellsMade a_s_classes a_s_starts a_s_lengths a_s_cells a_L a_K a_vc a_vd a_si a_sj a_iv a_inn a_ac) H := by rw [hH]; exact hP
  have hS : va_S A s.heap H locs := by rw [hH, hlc]; exact hS
  refine wHL hH hlc ?_
  refine lv_aload_n hx hb dX2_acceptOtherAtom_0 rfl (lv_at hl 0 rfl) ?_
  refine va_get (D := D) (ci := 1) (v := .int v_r_negative) (C := RX2) (T := TX2) (N := 8) hx hb hts hinX2 hown hK hP 7 rfl rfl 4 (by decide) k_9_2 (fun _ h9 => h9) rfl dX2_acceptOtherAtom_1 ?_
  refine m_if_eq (X := v_r_negative.toInt) (tgt := 13) hx hb dX2_acceptOtherAtom_4 (by decide) rfl (fun c4 => ?_) (fun c4 => ?_)
  · skip
    refine lv_aload_n hx hb dX2_acceptOtherAtom_13 rfl (lv_at hl 0 rfl) ?_
    refine va_get (D := D) (ci := 1) (v := .ref (q 8)) (C := RX2) (T := TX2) (N := 8) hx hb hts hinX2 hown hK hP 7 rfl rfl 0 (by decide) k_3_11 (fun _ h9 => h9) rfl dX2_acceptOtherAtom_14 ?_
    refine va_ldcS hx hb hown (ld_22 hE) dX2_acceptOtherAtom_17 ?_
    refine call_i (As := [.ref (K 0 22)]) (rest := []) ⟨hx, hb, hml, hown, hts⟩ (tX1_wordIn_qa (l := l) 22 so_22 (by first | assumption | omega | (intros; omega) | decide)) (cwV 1 hts (gV (wr15 _ (List.mem_of_getElem? (i := 16) rfl)) (wr14 _ (List.mem_of_getElem? (i := 12) rfl)) (wr14 _ (List.mem_of_getElem? (i := 13) rfl)) (wr2 _ (List.mem_of_getElem? (i := 2) rfl)) (wr14 _ (List.mem_of_getElem? (i := 14) rfl))) rfl rfl rfl (by decide +kernel) ⟨Nat.le_of_ble_eq_true rfl, Nat.le_of_ble_eq_true rfl⟩) (va_recv hK hP (ci := 0) (q0 := 8) rfl rfl) hK hP hD hE hS hA rfl hl.1 rfl (Nat.le_of_ble_eq_true rfl) dX2_acceptOtherAtom_19 ⟨Nat.le_of_ble_eq_true rfl, Nat.le_of_ble_eq_true rfl⟩ (fun r19 w9 H locs hw19 hP hD hS => ?_)
    obtain ⟨rfl, hw19_0, hw19_1⟩ := hw19
    have b_r19 := iB r19
    refine lv_istore_n (lv' := [(1, .int r19), (0, .ref (q 7))]) hx hb dX2_acceptOtherAtom_22 rfl hl (by decide) rfl (fun ls hl => ?_)
    refine lv_iload_n hx hb dX2_acceptOtherAtom_23 rfl (lv_at hl 0 rfl) ?_
    refine lv_bipush (v := 8) hx hb dX2_acceptOtherAtom_24 (by decide) ?_
    have J40 : ∀ (s0_40 : Int32) (H : Heap) (locs : List Loc) (ls : Array Slot), (s0_40.toInt = 0 ∨ s0_40.toInt = 1) → va_P D vwCl (tw cs q v_t_tapeSize v_t_textSize v_t_faultKind a_t_tape a_t_text a_g_beyond v_g_size a_g_steps a_h_beyond v_h_size a_h_steps a_r_scratch a_r_now v_r_takes v_r_negative v_r_namePlace v_r_faultKind v_r_faultPlace v_a_size v_a_limit v_a_digits v_a_kind v_a_from v_a_to v_o_size a_o_out v_b_size v_b_limit v_b_digits v_b_kind v_b_from v_b_to a_u_atom a_u_other a_u_hand v_u_marksMade v_u_came v_u_guesses v_u_right v_u_taken a_u_vars a_u_marks a_u_outcomes a_u_indexes v_s_things v_s_looked v_s_lookedTooOften v_s_arraysMade v_s_cellsMade a_s_classes a_s_starts a_s_lengths a_s_cells a_L a_K a_vc a_vd a_si a_sj a_iv a_inn a_ac) H → va_D A (tw cs q v_t_tapeSize v_t_textSize v_t_faultKind a_t_tape a_t_text a_g_beyond v_g_size a_g_steps a_h_beyond v_h_size a_h_steps a_r_scratch a_r_now v_r_takes v_r_negative v_r_namePlace v_r_faultKind v_r_faultPlace v_a_size v_a_limit v_a_digits v_a_kind v_a_from v_a_to v_o_size a_o_out v_b_size v_b_limit v_b_digits v_b_kind v_b_from v_b_to a_u_atom a_u_other a_u_hand v_u_marksMade v_u_came v_u_guesses v_u_right v_u_taken a_u_vars a_u_marks a_u_outcomes a_u_indexes v_s_things v_s_looked v_s_lookedTooOften v_s_arraysMade v_s_cellsMade a_s_classes a_s_starts a_s_lengths a_s_cells a_L a_K a_vc a_vd a_si a_sj a_iv a_inn a_ac) → va_S A s.heap H locs → lv_has ls 4 [(0, .ref (q 7)), (1, .int r19)] → W p l e (headSpec (wG yX2_acceptOtherAtom cX2_acceptOtherAtom 4 (some .boolean)) rmX2_acceptOtherAtom).room s m ([.ref (q 7)] : List Value).toArray below meth c H locs 0 0 Q (F0 m 40 ls [.int s0_40]) := by
      intro s0_40 H locs ls f40_0 hP hD hS hl
      refine lv_istore_n (lv' := [(2, .int s0_40), (0, .ref (q 7)), (1, .int r19)]) hx hb dX2_acceptOtherAtom_40 rfl hl (by decide) rfl (fun ls hl => ?_)
      refine lv_aload_n hx hb dX2_acceptOtherAtom_41 rfl (lv_at hl 1 rfl) ?_
      refine va_get (D := D) (ci := 1) (v := .ref (q 8)) (C := RX2) (T := TX2) (N := 8) hx hb hts hinX2 hown hK hP 7 rfl rfl 0 (by decide) k_3_11 (fun _ h9 => h9) rfl dX2_acceptOtherAtom_42 ?_
      refine m_ldcSw hx hb hown (ld_23 hE) dX2_acceptOtherAtom_45 ?_
      refine call_i (As := [.ref (K 0 23)]) (rest := []) ⟨hx, hb, hml, hown, hts⟩ (tX1_wordIn_qa (l := l) 23 so_23 (by first | assumption | omega | (intros; omega) | decide)) (cwV 1 hts (gV (wr15 _ (List.mem_of_getElem? (i := 16) rfl)) (wr14 _ (List.mem_of_getElem? (i := 12) rfl)) (wr14 _ (List.mem_of_getElem? (i := 13) rfl)) (wr2 _ (List.mem_of_getElem? (i := 2) rfl)) (wr14 _ (List.mem_of_getElem? (i := 14) rfl))) rfl rfl rfl (by decide +kernel) ⟨Nat.le_of_ble_eq_true rfl, Nat.le_of_ble_eq_true rfl⟩) (va_recv hK hP (ci := 0) (q0 := 8) rfl rfl) hK hP hD hE hS hA rfl hl.1 rfl (Nat.le_of_ble_eq_true rfl) dX2_acceptOtherAtom_48 ⟨Nat.le_of_ble_eq_true rfl, Nat.le_of_ble_eq_true rfl⟩ (fun r48 w9 H locs hw48 hP hD hS => ?_)
      obtain ⟨rfl, hw48_0, hw48_1⟩ := hw48
      have b_r48 := iB r48
      refine lv_istore_n (lv' := [(3, .int r48), (2, .int s0_40), (0, .ref (q 7)), (1, .int r19)]) hx hb dX2_acceptOtherAtom_51 rfl hl (by decide) rfl (fun ls hl => ?_)
      refine lv_aload_n hx hb dX2_acceptOtherAtom_52 rfl (lv_at hl 2 rfl) ?_
      have hf53 : aS a_L a_K a_r_now := by first | assumption
      refine va_get (D := D) (ci := 1) (v := .ref a_r_now) (C := RX2) (T := TX2) (N := 8) hx hb hts hinX2 hown hK hP 7 rfl rfl 2 (by decide) k_3_14 (fun _ h9 => h9) rfl dX2_acceptOtherAtom_53 ?_
      refine lv_aload_n hx hb dX2_acceptOtherAtom_56 rfl (lv_at hl 2 rfl) ?_
      refine va_get (D := D) (ci := 1) (v := .ref (q 8)) (C := RX2) (T := TX2) (N := 8) hx hb hts hinX2 hown hK hP 7 rfl rfl 0 (by decide) k_3_11 (fun _ h9 => h9) rfl dX2_acceptOtherAtom_57 ?_
      refine call_i (As := []) (rest := [.ref a_r_now]) ⟨hx, hb, hml, hown, hts⟩ (tX1_variable_qa (l := l)  (by first | assumption | omega | (intros; omega) | decide)) (cwV 0 hts (gV (wr14 _ (List.mem_of_getElem? (i := 3) rfl)) (wr14 _ (List.mem_of_getElem? (i := 4) rfl)) (wr14 _ (List.mem_of_getElem? (i := 5) rfl)) (wr2 _ (List.mem_of_getElem? (i := 2) rfl)) (wr14 _ (List.mem_of_getElem? (i := 6) rfl))) rfl rfl rfl (by decide +kernel) ⟨Nat.le_of_ble_eq_true rfl, Nat.le_of_ble_eq_true rfl⟩) (va_recv hK hP (ci := 0) (q0 := 8) rfl rfl) hK hP hD hE hS hA rfl hl.1 rfl (Nat.le_of_ble_eq_true rfl) dX2_acceptOtherAtom_60 ⟨Nat.le_of_ble_eq_true rfl, Nat.le_of_ble_eq_true rfl⟩ (fun r60 w9 H locs hw60 hP hD hS => ?_)
      obtain ⟨rfl⟩ := hw60
      have b_r60 := iB r60
      obtain ⟨k63_, hk63_⟩ := pl_S (X := (twX cs q v_t_tapeSize v_t_textSize v_t_faultKind a_t_tape a_t_text a_g_beyond v_g_size a_g_steps a_h_beyond v_h_size a_h_steps a_r_scratch a_r_now v_r_takes v_r_negative v_r_namePlace v_r_faultKind v_r_faultPlace v_a_size v_a_limit v_a_digits v_a_kind v_a_from v_a_to v_o_size a_o_out v_b_size v_b_limit v_b_digits v_b_kind v_b_from v_b_to a_u_atom a_u_other a_u_hand v_u_marksMade v_u_came v_u_guesses v_u_right v_u_taken a_u_vars a_u_marks a_u_outcomes a_u_indexes v_s_things v_s_looked v_s_lookedTooOften v_s_arraysMade v_s_cellsMade a_s_classes a_s_starts a_s_lengths a_s_cells)) (cI := cs 0) (vc := a_vc) (vd := a_vd) (si := a_si) (sj := a_sj) (iv := a_iv) (inn := a_inn) (ac := a_ac) hf53
      have hDk := hD
      refine va_put (D := D) (ci := 5) (v := .int r60) (ty := .int) (C := RX6) (T := TX6) (N := 15) hx hb hts hinX6 tyX6 tyX6_ok nmX6 hown hK hP hD hS k63_ hk63_ rfl 12 (by decide) k_18_2 (fun _ h9 => h9) rfl (by decide +kernel) rfl rfl (Nat.le_of_ble_eq_true rfl) dX2_acceptOtherAtom_63 (fun H locs hP hD hS => ?_)
      obtain ⟨a_si_63, e_a_si_63⟩ : ∃ g, g = up2 a_si a_r_now 10 r60 := ⟨_, rfl⟩
      have hP : va_P D vwCl (tw cs q v_t_tapeSize v_t_textSize v_t_faultKind a_t_tape a_t_text a_g_beyond v_g_size a_g_steps a_h_beyond v_h_size a_h_steps a_r_scratch a_r_now v_r_takes v_r_negative v_r_namePlace v_r_faultKind v_r_faultPlace v_a_size v_a_limit v_a_digits v_a_kind v_a_from v_a_to v_o_size a_o_out v_b_size v_b_limit v_b_digits v_b_kind v_b_from v_b_to a_u_atom a_u_other a_u_hand v_u_marksMade v_u_came v_u_guesses v_u_right v_u_taken a_u_vars a_u_marks a_u_outcomes a_u_indexes v_s_things v_s_looked v_s_lookedTooOften v_s_arraysMade v_s_cellsMade a_s_classes a_s_starts a_s_lengths a_s_cells a_L a_K a_vc a_vd a_si_63 a_sj a_iv a_inn a_ac) H := by rw [e_a_si_63]; exact vaP_eq (pu_atomVar_ hDk hf53 hk63_ _) hP
      have hD : va_D A (tw cs q v_t_tapeSize v_t_textSize v_t_faultKind a_t_tape a_t_text a_g_beyond v_g_size a_g_steps a_h_beyond v_h_size a_h_steps a_r_scratch a_r_now v_r_takes v_r_negative v_r_namePlace v_r_faultKind v_r_faultPlace v_a_size v_a_limit v_a_digits v_a_kind v_a_from v_a_to v_o_size a_o_out v_b_size v_b_limit v_b_digits v_b_kind v_b_from v_b_to a_u_atom a_u_other a_u_hand v_u_marksMade v_u_came v_u_guesses v_u_right v_u_taken a_u_vars a_u_marks a_u_outcomes a_u_indexes v_s_things v_s_looked v_s_lookedTooOften v_s_arraysMade v_s_cellsMade a_s_classes a_s_starts a_s_lengths a_s_cells a_L a_K a_vc a_vd a_si_63 a_sj a_iv a_inn a_ac) := by rw [e_a_si_63]; exact vaD_eq (pu_atomVar_ hDk hf53 hk63_ _) hD
      have hPI : PI a_L a_K a_si_63 a_iv a_inn := by exact PI.up (by assumption) e_a_si_63 (by decide)
      refine lv_iload_n hx hb dX2_acceptOtherAtom_66 rfl (lv_at hl 1 rfl) ?_
      have J107 : ∀ (a_si_107 : Nat → Nat → Int32) (a_sj_107 : Nat → Int64) (H : Heap) (locs : List Loc) (ls : Array Slot), (PI a_L a_K a_si_107 a_iv a_inn) → va_P D vwCl (tw cs q v_t_tapeSize v_t_textSize v_t_faultKind a_t_tape a_t_text a_g_beyond v_g_size a_g_steps a_h_beyond v_h_size a_h_steps a_r_scratch a_r_now v_r_takes v_r_negative v_r_namePlace v_r_faultKind v_r_faultPlace v_a_size v_a_limit v_a_digits v_a_kind v_a_from v_a_to v_o_size a_o_out v_b_size v_b_limit v_b_digits v_b_kind v_b_from v_b_to a_u_atom a_u_other a_u_hand v_u_marksMade v_u_came v_u_guesses v_u_right v_u_taken a_u_vars a_u_marks a_u_outcomes a_u_indexes v_s_things v_s_looked v_s_lookedTooOften v_s_arraysMade v_s_cellsMade a_s_classes a_s_starts a_s_lengths a_s_cells a_L a_K a_vc a_vd a_si_107 a_sj_107 a_iv a_inn a_ac) H → va_D A (tw cs q v_t_tapeSize v_t_textSize v_t_faultKind a_t_tape a_t_text a_g_beyond v_g_size a_g_steps a_h_beyond v_h_size a_h_steps a_r_scratch a_r_now v_r_takes v_r_negative v_r_namePlace v_r_faultKind v_r_faultPlace v_a_size v_a_limit v_a_digits v_a_kind v_a_from v_a_to v_o_size a_o_out v_b_size v_b_limit v_b_digits v_b_kind v_b_from v_b_to a_u_atom a_u_other a_u_hand v_u_marksMade v_u_came v_u_guesses v_u_right v_u_taken a_u_vars a_u_marks a_u_outcomes a_u_indexes v_s_things v_s_looked v_s_lookedTooOften v_s_arraysMade v_s_cellsMade a_s_classes a_s_starts a_s_lengths a_s_cells a_L a_K a_vc a_vd a_si_107 a_sj_107 a_iv a_inn a_ac) → va_S A s.heap H locs → lv_has ls 4 [(0, .ref (q 7)), (2, .int s0_40), (3, .int r48)] → W p l e (headSpec (wG yX2_acceptOtherAtom cX2_acceptOtherAtom 4 (some .boolean)) rmX2_acceptOtherAtom).room s m ([.ref (q 7)] : List Value).toArray below meth c H locs 0 0 Q (F0 m 107 ls []) := by
        intro a_si_107 a_sj_107 H locs ls f107_0 hP hD hS hl
        refine lv_aload_n hx hb dX2_acceptOtherAtom_107 rfl (lv_at hl 0 rfl) ?_
        refine lv_iload_n hx hb dX2_acceptOtherAtom_108 rfl (lv_at hl 1 rfl) ?_
        refine m_if_ne (X := s0_40.toInt) (tgt := 128) hx hb dX2_acceptOtherAtom_109 (by decide) rfl (fun c109 => ?_) (fun c109 => ?_)
        · skip
          refine lv_iconst (v := 1) hx hb dX2_acceptOtherAtom_128 (by decide) ?_
          refine lv_goto (tgt := 133) hx hb dX2_acceptOtherAtom_129 (by decide) ?_
          refine call_i (As := [.int 1]) (rest := []) ⟨hx, hb, hml, hown, hts⟩ (tX2_acceptIf (l := l) (1 : Int32)) (cwV 1 hts (gV (wr19 _ (List.mem_of_getElem? (i := 12) rfl)) (wr19 _ (List.mem_of_getElem? (i := 13) rfl)) (wr19 _ (List.mem_of_getElem? (i := 14) rfl)) (wr1 _ (List.mem_of_getElem? (i := 23) rfl)) (wr19 _ (List.mem_of_getElem? (i := 15) rfl))) rfl rfl rfl (by decide +kernel) ⟨Nat.le_of_ble_eq_true rfl, Nat.le_of_ble_eq_true rfl⟩) (va_recv hK hP (ci := 1) (q0 := 7) rfl rfl) hK hP hD hE hS hA rfl hl.1 rfl (Nat.le_of_ble_eq_true rfl) dX2_acceptOtherAtom_133 ⟨Nat.le_of_ble_eq_true rfl, Nat.le_of_ble_eq_true rfl⟩ (fun r133 w9 H locs hw133 hP hD hS => ?_)
          obtain ⟨v_r_faultKind_133, v_r_faultPlace_133, rfl, hw133_0⟩ := hw133
          have b_v_r_faultKind_133 := iB v_r_faultKind_133
          have b_v_r_faultPlace_133 := iB v_r_faultPlace_133
          have b_r133 := iB r133
          subst hAe
          rw [hQ]
          exact W.zret (v := r133) hx hb hr (nbool (by first | omega | decide)) (fun t ht hW => ⟨⟨r133, _, rfl, ⟨v_r_faultKind_133, v_r_faultPlace_133, a_si_107, a_sj_107, rfl, by first | assumption | omega | (intros; omega) | decide, by first | assumption | omega | (intros; omega) | decide⟩, by rw [ht]; exact hP, va_K.moved hW.alike hK, hD⟩, hS.F ht⟩) hS.2.2 dX2_acceptOtherAtom_136
        · skip
          refine lv_iload_n hx hb dX2_acceptOtherAtom_112 rfl (lv_at hl 2 rfl) ?_
          refine lv_iconst (v := (-1)) hx hb dX2_acceptOtherAtom_113 (by decide) ?_
          refine m_icmp_ne (X := r48.toInt) (Y := (-1)) (tgt := 128) hx hb dX2_acceptOtherAtom_114 (by decide) rfl (by decide) (fun c114 => ?_) (fun c114 => ?_)
          · skip
            refine lv_iconst (v := 1) hx hb dX2_acceptOtherAtom_128 (by decide) ?_
            refine lv_goto (tgt := 133) hx hb dX2_acceptOtherAtom_129 (by decide) ?_
            refine call_i (As := [.int 1]) (rest := []) ⟨hx, hb, hml, hown, hts⟩ (tX2_acceptIf (l := l) (1 : Int32)) (cwV 1 hts (gV (wr19 _ (List.mem_of_getElem? (i := 12) rfl)) (wr19 _ (List.mem_of_getElem? (i := 13) rfl)) (wr19 _ (List.mem_of_getElem? (i := 14) rfl)) (wr1 _ (List.mem_of_getElem? (i := 23) rfl)) (wr19 _ (List.mem_of_getElem? (i := 15) rfl))) rfl rfl rfl (by decide +kernel) ⟨Nat.le_of_ble_eq_true rfl, Nat.le_of_ble_eq_true rfl⟩) (va_recv hK hP (ci := 1) (q0 := 7) rfl rfl) hK hP hD hE hS hA rfl hl.1 rfl (Nat.le_of_ble_eq_true rfl) dX2_acceptOtherAtom_133 ⟨Nat.le_of_ble_eq_true rfl, Nat.le_of_ble_eq_true rfl⟩ (fun r133 w9 H locs hw133 hP hD hS => ?_)
            obtain ⟨v_r_faultKind_133, v_r_faultPlace_133, rfl, hw133_0⟩ := hw133
            have b_v_r_faultKind_133 := iB v_r_faultKind_133
            have b_v_r_faultPlace_133 := iB v_r_faultPlace_133
            have b_r133 := iB r133
            subst hAe
            rw [hQ]
            exact W.zret (v := r133) hx hb hr (nbool (by first | omega | decide)) (fun t ht hW => ⟨⟨r133, _, rfl, ⟨v_r_faultKind_133, v_r_faultPlace_133, a_si_107, a_sj_107, rfl, by first | assumption | omega | (intros; omega) | decide, by first | assumption | omega | (intros; omega) | decide⟩, by rw [ht]; exact hP, va_K.moved hW.alike hK, hD⟩, hS.F ht⟩) hS.2.2 dX2_acceptOtherAtom_136
          · skip
            refine lv_aload_n hx hb dX2_acceptOtherAtom_117 rfl (lv_at hl 0 rfl) ?_
            have hf118 : aS a_L a_K a_r_now := by first | assumption
            refine va_get (D := D) (ci := 1) (v := .ref a_r_now) (C := RX2) (T := TX2) (N := 8) hx hb hts hinX2 hown hK hP 7 rfl rfl 2 (by decide) k_3_14 (fun _ h9 => h9) rfl dX2_acceptOtherAtom_118 ?_
            obtain ⟨k121_, hk121_⟩ := pl_S (X := (twX cs q v_t_tapeSize v_t_textSize v_t_faultKind a_t_tape a_t_text a_g_beyond v_g_size a_g_steps a_h_beyond v_h_size a_h_steps a_r_scratch a_r_now v_r_takes v_r_negative v_r_namePlace v_r_faultKind v_r_faultPlace v_a_size v_a_limit v_a_digits v_a_kind v_a_from v_a_to v_o_size a_o_out v_b_size v_b_limit v_b_digits v_b_kind v_b_from v_b_to a_u_atom a_u_other a_u_hand v_u_marksMade v_u_came v_u_guesses v_u_right v_u_taken a_u_vars a_u_marks a_u_outcomes a_u_indexes v_s_things v_s_looked v_s_lookedTooOften v_s_arraysMade v_s_cellsMade a_s_classes a_s_starts a_s_lengths a_s_cells)) (cI := cs 0) (vc := a_vc) (vd := a_vd) (si := a_si_107) (sj := a_sj_107) (iv := a_iv) (inn := a_inn) (ac := a_ac) hf118
            refine va_get (D := D) (ci := 5) (v := .int (a_si_107 a_r_now 10)) (C := RX6) (T := TX6) (N := 15) hx hb hts hinX6 hown hK hP k121_ hk121_ rfl 12 (by decide) k_18_2 (fun _ h9 => h9) rfl dX2_acceptOtherAtom_121 ?_
            refine lv_topi (fun x121 e_x121 => ?_)
            have b_x121 := iB x121
            refine lv_iconst (v := (-1)) hx hb dX2_acceptOtherAtom_124 (by decide) ?_
            refine m_icmp_eq (X := x121.toInt) (Y := (-1)) (tgt := 132) hx hb dX2_acceptOtherAtom_125 (by decide) rfl (by decide) (fun c125 => ?_) (fun c125 => ?_)
            · skip
              refine lv_iconst (v := 0) hx hb dX2_acceptOtherAtom_132 (by decide) ?_
              refine call_i (As := [.int 0]) (rest := []) ⟨hx, hb, hml, hown, hts⟩ (tX2_acceptIf (l := l) (0 : Int32)) (cwV 1 hts (gV (wr19 _ (List.mem_of_getElem? (i := 12) rfl)) (wr19 _ (List.mem_of_getElem? (i := 13) rfl)) (wr19 _ (List.mem_of_getElem? (i := 14) rfl)) (wr1 _ (List.mem_of_getElem? (i := 23) rfl)) (wr19 _ (List.mem_of_getElem? (i := 15) rfl))) rfl rfl rfl (by decide +kernel) ⟨Nat.le_of_ble_eq_true rfl, Nat.le_of_ble_eq_true rfl⟩) (va_recv hK hP (ci := 1) (q0 := 7) rfl rfl) hK hP hD hE hS hA rfl hl.1 rfl (Nat.le_of_ble_eq_true rfl) dX2_acceptOtherAtom_133 ⟨Nat.le_of_ble_eq_true rfl, Nat.le_of_ble_eq_true rfl⟩ (fun r133 w9 H locs hw133 hP hD hS => ?_)
              obtain ⟨v_r_faultKind_133, v_r_faultPlace_133, rfl, hw133_0⟩ := hw133
              have b_v_r_faultKind_133 := iB v_r_faultKind_133
              have b_v_r_faultPlace_133 := iB v_r_faultPlace_133
              have b_r133 := iB r133
              subst hAe
              rw [hQ]
              exact W.zret (v := r133) hx hb hr (nbool (by first | omega | decide)) (fun t ht hW => ⟨⟨r133, _, rfl, ⟨v_r_faultKind_133, v_r_faultPlace_133, a_si_107, a_sj_107, rfl, by first | assumption | omega | (intros; omega) | decide, by first | assumption | omega | (intros; omega) | decide⟩, by rw [ht]; exact hP, va_K.moved hW.alike hK, hD⟩, hS.F ht⟩) hS.2.2 dX2_acceptOtherAtom_136
            · skip
              refine lv_iconst (v := 1) hx hb dX2_acceptOtherAtom_128 (by decide) ?_
              refine lv_goto (tgt := 133) hx hb dX2_acceptOtherAtom_129 (by decide) ?_
              refine call_i (As := [.int 1]) (rest := []) ⟨hx, hb, hml, hown, hts⟩ (tX2_acceptIf (l := l) (1 : Int32)) (cwV 1 hts (gV (wr19 _ (List.mem_of_getElem? (i := 12) rfl)) (wr19 _ (List.mem_of_getElem? (i := 13) rfl)) (wr19 _ (List.mem_of_getElem? (i := 14) rfl)) (wr1 _ (List.mem_of_getElem? (i := 23) rfl)) (wr19 _ (List.mem_of_getElem? (i := 15) rfl))) rfl rfl rfl (by decide +kernel) ⟨Nat.le_of_ble_eq_true rfl, Nat.le_of_ble_eq_true rfl⟩) (va_recv hK hP (ci := 1) (q0 := 7) rfl rfl) hK hP hD hE hS hA rfl hl.1 rfl (Nat.le_of_ble_eq_true rfl) dX2_acceptOtherAtom_133 ⟨Nat.le_of_ble_eq_true rfl, Nat.le_of_ble_eq_true rfl⟩ (fun r133 w9 H locs hw133 hP hD hS => ?_)
              obtain ⟨v_r_faultKind_133, v_r_faultPlace_133, rfl, hw133_0⟩ := hw133
              have b_v_r_faultKind_133 := iB v_r_faultKind_133
              have b_v_r_faultPlace_133 := iB v_r_faultPlace_133
              have b_r133 := iB r133
              subst hAe
              rw [hQ]
              exact W.zret (v := r133) hx hb hr (nbool (by first | omega | decide)) (fun t ht hW => ⟨⟨r133, _, rfl, ⟨v_r_faultKind_133, v_r_faultPlace_133, a_si_107, a_sj_107, rfl, by first | assumption | omega | (intros; omega) | decide, by first | assumption | omega | (intros; omega) | decide⟩, by rw [ht]; exact hP, va_K.moved hW.alike hK, hD⟩, hS.F ht⟩) hS.2.2 dX2_acceptOtherAtom_136
      refine m_if_eq (X := s0_40.toInt) (tgt := 81) hx hb dX2_acceptOtherAtom_67 (by decide) rfl (fun c67 => ?_) (fun c67 => ?_)
      · skip
        refine lv_iload_n hx hb dX2_acceptOtherAtom_81 rfl (lv_at hl 0 rfl) ?_
        have J90 : ∀ (H : Heap) (locs : List Loc) (ls : Array Slot), va_P D vwCl (tw cs q v_t_tapeSize v_t_textSize v_t_faultKind a_t_tape a_t_text a_g_beyond v_g_size a_g_steps a_h_beyond v_h_size a_h_steps a_r_scratch a_r_now v_r_takes v_r_negative v_r_namePlace v_r_faultKind v_r_faultPlace v_a_size v_a_limit v_a_digits v_a_kind v_a_from v_a_to v_o_size a_o_out v_b_size v_b_limit v_b_digits v_b_kind v_b_from v_b_to a_u_atom a_u_other a_u_hand v_u_marksMade v_u_came v_u_guesses v_u_right v_u_taken a_u_vars a_u_marks a_u_outcomes a_u_indexes v_s_things v_s_looked v_s_lookedTooOften v_s_arraysMade v_s_cellsMade a_s_classes a_s_starts a_s_lengths a_s_cells a_L a_K a_vc a_vd a_si_63 a_sj a_iv a_inn a_ac) H → va_D A (tw cs q v_t_tapeSize v_t_textSize v_t_faultKind a_t_tape a_t_text a_g_beyond v_g_size a_g_steps a_h_beyond v_h_size a_h_steps a_r_scratch a_r_now v_r_takes v_r_negative v_r_namePlace v_r_faultKind v_r_faultPlace v_a_size v_a_limit v_a_digits v_a_kind v_a_from v_a_to v_o_size a_o_out v_b_size v_b_limit v_b_digits v_b_kind v_b_from v_b_to a_u_atom a_u_other a_u_hand v_u_marksMade v_u_came v_u_guesses v_u_right v_u_taken a_u_vars a_u_marks a_u_outcomes a_u_indexes v_s_things v_s_looked v_s_lookedTooOften v_s_arraysMade v_s_cellsMade a_s_classes a_s_starts a_s_lengths a_s_cells a_L a_K a_vc a_vd a_si_63 a_sj a_iv a_inn a_ac) → va_S A s.heap H locs → lv_has ls 4 [(0, .ref (q 7)), (2, .int s0_40), (3, .int r48)] → W p l e (headSpec (wG yX2_acceptOtherAtom cX2_acceptOtherAtom 4 (some .boolean)) rmX2_acceptOtherAtom).room s m ([.ref (q 7)] : List Value).toArray below meth c H locs 0 0 Q (F0 m 90 ls []) := by
          intro H locs ls hP hD hS hl
          refine lv_aload_n hx hb dX2_acceptOtherAtom_90 rfl (lv_at hl 0 rfl) ?_
          have hf91 : aS a_L a_K a_r_now := by first | assumption
          refine va_get (D := D) (ci := 1) (v := .ref a_r_now) (C := RX2) (T := TX2) (N := 8) hx hb hts hinX2 hown hK hP 7 rfl rfl 2 (by decide) k_3_14 (fun _ h9 => h9) rfl dX2_acceptOtherAtom_91 ?_
          refine lv_iconst (v := 0) hx hb dX2_acceptOtherAtom_94 (by decide) ?_
          obtain ⟨k95_, hk95_⟩ := pl_S (X := (twX cs q v_t_tapeSize v_t_textSize v_t_faultKind a_t_tape a_t_text a_g_beyond v_g_size a_g_steps a_h_beyond v_h_size a_h_steps a_r_scratch a_r_now v_r_takes v_r_negative v_r_namePlace v_r_faultKind v_r_faultPlace v_a_size v_a_limit v_a_digits v_a_kind v_a_from v_a_to v_o_size a_o_out v_b_size v_b_limit v_b_digits v_b_kind v_b_from v_b_to a_u_atom a_u_other a_u_hand v_u_marksMade v_u_came v_u_guesses v_u_right v_u_taken a_u_vars a_u_marks a_u_outcomes a_u_indexes v_s_things v_s_looked v_s_lookedTooOften v_s_arraysMade v_s_cellsMade a_s_classes a_s_starts a_s_lengths a_s_cells)) (cI := cs 0) (vc := a_vc) (vd := a_vd) (si := a_si_63) (sj := a_sj) (iv := a_iv) (inn := a_inn) (ac := a_ac) hf91
          have hDk := hD
          refine va_put (D := D) (ci := 5) (v := .int 0) (ty := .int) (C := RX6) (T := TX6) (N := 15) hx hb hts hinX6 tyX6 tyX6_ok nmX6 hown hK hP hD hS k95_ hk95_ rfl 13 (by decide) k_20_22 (fun _ h9 => h9) rfl (by decide +kernel) rfl rfl (Nat.le_of_ble_eq_true rfl) dX2_acceptOtherAtom_95 (fun H locs hP hD hS => ?_)
          obtain ⟨a_si_95, e_a_si_95⟩ : ∃ g, g = up2 a_si_63 a_r_now 11 (0 : Int32) := ⟨_, rfl⟩
          have hP : va_P D vwCl (tw cs q v_t_tapeSize v_t_textSize v_t_faultKind a_t_tape a_t_text a_g_beyond v_g_size a_g_steps a_h_beyond v_h_size a_h_steps a_r_scratch a_r_now v_r_takes v_r_negative v_r_namePlace v_r_faultKind v_r_faultPlace v_a_size v_a_limit v_a_digits v_a_kind v_a_from v_a_to v_o_size a_o_out v_b_size v_b_limit v_b_digits v_b_kind v_b_from v_b_to a_u_atom a_u_other a_u_hand v_u_marksMade v_u_came v_u_guesses v_u_right v_u_taken a_u_vars a_u_marks a_u_outcomes a_u_indexes v_s_things v_s_looked v_s_lookedTooOften v_s_arraysMade v_s_cellsMade a_s_classes a_s_starts a_s_lengths a_s_cells a_L a_K a_vc a_vd a_si_95 a_sj a_iv a_inn a_ac) H := by rw [e_a_si_95]; exact vaP_eq (pu_atomClass_ hDk hf91 hk95_ _) hP
          have hD : va_D A (tw cs q v_t_tapeSize v_t_textSize v_t_faultKind a_t_tape a_t_text a_g_beyond v_g_size a_g_steps a_h_beyond v_h_size a_h_steps a_r_scratch a_r_now v_r_takes v_r_negative v_r_namePlace v_r_faultKind v_r_faultPlace v_a_size v_a_limit v_a_digits v_a_kind v_a_from v_a_to v_o_size a_o_out v_b_size v_b_limit v_b_digits v_b_kind v_b_from v_b_to a_u_atom a_u_other a_u_hand v_u_marksMade v_u_came v_u_guesses v_u_right v_u_taken a_u_vars a_u_marks a_u_outcomes a_u_indexes v_s_things v_s_looked v_s_lookedTooOften v_s_arraysMade v_s_cellsMade a_s_classes a_s_starts a_s_lengths a_s_cells a_L a_K a_vc a_vd a_si_95 a_sj a_iv a_inn a_ac) := by rw [e_a_si_95]; exact vaD_eq (pu_atomClass_ hDk hf91 hk95_ _) hD
          have hPI : PI a_L a_K a_si_95 a_iv a_inn := by exact PI.up (by assumption) e_a_si_95 (by decide)
          refine lv_aload_n hx hb dX2_acceptOtherAtom_98 rfl (lv_at hl 0 rfl) ?_
          have hf99 : aS a_L a_K a_r_now := by first | assumption
          refine va_get (D := D) (ci := 1) (v := .ref a_r_now) (C := RX2) (T := TX2) (N := 8) hx hb hts hinX2 hown hK hP 7 rfl rfl 2 (by decide) k_3_14 (fun _ h9 => h9) rfl dX2_acceptOtherAtom_99 ?_
          refine lv_iload_n hx hb dX2_acceptOtherAtom_102 rfl (lv_at hl 2 rfl) ?_
          refine m_i2l (X := r48.toInt) hx hb dX2_acceptOtherAtom_103 rfl (fun x103 e_x103 g_x103 => ?_)
          obtain ⟨k104_, hk104_⟩ := pl_S (X := (twX cs q v_t_tapeSize v_t_textSize v_t_faultKind a_t_tape a_t_text a_g_beyond v_g_size a_g_steps a_h_beyond v_h_size a_h_steps a_r_scratch a_r_now v_r_takes v_r_negative v_r_namePlace v_r_faultKind v_r_faultPlace v_a_size v_a_limit v_a_digits v_a_kind v_a_from v_a_to v_o_size a_o_out v_b_size v_b_limit v_b_digits v_b_kind v_b_from v_b_to a_u_atom a_u_other a_u_hand v_u_marksMade v_u_came v_u_guesses v_u_right v_u_taken a_u_vars a_u_marks a_u_outcomes a_u_indexes v_s_things v_s_looked v_s_lookedTooOften v_s_arraysMade v_s_cellsMade a_s_classes a_s_starts a_s_lengths a_s_cells)) (cI := cs 0) (vc := a_vc) (vd := a_vd) (si := a_si_95) (sj := a_sj) (iv := a_iv) (inn := a_inn) (ac := a_ac) hf99
          have hDk := hD
          refine va_put (D := D) (ci := 5) (v := .long x103) (ty := .long) (C := RX6) (T := TX6) (N := 15) hx hb hts hinX6 tyX6 tyX6_ok nmX6 hown hK hP hD hS k104_ hk104_ rfl 14 (by decide) k_20_23 (fun _ h9 => h9) rfl (by decide +kernel) rfl rfl (Nat.le_of_ble_eq_true rfl) dX2_acceptOtherAtom_104 (fun H locs hP hD hS => ?_)
          obtain ⟨a_sj_104, e_a_sj_104⟩ : ∃ g, g = va_up a_sj a_r_now x103 := ⟨_, rfl⟩
          have hP : va_P D vwCl (tw cs q v_t_tapeSize v_t_textSize v_t_faultKind a_t_tape a_t_text a_g_beyond v_g_size a_g_steps a_h_beyond v_h_size a_h_steps a_r_scratch a_r_now v_r_takes v_r_negative v_r_namePlace v_r_faultKind v_r_faultPlace v_a_size v_a_limit v_a_digits v_a_kind v_a_from v_a_to v_o_size a_o_out v_b_size v_b_limit v_b_digits v_b_kind v_b_from v_b_to a_u_atom a_u_other a_u_hand v_u_marksMade v_u_came v_u_guesses v_u_right v_u_taken a_u_vars a_u_marks a_u_outcomes a_u_indexes v_s_things v_s_looked v_s_lookedTooOften v_s_arraysMade v_s_cellsMade a_s_classes a_s_starts a_s_lengths a_s_cells a_L a_K a_vc a_vd a_si_95 a_sj_104 a_iv a_inn a_ac) H := by rw [e_a_sj_104]; exact vaP_eq (pu_atomNumber_ hDk hf99 hk104_ _) hP
          have hD : va_D A (tw cs q v_t_tapeSize v_t_textSize v_t_faultKind a_t_tape a_t_text a_g_beyond v_g_size a_g_steps a_h_beyond v_h_size a_h_steps a_r_scratch a_r_now v_r_takes v_r_negative v_r_namePlace v_r_faultKind v_r_faultPlace v_a_size v_a_limit v_a_digits v_a_kind v_a_from v_a_to v_o_size a_o_out v_b_size v_b_limit v_b_digits v_b_kind v_b_from v_b_to a_u_atom a_u_other a_u_hand v_u_marksMade v_u_came v_u_guesses v_u_right v_u_taken a_u_vars a_u_marks a_u_outcomes a_u_indexes v_s_things v_s_looked v_s_lookedTooOften v_s_arraysMade v_s_cellsMade a_s_classes a_s_starts a_s_lengths a_s_cells a_L a_K a_vc a_vd a_si_95 a_sj_104 a_iv a_inn a_ac) := by rw [e_a_sj_104]; exact vaD_eq (pu_atomNumber_ hDk hf99 hk104_ _) hD
          exact J107 a_si_95 a_sj_104 H locs ls (by first | assumption | omega | (intros; omega) | decide) hP hD hS (lv_sub hl [0, 1, 2] rfl)
        refine m_if_eq (X := r48.toInt) (tgt := 90) hx hb dX2_acceptOtherAtom_82 (by decide) rfl (fun c82 => ?_) (fun c82 => ?_)
        · skip
          exact J90 H locs ls hP hD hS (lv_sub hl [2, 1, 0] rfl)
        · skip
          refine lv_iload_n hx hb dX2_acceptOtherAtom_85 rfl (lv_at hl 0 rfl) ?_
          refine lv_iconst (v := 1) hx hb dX2_acceptOtherAtom_86 (by decide) ?_
          refine m_icmp_ne (X := r48.toInt) (Y := 1) (tgt := 107) hx hb dX2_acceptOtherAtom_87 (by decide) rfl (by decide) (fun c87 => ?_) (fun c87 => ?_)
          · skip
            exact J107 a_si_63 a_sj H locs ls (by first | assumption | omega | (intros; omega) | decide) hP hD hS (lv_sub hl [2, 1, 0] rfl)
          · skip
            exact J90 H locs ls hP hD hS (lv_sub hl [2, 1, 0] rfl)
      · skip
        refine lv_aload_n hx hb dX2_acceptOtherAtom_70 rfl (lv_at hl 2 rfl) ?_
        have hf71 : aS a_L a_K a_r_now := by first | assumption
        refine va_get (D := D) (ci := 1) (v := .ref a_r_now) (C := RX2) (T := TX2) (N := 8) hx hb hts hinX2 hown hK hP 7 rfl rfl 2 (by decide) k_3_14 (fun _ h9 => h9) rfl dX2_acceptOtherAtom_71 ?_
        refine lv_iload_n hx hb dX2_acceptOtherAtom_74 rfl (lv_at hl 3 rfl) ?_
        obtain ⟨k75_, hk75_⟩ := pl_S (X := (twX cs q v_t_tapeSize v_t_textSize v_t_faultKind a_t_tape a_t_text a_g_beyond v_g_size a_g_steps a_h_beyond v_h_size a_h_steps a_r_scratch a_r_now v_r_takes v_r_negative v_r_namePlace v_r_faultKind v_r_faultPlace v_a_size v_a_limit v_a_digits v_a_kind v_a_from v_a_to v_o_size a_o_out v_b_size v_b_limit v_b_digits v_b_kind v_b_from v_b_to a_u_atom a_u_other a_u_hand v_u_marksMade v_u_came v_u_guesses v_u_right v_u_taken a_u_vars a_u_marks a_u_outcomes a_u_indexes v_s_things v_s_looked v_s_lookedTooOften v_s_arraysMade v_s_cellsMade a_s_classes a_s_starts a_s_lengths a_s_cells)) (cI := cs 0) (vc := a_vc) (vd := a_vd) (si := a_si_63) (sj := a_sj) (iv := a_iv) (inn := a_inn) (ac := a_ac) hf71
        have hDk := hD
        refine va_put (D := D) (ci := 5) (v := .int r19) (ty := .int) (C := RX6) (T := TX6) (N := 15) hx hb hts hinX6 tyX6 tyX6_ok nmX6 hown hK hP hD hS k75_ hk75_ rfl 13 (by decide) k_20_22 (fun _ h9 => h9) rfl (by decide +kernel) rfl rfl (Nat.le_of_ble_eq_true rfl) dX2_acceptOtherAtom_75 (fun H locs hP hD hS => ?_)
        obtain ⟨a_si_75, e_a_si_75⟩ : ∃ g, g = up2 a_si_63 a_r_now 11 r19 := ⟨_, rfl⟩
        have hP : va_P D vwCl (tw cs q v_t_tapeSize v_t_textSize v_t_faultKind a_t_tape a_t_text a_g_beyond v_g_size a_g_steps a_h_beyond v_h_size a_h_steps a_r_scratch a_r_now v_r_takes v_r_negative v_r_namePlace v_r_faultKind v_r_faultPlace v_a_size v_a_limit v_a_digits v_a_kind v_a_from v_a_to v_o_size a_o_out v_b_size v_b_limit v_b_digits v_b_kind v_b_from v_b_to a_u_atom a_u_other a_u_hand v_u_marksMade v_u_came v_u_guesses v_u_right v_u_taken a_u_vars a_u_marks a_u_outcomes a_u_indexes v_s_things v_s_looked v_s_lookedTooOften v_s_arraysMade v_s_cellsMade a_s_classes a_s_starts a_s_lengths a_s_cells a_L a_K a_vc a_vd a_si_75 a_sj a_iv a_inn a_ac) H := by rw [e_a_si_75]; exact vaP_eq (pu_atomClass_ hDk hf71 hk75_ _) hP
        have hD : va_D A (tw cs q v_t_tapeSize v_t_textSize v_t_faultKind a_t_tape a_t_text a_g_beyond v_g_size a_g_steps a_h_beyond v_h_size a_h_steps a_r_scratch a_r_now v_r_takes v_r_negative v_r_namePlace v_r_faultKind v_r_faultPlace v_a_size v_a_limit v_a_digits v_a_kind v_a_from v_a_to v_o_size a_o_out v_b_size v_b_limit v_b_digits v_b_kind v_b_from v_b_to a_u_atom a_u_other a_u_hand v_u_marksMade v_u_came v_u_guesses v_u_right v_u_taken a_u_vars a_u_marks a_u_outcomes a_u_indexes v_s_things v_s_looked v_s_lookedTooOften v_s_arraysMade v_s_cellsMade a_s_classes a_s_starts a_s_lengths a_s_cells a_L a_K a_vc a_vd a_si_75 a_sj a_iv a_inn a_ac) := by rw [e_a_si_75]; exact vaD_eq (pu_atomClass_ hDk hf71 hk75_ _) hD
        have hPI : PI a_L a_K a_si_75 a_iv a_inn := by exact PI.up (by assumption) e_a_si_75 (by decide)
        refine lv_goto (tgt := 107) hx hb dX2_acceptOtherAtom_78 (by decide) ?_
        exact J107 a_si_75 a_sj H locs ls (by first | assumption | omega | (intros; omega) | decide) hP hD hS (lv_sub hl [2, 1, 0] rfl)
    have J39 : ∀ (H : Heap) (locs : List Loc) (ls : Array Slot), va_P D vwCl (tw cs q v_t_tapeSize v_t_textSize v_t_faultKind a_t_tape a_t_text a_g_beyond v_g_size a_g_steps a_h_beyond v_h_size a_h_steps a_r_scratch a_r_now v_r_takes v_r_negative v_r_namePlace v_r_faultKind v_r_faultPlace v_a_size v_a_limit v_a_digits v_a_kind v_a_from v_a_to v_o_size a_o_out v_b_size v_b_limit v_b_digits v_b_kind v_b_from v_b_to a_u_atom a_u_other a_u_hand v_u_marksMade v_u_came v_u_guesses v_u_right v_u_taken a_u_vars a_u_marks a_u_outcomes a_u_indexes v_s_things v_s_looked v_s_lookedTooOften v_s_arraysMade v_s_cellsMade a_s_classes a_s_starts a_s_lengths a_s_cells a_L a_K a_vc a_vd a_si a_sj a_iv a_inn a_ac) H → va_D A (tw cs q v_t_tapeSize v_t_textSize v_t_faultKind a_t_tape a_t_text a_g_beyond v_g_size a_g_steps a_h_beyond v_h_size a_h_steps a_r_scratch a_r_now v_r_takes v_r_negative v_r_namePlace v_r_faultKind v_r_faultPlace v_a_size v_a_limit v_a_digits v_a_kind v_a_from v_a_to v_o_size a_o_out v_b_size v_b_limit v_b_digits v_b_kind v_b_from v_b_to a_u_atom a_u_other a_u_hand v_u_marksMade v_u_came v_u_guesses v_u_right v_u_taken a_u_vars a_u_marks a_u_outcomes a_u_indexes v_s_things v_s_looked v_s_lookedTooOften v_s_arraysMade v_s_cellsMade a_s_classes a_s_starts a_s_lengths a_s_cells a_L a_K a_vc a_vd a_si a_sj a_iv a_inn a_ac) → va_S A s.heap H locs → lv_has ls 4 [(0, .ref (q 7)), (1, .int r19)] → W p l e (headSpec (wG yX2_acceptOtherAtom cX2_acceptOtherAtom 4 (some .boolean)) rmX2_acceptOtherAtom).room s m ([.ref (q 7)] : List Value).toArray below meth c H locs 0 0 Q (F0 m 39 ls []) := by
      intro H locs ls hP hD hS hl
      refine lv_iconst (v := 0) hx hb dX2_acceptOtherAtom_39 (by decide) ?_
      exact J40 (0 : Int32) H locs ls (by first | decide | omega) hP hD hS (lv_sub hl [0, 1] rfl)
    refine m_icmp_lt (X := r19.toInt) (Y := 8) (tgt := 39) hx hb dX2_acceptOtherAtom_26 (by decide) rfl (by decide) (fun c26 => ?_) (fun c26 => ?_)
    · skip
      exact J39 H locs ls hP hD hS (lv_sub hl [1, 0] rfl)
    · skip
      refine lv_iload_n hx hb dX2_acceptOtherAtom_29 rfl (lv_at hl 0 rfl) ?_
      refine lv_bipush (v := 15) hx hb dX2_acceptOtherAtom_30 (by decide) ?_
      refine m_icmp_ge (X := r19.toInt) (Y := 15) (tgt := 39) hx hb dX2_acceptOtherAtom_32 (by decide) rfl (by decide) (fun c32 => ?_) (fun c32 => ?_)
      · skip
        exact J39 H locs ls hP hD hS (lv_sub hl [1, 0] rfl)
      · skip
        refine lv_iconst (v := 1) hx hb dX2_acceptOtherAtom_35 (by decide) ?_
        refine lv_goto (tgt := 40) hx hb dX2_acceptOtherAtom_36 (by decide) ?_
        exact J40 (1 : Int32) H locs ls (by first | decide | omega) hP hD hS (lv_sub hl [1, 0] rfl)
  · skip
    refine lv_aload_n hx hb dX2_acceptOtherAtom_7 rfl (lv_at hl 0 rfl) ?_
    refine lv_iconst (v := 2) hx hb dX2_acceptOtherAtom_8 (by decide) ?_
    refine call_i (As := [.int 2]) (rest := []) ⟨hx, hb, hml, hown, hts⟩ (tX2_refuse (l := l) (2 : Int32)) (cwV 1 hts (gV (wr15 _ (List.mem_of_getElem? (i := 20) rfl)) (wr15 _ (List.mem_of_getElem? (i := 21) rfl)) (wr15 _ (List.mem_of_getElem? (i := 22) rfl)) (wr1 _ (List.mem_of_getElem? (i := 23) rfl)) (wr15 _ (List.mem_of_getElem? (i := 23) rfl))) rfl rfl rfl (by decide +kernel) ⟨Nat.le_of_ble_eq_true rfl, Nat.le_of_ble_eq_true rfl⟩) (va_recv hK hP (ci := 1) (q0 := 7) rfl rfl) hK hP hD hE hS hA rfl hl.1 rfl (Nat.le_of_ble_eq_true rfl) dX2_acceptOtherAtom_9 ⟨Nat.le_of_ble_eq_true rfl, Nat.le_of_ble_eq_true rfl⟩ (fun r9 w9 H locs hw9 hP hD hS => ?_)
    obtain ⟨v_r_faultKind_9, v_r_faultPlace_9, rfl, hw9_0⟩ := hw9
    have b_v_r_faultKind_9 := iB v_r_faultKind_9
    have b_v_r_faultPlace_9 := iB v_r_faultPlace_9
    have b_r9 := iB r9
    subst hAe
    rw [hQ]
    exact W.zret (v := r9) hx hb hr (nbool (by first | omega | decide)) (fun t ht hW => ⟨⟨r9, _, rfl, ⟨v_r_faultKind_9, v_r_faultPlace_9, a_si, a_sj, rfl, by first | assumption | omega | (intros; omega) | decide, by first | assumption | omega | (intros; omega) | decide⟩, by rw [ht]; exact hP, va_K.moved hW.alike hK, hD⟩, hS.F ht⟩) hS.2.2 dX2_acceptOtherAtom_12

def rmX2_acceptPart : Room := { frames := 160, cells := 0, slots := 0, locals := 3200 }
set_option maxHeartbeats 4000000 in
set_option maxRecDepth 100000 in
theorem tX2_acceptPart {l : Launch} {D : va_G} {K : Nat → Nat → Nat} {cs : Nat → ClassId} {q : Nat → Nat} {v_t_tapeSize v_t_textSize v_t_faultKind v_g_size v_h_size v_r_takes v_r_negative v_r_namePlace v_r_faultKind v_r_faultPlace v_a_size v_a_limit v_a_digits v_a_kind v_a_from v_a_to v_o_size v_b_size v_b_limit v_b_digits v_b_kind v_b_from v_b_to v_u_marksMade v_u_came v_u_guesses v_u_right v_u_taken v_s_things v_s_looked v_s_lookedTooOften v_s_arraysMade v_s_cellsMade : Int32} {a_t_tape a_t_text a_o_out a_u_outcomes a_u_indexes a_s_classes a_s_starts a_s_lengths a_vc : Nat → Int32} {a_g_beyond a_h_beyond a_r_scratch a_r_now a_u_atom a_u_other a_u_hand : Nat} {a_g_steps a_h_steps a_u_vars a_u_marks : Nat → Option Nat} {a_s_cells a_vd a_sj : Nat → Int64} {a_L : List Nat} {a_K a_iv a_inn : Nat → Nat} {a_si a_ac : Nat → Nat → Int32} (g9 : Int32) (p_0 : LI 3100 v_a_size v_a_limit v_a_digits v_a_kind v_a_from v_a_to) (p_1 : PI a_L a_K a_si a_iv a_inn) (p_2 : aS a_L a_K a_r_now) : CtI l yX2_acceptPart (wG yX2_acceptPart cX2_acceptPart 2 (some .boolean)) rmX2_acceptPart D (twT cs) K [.ref (q 7), .int g9] (tw cs q v_t_tapeSize v_t_textSize v_t_faultKind a_t_tape a_t_text a_g_beyond v_g_size a_g_steps a_h_beyond v_h_size a_h_steps a_r_scratch a_r_now v_r_takes v_r_negative v_r_namePlace v_r_faultKind v_r_faultPlace v_a_size v_a_limit v_a_digits v_a_kind v_a_from v_a_to v_o_size a_o_out v_b_size v_b_limit v_b_digits v_b_kind v_b_from v_b_to a_u_atom a_u_other a_u_hand v_u_marksMade v_u_came v_u_guesses v_u_right v_u_taken a_u_vars a_u_marks a_u_outcomes a_u_indexes v_s_things v_s_looked v_s_lookedTooOften v_s_arraysMade v_s_cellsMade a_s_classes a_s_starts a_s_lengths a_s_cells a_L a_K a_vc a_vd a_si a_sj a_iv a_inn a_ac) (fun r w1 => ∃ (v_r_namePlace' : Int32) (v_r_faultKind' : Int32) (v_r_faultPlace' : Int32) (a_si' : Nat → Nat → Int32) (a_sj' : Nat → Int64) (a_ac' : Nat → Nat → Int32), w1 = (tw cs q v_t_tapeSize v_t_textSize v_t_faultKind a_t_tape a_t_text a_g_beyond v_g_size a_g_steps a_h_beyond v_h_size a_h_steps a_r_scratch a_r_now v_r_takes v_r_negative v_r_namePlace' v_r_faultKind' v_r_faultPlace' v_a_size v_a_limit v_a_digits v_a_kind v_a_from v_a_to v_o_size a_o_out v_b_size v_b_limit v_b_digits v_b_kind v_b_from v_b_to a_u_atom a_u_other a_u_hand v_u_marksMade v_u_came v_u_guesses v_u_right v_u_taken a_u_vars a_u_marks a_u_outcomes a_u_indexes v_s_things v_s_looked v_s_lookedTooOften v_s_arraysMade v_s_cellsMade a_s_classes a_s_starts a_s_lengths a_s_cells a_L a_K a_vc a_vd a_si' a_sj' a_iv a_inn a_ac') ∧ (PI a_L a_K a_si' a_iv a_inn) ∧ (r.toInt = 0 ∨ r.toInt = 1)) 0 0 := by
  intro sz
  refine Met.ofW (cc := cX2_acceptPart) (maxL := 2) (ret := (some .boolean)) (by decide) rfl ?_
  intro p e s m args below meth c s₁ B hml hv
  obtain ⟨rfl, hsz, hP, hK, hD0, hE⟩ := hv
  have hx := B.exec
  have hb := B.bytes
  have hr := B.returns
  have hts := atoms_spec (ws := (wG yX2_acceptPart cX2_acceptPart 2 (some .boolean))) B.pre
  have hown : s.vm.findClass RX2 = some m.cls := findClass_of_methodNamed B.named
  have hlocks := B.notSynchronized
  subst hsz
  have hD := hD0.self (sz := s.heap.size)
  obtain ⟨A, hAe⟩ : ∃ A : Nat → Prop, A = va_A (tw cs q v_t_tapeSize v_t_textSize v_t_faultKind a_t_tape a_t_text a_g_beyond v_g_size a_g_steps a_h_beyond v_h_size a_h_steps a_r_scratch a_r_now v_r_takes v_r_negative v_r_namePlace v_r_faultKind v_r_faultPlace v_a_size v_a_limit v_a_digits v_a_kind v_a_from v_a_to v_o_size a_o_out v_b_size v_b_limit v_b_digits v_b_kind v_b_from v_b_to a_u_atom a_u_other a_u_hand v_u_marksMade v_u_came v_u_guesses v_u_right v_u_taken a_u_vars a_u_marks a_u_outcomes a_u_indexes v_s_things v_s_looked v_s_lookedTooOften v_s_arraysMade v_s_cellsMade a_s_classes a_s_starts a_s_lengths a_s_cells a_L a_K a_vc a_vd a_si a_sj a_iv a_inn a_ac) s.heap.size := ⟨_, rfl⟩
  rw [← hAe] at hD hE
  have hA : ∀ q : Nat, s.heap.size ≤ q → A q := fun q h => by rw [hAe]; exact Or.inr h
  have hS : va_S A s.heap s.heap [] := va_S.rf
  have hl := lv_entry ([.ref (q 7), .int g9]) (n := 2) (Nat.le_of_ble_eq_true rfl)
  rw [lg_entry_eq]
  generalize (lg_sl ([.ref (q 7), .int g9]) ++ List.replicate (2 - (lg_sl ([.ref (q 7), .int g9])).length) Slot.unset).toArray = ls at hl ⊢
  have hl : lv_has ls 2 [(0, .ref (q 7)), (1, .int g9)] := hl
  refine wq (fun Q hQ => ?_)
  have hinX1 : ∀ w ∈ wsX10, w ∈ (wG yX2_acceptPart cX2_acceptPart 2 (some .boolean)) := fun w h => List.mem_cons_of_mem _ (inlX1 w h)
  have hinX2 : ∀ w ∈ wsX20, w ∈ (wG yX2_acceptPart cX2_acceptPart 2 (some .boolean)) := fun w h => List.mem_cons_of_mem _ (inlX2 w h)
  have hinX6 : ∀ w ∈ wsX60, w ∈ (wG yX2_acceptPart cX2_acceptPart 2 (some .boolean)) := fun w h => List.mem_cons_of_mem _ (inlX6 w h)
  have kc0 : (-1 : Int32).toInt = -1 := by decide
  have kc1 : (0 : Int32).toInt = 0 := by decide
  have kc2 : (1 : Int32).toInt = 1 := by decide
  have kc3 : (3 : Int32).toInt = 3 := by decide
  have k_3_11 := hts (.fieldLink RX2 9 "ArrayTrainer$Parser" "lexer" "LArrayTrainer$Lexer;") (List.mem_cons_of_mem _ (wr3 _ (List.mem_of_getElem? (i := 11) rfl)))
  have k_8_17 := hts (.fieldLink RX2 35 "ArrayTrainer$Lexer" "kind" "I") (List.mem_cons_of_mem _ (wr8 _ (List.mem_of_getElem? (i := 17) rfl)))
  have k_3_14 := hts (.fieldLink RX2 22 "ArrayTrainer$Parser" "now" "LArrayTrainer$Step;") (List.mem_cons_of_mem _ (wr3 _ (List.mem_of_getElem? (i := 14) rfl)))
  have k_19_1 := hts (.fieldLink RX2 78 "ArrayTrainer$Step" "cls" "I") (List.mem_cons_of_mem _ (wr19 _ (List.mem_of_getElem? (i := 1) rfl)))
  have k_8_18 := hts (.fieldLink RX2 52 "ArrayTrainer$Lexer" "from" "I") (List.mem_cons_of_mem _ (wr8 _ (List.mem_of_getElem? (i := 18) rfl)))
  have k_19_2 := hts (.fieldLink RX2 215 "ArrayTrainer$Parser" "namePlace" "I") (List.mem_cons_of_mem _ (wr19 _ (List.mem_of_getElem? (i := 2) rfl)))
  have k_17_16 := hts (.fieldLink RX2 140 "ArrayTrainer$Step" "first" "I") (List.mem_cons_of_mem _ (wr17 _ (List.mem_of_getElem? (i := 16) rfl)))
  have k_19_11 := hts (.fieldLink RX2 221 "ArrayTrainer$Step" "second" "I") (List.mem_cons_of_mem _ (wr19 _ (List.mem_of_getElem? (i := 11) rfl)))
  obtain ⟨H, hH⟩ : ∃ H : Heap, H = s.heap := ⟨_, rfl⟩
  obtain ⟨locs, hlc⟩ : ∃ L : List Loc, L = [] := ⟨_, rfl⟩
  have hP : va_P D vwCl (tw cs q v_t_tapeSize v_t_textSize v_t_faultKind a_t_tape a_t_text a_g_beyond v_g_size a_g_steps a_h_beyond v_h_size a_h_steps a_r_scratch a_r_now v_r_takes v_r_negative v_r_namePlace v_r_faultKind v_r_faultPlace v_a_size v_a_limit v_a_digits v_a_kind v_a_from v_a_to v_o_size a_o_out v_b_size v_b_limit v_b_digits v_b_kind v_b_from v_b_to a_u_atom a_u_other a_u_hand v_u_marksMade v_u_came v_u_guesses v_u_right v_u_taken a_u_vars a_u_marks a_u_outcomes a_u_indexes v_s_things v_s_looked v_s_lookedTooOften v_s_arraysMade v_s_cellsMade a_s_classes a_s_starts a_s_lengths a_s_cells a_L a_K a_vc a_vd a_si a_sj a_iv a_inn a_ac) H := by rw [hH]; exact hP
  have hS : va_S A s.heap H locs := by rw [hH, hlc]; exact hS
  refine wHL hH hlc ?_
  have b_g9 := iB g9
  refine lv_iload_n hx hb dX2_acceptPart_0 rfl (lv_at hl 1 rfl) ?_
  have J327 : ∀ (H : Heap) (locs : List Loc) (ls : Array Slot), va_P D vwCl (tw cs q v_t_tapeSize v_t_textSize v_t_faultKind a_t_tape a_t_text a_g_beyond v_g_size a_g_steps a_h_beyond v_h_size a_h_steps a_r_scratch a_r_now v_r_takes v_r_negative v_r_namePlace v_r_faultKind v_r_faultPlace v_a_size v_a_limit v_a_digits v_a_kind v_a_from v_a_to v_o_size a_o_out v_b_size v_b_limit v_b_digits v_b_kind v_b_from v_b_to a_u_atom a_u_other a_u_hand v_u_marksMade v_u_came v_u_guesses v_u_right v_u_taken a_u_vars a_u_marks a_u_outcomes a_u_indexes v_s_things v_s_looked v_s_lookedTooOften v_s_arraysMade v_s_cellsMade a_s_classes a_s_starts a_s_lengths a_s_cells a_L a_K a_vc a_vd a_si a_sj a_iv a_inn a_ac) H → va_D A (tw cs q v_t_tapeSize v_t_textSize v_t_faultKind a_t_tape a_t_text a_g_beyond v_g_size a_g_steps a_h_beyond v_h_size a_h_steps a_r_scratch a_r_now v_r_takes v_r_negative v_r_namePlace v_r_faultKind v_r_faultPlace v_a_size v_a_limit v_a_digits v_a_kind v_a_from v_a_to v_o_size a_o_out v_b_size v_b_limit v_b_digits v_b_kind v_b_from v_b_to a_u_atom a_u_other a_u_hand v_u_marksMade v_u_came v_u_guesses v_u_right v_u_taken a_u_vars a_u_marks a_u_outcomes a_u_indexes v_s_things v_s_looked v_s_lookedTooOften v_s_arraysMade v_s_cellsMade a_s_classes a_s_starts a_s_lengths a_s_cells a_L a_K a_vc a_vd a_si a_sj a_iv a_inn a_ac) → va_S A s.heap H locs → lv_has ls 2 [(0, .ref (q 7)), (1, .int g9)] → W p l e (headSpec (wG yX2_acceptPart cX2_acceptPart 2 (some .boolean)) rmX2_acceptPart).room s m ([.ref (q 7), .int g9] : List Value).toArray below meth c H locs 0 0 Q (F0 m 327 ls []) := by
    intro H locs ls hP hD hS hl
    refine lv_aload_n hx hb dX2_acceptPart_327 rfl (lv_at hl 0 rfl) ?_
    refine lv_aload_n hx hb dX2_acceptPart_328 rfl (lv_at hl 0 rfl) ?_
    refine va_get (D := D) (ci := 1) (v := .ref (q 8)) (C := RX2) (T := TX2) (N := 8) hx hb hts hinX2 hown hK hP 7 rfl rfl 0 (by decide) k_3_11 (fun _ h9 => h9) rfl dX2_acceptPart_329 ?_
    refine lv_iload_n hx hb dX2_acceptPart_332 rfl (lv_at hl 1 rfl) ?_
    refine call_i (As := [.int g9]) (rest := [.ref (q 7)]) ⟨hx, hb, hml, hown, hts⟩ (tX1_isSign_qa (l := l) g9 (by first | assumption | omega | (intros; omega) | decide)) (cwV 1 hts (gV (wr17 _ (List.mem_of_getElem? (i := 18) rfl)) (wr17 _ (List.mem_of_getElem? (i := 19) rfl)) (wr17 _ (List.mem_of_getElem? (i := 20) rfl)) (wr2 _ (List.mem_of_getElem? (i := 2) rfl)) (wr17 _ (List.mem_of_getElem? (i := 21) rfl))) rfl rfl rfl (by decide +kernel) ⟨Nat.le_of_ble_eq_true rfl, Nat.le_of_ble_eq_true rfl⟩) (va_recv hK hP (ci := 0) (q0 := 8) rfl rfl) hK hP hD hE hS hA rfl hl.1 rfl (Nat.le_of_ble_eq_true rfl) dX2_acceptPart_333 ⟨Nat.le_of_ble_eq_true rfl, Nat.le_of_ble_eq_true rfl⟩ (fun r333 w9 H locs hw333 hP hD hS => ?_)
    obtain ⟨rfl, hw333_0⟩ := hw333
    have b_r333 := iB r333
    refine call_i (As := [.int r333]) (rest := []) ⟨hx, hb, hml, hown, hts⟩ (tX2_acceptIf (l := l) r333) (cwV 1 hts (gV (wr19 _ (List.mem_of_getElem? (i := 12) rfl)) (wr19 _ (List.mem_of_getElem? (i := 13) rfl)) (wr19 _ (List.mem_of_getElem? (i := 14) rfl)) (wr1 _ (List.mem_of_getElem? (i := 23) rfl)) (wr19 _ (List.mem_of_getElem? (i := 15) rfl))) rfl rfl rfl (by decide +kernel) ⟨Nat.le_of_ble_eq_true rfl, Nat.le_of_ble_eq_true rfl⟩) (va_recv hK hP (ci := 1) (q0 := 7) rfl rfl) hK hP hD hE hS hA rfl hl.1 rfl (Nat.le_of_ble_eq_true rfl) dX2_acceptPart_336 ⟨Nat.le_of_ble_eq_true rfl, Nat.le_of_ble_eq_true rfl⟩ (fun r336 w9 H locs hw336 hP hD hS => ?_)
    obtain ⟨v_r_faultKind_336, v_r_faultPlace_336, rfl, hw336_0⟩ := hw336
    have b_v_r_faultKind_336 := iB v_r_faultKind_336
    have b_v_r_faultPlace_336 := iB v_r_faultPlace_336
    have b_r336 := iB r336
    subst hAe
    rw [hQ]
    exact W.zret (v := r336) hx hb hr (nbool (by first | omega | decide)) (fun t ht hW => ⟨⟨r336, _, rfl, ⟨v_r_namePlace, v_r_faultKind_336, v_r_faultPlace_336, a_si, a_sj, a_ac, rfl, by first | assumption | omega | (intros; omega) | decide, by first | assumption | omega | (intros; omega) | decide⟩, by rw [ht]; exact hP, va_K.moved hW.alike hK, hD⟩, hS.F ht⟩) hS.2.2 dX2_acceptPart_339
  rcases (show (g9.toInt < 97 ∨ 119 < g9.toInt) ∨ g9.toInt = 97 ∨ g9.toInt = 98 ∨ g9.toInt = 99 ∨ g9.toInt = 100 ∨ g9.toInt = 101 ∨ g9.toInt = 102 ∨ g9.toInt = 103 ∨ g9.toInt = 104 ∨ g9.toInt = 105 ∨ g9.toInt = 106 ∨ g9.toInt = 107 ∨ g9.toInt = 108 ∨ g9.toInt = 109 ∨ g9.toInt = 110 ∨ g9.toInt = 111 ∨ g9.toInt = 112 ∨ g9.toInt = 113 ∨ g9.toInt = 114 ∨ g9.toInt = 115 ∨ g9.toInt = 116 ∨ g9.toInt = 117 ∨ g9.toInt = 118 ∨ g9.toInt = 119 by omega) with c1 | c1 | c1 | c1 | c1 | c1 | c1 | c1 | c1 | c1 | c1 | c1 | c1 | c1 | c1 | c1 | c1 | c1 | c1 | c1 | c1 | c1 | c1 | c1
  · skip
    refine lv_tableOut (tgt := 327) hx hb dX2_acceptPart_1 c1 (by decide) ?_
    exact J327 H locs ls hP hD hS (lv_sub hl [0, 1] rfl)
  · skip
    refine lv_tableIn (tgt := 262) (off := 261) hx hb dX2_acceptPart_1 (by omega) (by omega) (by rw [c1]; rfl) (by decide) ?_
    refine lv_aload_n hx hb dX2_acceptPart_262 rfl (lv_at hl 0 rfl) ?_
    refine va_get (D := D) (ci := 1) (v := .ref (q 8)) (C := RX2) (T := TX2) (N := 8) hx hb hts hinX2 hown hK hP 7 rfl rfl 0 (by decide) k_3_11 (fun _ h9 => h9) rfl dX2_acceptPart_263 ?_
    refine va_get (D := D) (ci := 0) (v := .int v_a_kind) (C := RX1) (T := TX1) (N := 7) hx hb hts hinX1 hown hK hP 8 rfl rfl 4 (by decide) k_8_17 (fun _ h9 => h9) rfl dX2_acceptPart_266 ?_
    refine lv_iconst (v := 3) hx hb dX2_acceptPart_269 (by decide) ?_
    refine m_icmp_ne (X := v_a_kind.toInt) (Y := 3) (tgt := 280) hx hb dX2_acceptPart_270 (by decide) rfl (by decide) (fun c270 => ?_) (fun c270 => ?_)
    · skip
      refine lv_aload_n hx hb dX2_acceptPart_280 rfl (lv_at hl 0 rfl) ?_
      refine call_i (As := []) (rest := []) ⟨hx, hb, hml, hown, hts⟩ (tX2_acceptOtherAtom (l := l)  (by first | assumption | omega | (intros; omega) | decide) (by first | assumption | omega | (intros; omega) | decide) (by first | assumption | omega | (intros; omega) | decide)) (cwV 0 hts (gV (wr21 _ (List.mem_of_getElem? (i := 3) rfl)) (wr21 _ (List.mem_of_getElem? (i := 4) rfl)) (wr21 _ (List.mem_of_getElem? (i := 5) rfl)) (wr1 _ (List.mem_of_getElem? (i := 23) rfl)) (wr21 _ (List.mem_of_getElem? (i := 6) rfl))) rfl rfl rfl (by decide +kernel) ⟨Nat.le_of_ble_eq_true rfl, Nat.le_of_ble_eq_true rfl⟩) (va_recv hK hP (ci := 1) (q0 := 7) rfl rfl) hK hP hD hE hS hA rfl hl.1 rfl (Nat.le_of_ble_eq_true rfl) dX2_acceptPart_281 ⟨Nat.le_of_ble_eq_true rfl, Nat.le_of_ble_eq_true rfl⟩ (fun r281 w9 H locs hw281 hP hD hS => ?_)
      obtain ⟨v_r_faultKind_281, v_r_faultPlace_281, a_si_281, a_sj_281, rfl, hw281_0, hw281_1⟩ := hw281
      have b_v_r_faultKind_281 := iB v_r_faultKind_281
      have b_v_r_faultPlace_281 := iB v_r_faultPlace_281
      have b_r281 := iB r281
      subst hAe
      rw [hQ]
      exact W.zret (v := r281) hx hb hr (nbool (by first | omega | decide)) (fun t ht hW => ⟨⟨r281, _, rfl, ⟨v_r_namePlace, v_r_faultKind_281, v_r_faultPlace_281, a_si_281, a_sj_281, a_ac, rfl, by first | assumption | omega | (intros; omega) | decide, by first | assumption | omega | (intros; omega) | decide⟩, by rw [ht]; exact hP, va_K.moved hW.alike hK, hD⟩, hS.F ht⟩) hS.2.2 dX2_acceptPart_284
    · skip
      refine lv_aload_n hx hb dX2_acceptPart_273 rfl (lv_at hl 0 rfl) ?_
      refine call_i (As := []) (rest := []) ⟨hx, hb, hml, hown, hts⟩ (tX2_acceptNumber (l := l)  (by first | assumption | omega | (intros; omega) | decide) (by first | assumption | omega | (intros; omega) | decide) (by first | assumption | omega | (intros; omega) | decide) (by first | assumption | omega | (intros; omega) | decide)) (cwV 0 hts (gV (wr20 _ (List.mem_of_getElem? (i := 18) rfl)) (wr20 _ (List.mem_of_getElem? (i := 19) rfl)) (wr20 _ (List.mem_of_getElem? (i := 20) rfl)) (wr1 _ (List.mem_of_getElem? (i := 23) rfl)) (wr20 _ (List.mem_of_getElem? (i := 21) rfl))) rfl rfl rfl (by decide +kernel) ⟨Nat.le_of_ble_eq_true rfl, Nat.le_of_ble_eq_true rfl⟩) (va_recv hK hP (ci := 1) (q0 := 7) rfl rfl) hK hP hD hE hS hA rfl hl.1 rfl (Nat.le_of_ble_eq_true rfl) dX2_acceptPart_274 ⟨Nat.le_of_ble_eq_true rfl, Nat.le_of_ble_eq_true rfl⟩ (fun r274 w9 H locs hw274 hP hD hS => ?_)
      obtain ⟨v_r_faultKind_274, v_r_faultPlace_274, a_si_274, a_sj_274, rfl, hw274_0, hw274_1⟩ := hw274
      have b_v_r_faultKind_274 := iB v_r_faultKind_274
      have b_v_r_faultPlace_274 := iB v_r_faultPlace_274
      have b_r274 := iB r274
      refine lv_goto (tgt := 284) hx hb dX2_acceptPart_277 (by decide) ?_
      subst hAe
      rw [hQ]
      exact W.zret (v := r274) hx hb hr (nbool (by first | omega | decide)) (fun t ht hW => ⟨⟨r274, _, rfl, ⟨v_r_namePlace, v_r_faultKind_274, v_r_faultPlace_274, a_si_274, a_sj_274, a_ac, rfl, by first | assumption | omega | (intros; omega) | decide, by first | assumption | omega | (intros; omega) | decide⟩, by rw [ht]; exact hP, va_K.moved hW.alike hK, hD⟩, hS.F ht⟩) hS.2.2 dX2_acceptPart_284
  · skip
    refine lv_tableIn (tgt := 327) (off := 326) hx hb dX2_acceptPart_1 (by omega) (by omega) (by rw [c1]; rfl) (by decide) ?_
    exact J327 H locs ls hP hD hS (lv_sub hl [0, 1] rfl)
  · skip
    refine lv_tableIn (tgt := 327) (off := 326) hx hb dX2_acceptPart_1 (by omega) (by omega) (by rw [c1]; rfl) (by decide) ?_
    exact J327 H locs ls hP hD hS (lv_sub hl [0, 1] rfl)
  · skip
    refine lv_tableIn (tgt := 327) (off := 326) hx hb dX2_acceptPart_1 (by omega) (by omega) (by rw [c1]; rfl) (by decide) ?_
    exact J327 H locs ls hP hD hS (lv_sub hl [0, 1] rfl)
  · skip
    refine lv_tableIn (tgt := 327) (off := 326) hx hb dX2_acceptPart_1 (by omega) (by omega) (by rw [c1]; rfl) (by decide) ?_
    exact J327 H locs ls hP hD hS (lv_sub hl [0, 1] rfl)
  · skip
    refine lv_tableIn (tgt := 299) (off := 298) hx hb dX2_acceptPart_1 (by omega) (by omega) (by rw [c1]; rfl) (by decide) ?_
    refine lv_aload_n hx hb dX2_acceptPart_299 rfl (lv_at hl 0 rfl) ?_
    refine lv_aload_n hx hb dX2_acceptPart_300 rfl (lv_at hl 0 rfl) ?_
    refine va_get (D := D) (ci := 1) (v := .ref (q 8)) (C := RX2) (T := TX2) (N := 8) hx hb hts hinX2 hown hK hP 7 rfl rfl 0 (by decide) k_3_11 (fun _ h9 => h9) rfl dX2_acceptPart_301 ?_
    refine va_ldcS hx hb hown (ld_25 hE) dX2_acceptPart_304 ?_
    refine call_i (As := [.ref (K 0 25)]) (rest := [.ref (q 7)]) ⟨hx, hb, hml, hown, hts⟩ (tX1_isWord_qa (l := l) 25 so_25 (by first | assumption | omega | (intros; omega) | decide)) (cwV 1 hts (gV (wr14 _ (List.mem_of_getElem? (i := 7) rfl)) (wr14 _ (List.mem_of_getElem? (i := 8) rfl)) (wr14 _ (List.mem_of_getElem? (i := 9) rfl)) (wr2 _ (List.mem_of_getElem? (i := 2) rfl)) (wr14 _ (List.mem_of_getElem? (i := 10) rfl))) rfl rfl rfl (by decide +kernel) ⟨Nat.le_of_ble_eq_true rfl, Nat.le_of_ble_eq_true rfl⟩) (va_recv hK hP (ci := 0) (q0 := 8) rfl rfl) hK hP hD hE hS hA rfl hl.1 rfl (Nat.le_of_ble_eq_true rfl) dX2_acceptPart_306 ⟨Nat.le_of_ble_eq_true rfl, Nat.le_of_ble_eq_true rfl⟩ (fun r306 w9 H locs hw306 hP hD hS => ?_)
    obtain ⟨rfl, hw306_0⟩ := hw306
    have b_r306 := iB r306
    refine call_i (As := [.int r306]) (rest := []) ⟨hx, hb, hml, hown, hts⟩ (tX2_acceptIf (l := l) r306) (cwV 1 hts (gV (wr19 _ (List.mem_of_getElem? (i := 12) rfl)) (wr19 _ (List.mem_of_getElem? (i := 13) rfl)) (wr19 _ (List.mem_of_getElem? (i := 14) rfl)) (wr1 _ (List.mem_of_getElem? (i := 23) rfl)) (wr19 _ (List.mem_of_getElem? (i := 15) rfl))) rfl rfl rfl (by decide +kernel) ⟨Nat.le_of_ble_eq_true rfl, Nat.le_of_ble_eq_true rfl⟩) (va_recv hK hP (ci := 1) (q0 := 7) rfl rfl) hK hP hD hE hS hA rfl hl.1 rfl (Nat.le_of_ble_eq_true rfl) dX2_acceptPart_309 ⟨Nat.le_of_ble_eq_true rfl, Nat.le_of_ble_eq_true rfl⟩ (fun r309 w9 H locs hw309 hP hD hS => ?_)
    obtain ⟨v_r_faultKind_309, v_r_faultPlace_309, rfl, hw309_0⟩ := hw309
    have b_v_r_faultKind_309 := iB v_r_faultKind_309
    have b_v_r_faultPlace_309 := iB v_r_faultPlace_309
    have b_r309 := iB r309
    subst hAe
    rw [hQ]
    exact W.zret (v := r309) hx hb hr (nbool (by first | omega | decide)) (fun t ht hW => ⟨⟨r309, _, rfl, ⟨v_r_namePlace, v_r_faultKind_309, v_r_faultPlace_309, a_si, a_sj, a_ac, rfl, by first | assumption | omega | (intros; omega) | decide, by first | assumption | omega | (intros; omega) | decide⟩, by rw [ht]; exact hP, va_K.moved hW.alike hK, hD⟩, hS.F ht⟩) hS.2.2 dX2_acceptPart_312
  · skip
    refine lv_tableIn (tgt := 327) (off := 326) hx hb dX2_acceptPart_1 (by omega) (by omega) (by rw [c1]; rfl) (by decide) ?_
    exact J327 H locs ls hP hD hS (lv_sub hl [0, 1] rfl)
  · skip
    refine lv_tableIn (tgt := 313) (off := 312) hx hb dX2_acceptPart_1 (by omega) (by omega) (by rw [c1]; rfl) (by decide) ?_
    refine lv_aload_n hx hb dX2_acceptPart_313 rfl (lv_at hl 0 rfl) ?_
    refine lv_aload_n hx hb dX2_acceptPart_314 rfl (lv_at hl 0 rfl) ?_
    refine va_get (D := D) (ci := 1) (v := .ref (q 8)) (C := RX2) (T := TX2) (N := 8) hx hb hts hinX2 hown hK hP 7 rfl rfl 0 (by decide) k_3_11 (fun _ h9 => h9) rfl dX2_acceptPart_315 ?_
    refine va_ldcS hx hb hown (ld_26 hE) dX2_acceptPart_318 ?_
    refine call_i (As := [.ref (K 0 26)]) (rest := [.ref (q 7)]) ⟨hx, hb, hml, hown, hts⟩ (tX1_isWord_qa (l := l) 26 so_26 (by first | assumption | omega | (intros; omega) | decide)) (cwV 1 hts (gV (wr14 _ (List.mem_of_getElem? (i := 7) rfl)) (wr14 _ (List.mem_of_getElem? (i := 8) rfl)) (wr14 _ (List.mem_of_getElem? (i := 9) rfl)) (wr2 _ (List.mem_of_getElem? (i := 2) rfl)) (wr14 _ (List.mem_of_getElem? (i := 10) rfl))) rfl rfl rfl (by decide +kernel) ⟨Nat.le_of_ble_eq_true rfl, Nat.le_of_ble_eq_true rfl⟩) (va_recv hK hP (ci := 0) (q0 := 8) rfl rfl) hK hP hD hE hS hA rfl hl.1 rfl (Nat.le_of_ble_eq_true rfl) dX2_acceptPart_320 ⟨Nat.le_of_ble_eq_true rfl, Nat.le_of_ble_eq_true rfl⟩ (fun r320 w9 H locs hw320 hP hD hS => ?_)
    obtain ⟨rfl, hw320_0⟩ := hw320
    have b_r320 := iB r320
    refine call_i (As := [.int r320]) (rest := []) ⟨hx, hb, hml, hown, hts⟩ (tX2_acceptIf (l := l) r320) (cwV 1 hts (gV (wr19 _ (List.mem_of_getElem? (i := 12) rfl)) (wr19 _ (List.mem_of_getElem? (i := 13) rfl)) (wr19 _ (List.mem_of_getElem? (i := 14) rfl)) (wr1 _ (List.mem_of_getElem? (i := 23) rfl)) (wr19 _ (List.mem_of_getElem? (i := 15) rfl))) rfl rfl rfl (by decide +kernel) ⟨Nat.le_of_ble_eq_true rfl, Nat.le_of_ble_eq_true rfl⟩) (va_recv hK hP (ci := 1) (q0 := 7) rfl rfl) hK hP hD hE hS hA rfl hl.1 rfl (Nat.le_of_ble_eq_true rfl) dX2_acceptPart_323 ⟨Nat.le_of_ble_eq_true rfl, Nat.le_of_ble_eq_true rfl⟩ (fun r323 w9 H locs hw323 hP hD hS => ?_)
    obtain ⟨v_r_faultKind_323, v_r_faultPlace_323, rfl, hw323_0⟩ := hw323
    have b_v_r_faultKind_323 := iB v_r_faultKind_323
    have b_v_r_faultPlace_323 := iB v_r_faultPlace_323
    have b_r323 := iB r323
    subst hAe
    rw [hQ]
    exact W.zret (v := r323) hx hb hr (nbool (by first | omega | decide)) (fun t ht hW => ⟨⟨r323, _, rfl, ⟨v_r_namePlace, v_r_faultKind_323, v_r_faultPlace_323, a_si, a_sj, a_ac, rfl, by first | assumption | omega | (intros; omega) | decide, by first | assumption | omega | (intros; omega) | decide⟩, by rw [ht]; exact hP, va_K.moved hW.alike hK, hD⟩, hS.F ht⟩) hS.2.2 dX2_acceptPart_326
  · skip
    refine lv_tableIn (tgt := 257) (off := 256) hx hb dX2_acceptPart_1 (by omega) (by omega) (by rw [c1]; rfl) (by decide) ?_
    refine lv_aload_n hx hb dX2_acceptPart_257 rfl (lv_at hl 0 rfl) ?_
    refine call_i (As := []) (rest := []) ⟨hx, hb, hml, hown, hts⟩ (tX2_acceptIndex (l := l)  (by first | assumption | omega | (intros; omega) | decide) (by first | assumption | omega | (intros; omega) | decide) (by first | assumption | omega | (intros; omega) | decide)) (cwV 0 hts (gV (wr19 _ (List.mem_of_getElem? (i := 19) rfl)) (wr19 _ (List.mem_of_getElem? (i := 20) rfl)) (wr19 _ (List.mem_of_getElem? (i := 21) rfl)) (wr1 _ (List.mem_of_getElem? (i := 23) rfl)) (wr19 _ (List.mem_of_getElem? (i := 22) rfl))) rfl rfl rfl (by decide +kernel) ⟨Nat.le_of_ble_eq_true rfl, Nat.le_of_ble_eq_true rfl⟩) (va_recv hK hP (ci := 1) (q0 := 7) rfl rfl) hK hP hD hE hS hA rfl hl.1 rfl (Nat.le_of_ble_eq_true rfl) dX2_acceptPart_258 ⟨Nat.le_of_ble_eq_true rfl, Nat.le_of_ble_eq_true rfl⟩ (fun r258 w9 H locs hw258 hP hD hS => ?_)
    obtain ⟨v_r_faultKind_258, v_r_faultPlace_258, a_si_258, a_ac_258, rfl, hw258_0, hw258_1⟩ := hw258
    have b_v_r_faultKind_258 := iB v_r_faultKind_258
    have b_v_r_faultPlace_258 := iB v_r_faultPlace_258
    have b_r258 := iB r258
    subst hAe
    rw [hQ]
    exact W.zret (v := r258) hx hb hr (nbool (by first | omega | decide)) (fun t ht hW => ⟨⟨r258, _, rfl, ⟨v_r_namePlace, v_r_faultKind_258, v_r_faultPlace_258, a_si_258, a_sj, a_ac_258, rfl, by first | assumption | omega | (intros; omega) | decide, by first | assumption | omega | (intros; omega) | decide⟩, by rw [ht]; exact hP, va_K.moved hW.alike hK, hD⟩, hS.F ht⟩) hS.2.2 dX2_acceptPart_261
  · skip
    refine lv_tableIn (tgt := 327) (off := 326) hx hb dX2_acceptPart_1 (by omega) (by omega) (by rw [c1]; rfl) (by decide) ?_
    exact J327 H locs ls hP hD hS (lv_sub hl [0, 1] rfl)
  · skip
    refine lv_tableIn (tgt := 178) (off := 177) hx hb dX2_acceptPart_1 (by omega) (by omega) (by rw [c1]; rfl) (by decide) ?_
    refine lv_aload_n hx hb dX2_acceptPart_178 rfl (lv_at hl 0 rfl) ?_
    have hf179 : aS a_L a_K a_r_now := by first | assumption
    refine va_get (D := D) (ci := 1) (v := .ref a_r_now) (C := RX2) (T := TX2) (N := 8) hx hb hts hinX2 hown hK hP 7 rfl rfl 2 (by decide) k_3_14 (fun _ h9 => h9) rfl dX2_acceptPart_179 ?_
    refine lv_aload_n hx hb dX2_acceptPart_182 rfl (lv_at hl 0 rfl) ?_
    refine va_get (D := D) (ci := 1) (v := .ref (q 8)) (C := RX2) (T := TX2) (N := 8) hx hb hts hinX2 hown hK hP 7 rfl rfl 0 (by decide) k_3_11 (fun _ h9 => h9) rfl dX2_acceptPart_183 ?_
    refine va_ldcS hx hb hown (ld_22 hE) dX2_acceptPart_186 ?_
    refine call_i (As := [.ref (K 0 22)]) (rest := [.ref a_r_now]) ⟨hx, hb, hml, hown, hts⟩ (tX1_wordIn_qa (l := l) 22 so_22 (by first | assumption | omega | (intros; omega) | decide)) (cwV 1 hts (gV (wr15 _ (List.mem_of_getElem? (i := 16) rfl)) (wr14 _ (List.mem_of_getElem? (i := 12) rfl)) (wr14 _ (List.mem_of_getElem? (i := 13) rfl)) (wr2 _ (List.mem_of_getElem? (i := 2) rfl)) (wr14 _ (List.mem_of_getElem? (i := 14) rfl))) rfl rfl rfl (by decide +kernel) ⟨Nat.le_of_ble_eq_true rfl, Nat.le_of_ble_eq_true rfl⟩) (va_recv hK hP (ci := 0) (q0 := 8) rfl rfl) hK hP hD hE hS hA rfl hl.1 rfl (Nat.le_of_ble_eq_true rfl) dX2_acceptPart_188 ⟨Nat.le_of_ble_eq_true rfl, Nat.le_of_ble_eq_true rfl⟩ (fun r188 w9 H locs hw188 hP hD hS => ?_)
    obtain ⟨rfl, hw188_0, hw188_1⟩ := hw188
    have b_r188 := iB r188
    obtain ⟨k191_, hk191_⟩ := pl_S (X := (twX cs q v_t_tapeSize v_t_textSize v_t_faultKind a_t_tape a_t_text a_g_beyond v_g_size a_g_steps a_h_beyond v_h_size a_h_steps a_r_scratch a_r_now v_r_takes v_r_negative v_r_namePlace v_r_faultKind v_r_faultPlace v_a_size v_a_limit v_a_digits v_a_kind v_a_from v_a_to v_o_size a_o_out v_b_size v_b_limit v_b_digits v_b_kind v_b_from v_b_to a_u_atom a_u_other a_u_hand v_u_marksMade v_u_came v_u_guesses v_u_right v_u_taken a_u_vars a_u_marks a_u_outcomes a_u_indexes v_s_things v_s_looked v_s_lookedTooOften v_s_arraysMade v_s_cellsMade a_s_classes a_s_starts a_s_lengths a_s_cells)) (cI := cs 0) (vc := a_vc) (vd := a_vd) (si := a_si) (sj := a_sj) (iv := a_iv) (inn := a_inn) (ac := a_ac) hf179
    have hDk := hD
    refine va_put (D := D) (ci := 5) (v := .int r188) (ty := .int) (C := RX6) (T := TX6) (N := 15) hx hb hts hinX6 tyX6 tyX6_ok nmX6 hown hK hP hD hS k191_ hk191_ rfl 7 (by decide) k_19_1 (fun _ h9 => h9) rfl (by decide +kernel) rfl rfl (Nat.le_of_ble_eq_true rfl) dX2_acceptPart_191 (fun H locs hP hD hS => ?_)
    obtain ⟨a_si_191, e_a_si_191⟩ : ∃ g, g = up2 a_si a_r_now 7 r188 := ⟨_, rfl⟩
    have hP : va_P D vwCl (tw cs q v_t_tapeSize v_t_textSize v_t_faultKind a_t_tape a_t_text a_g_beyond v_g_size a_g_steps a_h_beyond v_h_size a_h_steps a_r_scratch a_r_now v_r_takes v_r_negative v_r_namePlace v_r_faultKind v_r_faultPlace v_a_size v_a_limit v_a_digits v_a_kind v_a_from v_a_to v_o_size a_o_out v_b_size v_b_limit v_b_digits v_b_kind v_b_from v_b_to a_u_atom a_u_other a_u_hand v_u_marksMade v_u_came v_u_guesses v_u_right v_u_taken a_u_vars a_u_marks a_u_outcomes a_u_indexes v_s_things v_s_looked v_s_lookedTooOften v_s_arraysMade v_s_cellsMade a_s_classes a_s_starts a_s_lengths a_s_cells a_L a_K a_vc a_vd a_si_191 a_sj a_iv a_inn a_ac) H := by rw [e_a_si_191]; exact vaP_eq (pu_cls_ hDk hf179 hk191_ _) hP
    have hD : va_D A (tw cs q v_t_tapeSize v_t_textSize v_t_faultKind a_t_tape a_t_text a_g_beyond v_g_size a_g_steps a_h_beyond v_h_size a_h_steps a_r_scratch a_r_now v_r_takes v_r_negative v_r_namePlace v_r_faultKind v_r_faultPlace v_a_size v_a_limit v_a_digits v_a_kind v_a_from v_a_to v_o_size a_o_out v_b_size v_b_limit v_b_digits v_b_kind v_b_from v_b_to a_u_atom a_u_other a_u_hand v_u_marksMade v_u_came v_u_guesses v_u_right v_u_taken a_u_vars a_u_marks a_u_outcomes a_u_indexes v_s_things v_s_looked v_s_lookedTooOften v_s_arraysMade v_s_cellsMade a_s_classes a_s_starts a_s_lengths a_s_cells a_L a_K a_vc a_vd a_si_191 a_sj a_iv a_inn a_ac) := by rw [e_a_si_191]; exact vaD_eq (pu_cls_ hDk hf179 hk191_ _) hD
    have hPI : PI a_L a_K a_si_191 a_iv a_inn := by exact PI.up (by assumption) e_a_si_191 (by decide)
    refine lv_aload_n hx hb dX2_acceptPart_194 rfl (lv_at hl 0 rfl) ?_
    refine lv_aload_n hx hb dX2_acceptPart_195 rfl (lv_at hl 0 rfl) ?_
    have hf196 : aS a_L a_K a_r_now := by first | assumption
    refine va_get (D := D) (ci := 1) (v := .ref a_r_now) (C := RX2) (T := TX2) (N := 8) hx hb hts hinX2 hown hK hP 7 rfl rfl 2 (by decide) k_3_14 (fun _ h9 => h9) rfl dX2_acceptPart_196 ?_
    obtain ⟨k199_, hk199_⟩ := pl_S (X := (twX cs q v_t_tapeSize v_t_textSize v_t_faultKind a_t_tape a_t_text a_g_beyond v_g_size a_g_steps a_h_beyond v_h_size a_h_steps a_r_scratch a_r_now v_r_takes v_r_negative v_r_namePlace v_r_faultKind v_r_faultPlace v_a_size v_a_limit v_a_digits v_a_kind v_a_from v_a_to v_o_size a_o_out v_b_size v_b_limit v_b_digits v_b_kind v_b_from v_b_to a_u_atom a_u_other a_u_hand v_u_marksMade v_u_came v_u_guesses v_u_right v_u_taken a_u_vars a_u_marks a_u_outcomes a_u_indexes v_s_things v_s_looked v_s_lookedTooOften v_s_arraysMade v_s_cellsMade a_s_classes a_s_starts a_s_lengths a_s_cells)) (cI := cs 0) (vc := a_vc) (vd := a_vd) (si := a_si_191) (sj := a_sj) (iv := a_iv) (inn := a_inn) (ac := a_ac) hf196
    refine va_get (D := D) (ci := 5) (v := .int (a_si_191 a_r_now 7)) (C := RX6) (T := TX6) (N := 15) hx hb hts hinX6 hown hK hP k199_ hk199_ rfl 7 (by decide) k_19_1 (fun _ h9 => h9) rfl dX2_acceptPart_199 ?_
    refine lv_topi (fun x199 e_x199 => ?_)
    have b_x199 := iB x199
    refine call_iSP (As := [.int x199]) (rest := [.ref (q 7)]) ⟨hx, hb, hml, hown, hts⟩ (tX0_isNumber (l := l) x199) (va_cwS 1 hts (gS (wr19 _ (List.mem_of_getElem? (i := 16) rfl)) (wr19 _ (List.mem_of_getElem? (i := 17) rfl)) (wr19 _ (List.mem_of_getElem? (i := 5) rfl)) (wr19 _ (List.mem_of_getElem? (i := 18) rfl))) rfl rfl rfl (by decide +kernel) ⟨Nat.le_of_ble_eq_true rfl, Nat.le_of_ble_eq_true rfl⟩) (hK.sub [] rfl) hP hD hE hS hA rfl hl.1 rfl (Nat.le_of_ble_eq_true rfl) dX2_acceptPart_202 ⟨Nat.le_of_ble_eq_true rfl, Nat.le_of_ble_eq_true rfl⟩ (fun r202 w9 H locs hw202 hP hD hS => ?_)
    obtain ⟨rfl, hw202_0⟩ := hw202
    have b_r202 := iB r202
    refine call_i (As := [.int r202]) (rest := []) ⟨hx, hb, hml, hown, hts⟩ (tX2_acceptIf (l := l) r202) (cwV 1 hts (gV (wr19 _ (List.mem_of_getElem? (i := 12) rfl)) (wr19 _ (List.mem_of_getElem? (i := 13) rfl)) (wr19 _ (List.mem_of_getElem? (i := 14) rfl)) (wr1 _ (List.mem_of_getElem? (i := 23) rfl)) (wr19 _ (List.mem_of_getElem? (i := 15) rfl))) rfl rfl rfl (by decide +kernel) ⟨Nat.le_of_ble_eq_true rfl, Nat.le_of_ble_eq_true rfl⟩) (va_recv hK hP (ci := 1) (q0 := 7) rfl rfl) hK hP hD hE hS hA rfl hl.1 rfl (Nat.le_of_ble_eq_true rfl) dX2_acceptPart_205 ⟨Nat.le_of_ble_eq_true rfl, Nat.le_of_ble_eq_true rfl⟩ (fun r205 w9 H locs hw205 hP hD hS => ?_)
    obtain ⟨v_r_faultKind_205, v_r_faultPlace_205, rfl, hw205_0⟩ := hw205
    have b_v_r_faultKind_205 := iB v_r_faultKind_205
    have b_v_r_faultPlace_205 := iB v_r_faultPlace_205
    have b_r205 := iB r205
    subst hAe
    rw [hQ]
    exact W.zret (v := r205) hx hb hr (nbool (by first | omega | decide)) (fun t ht hW => ⟨⟨r205, _, rfl, ⟨v_r_namePlace, v_r_faultKind_205, v_r_faultPlace_205, a_si_191, a_sj, a_ac, rfl, by first | assumption | omega | (intros; omega) | decide, by first | assumption | omega | (intros; omega) | decide⟩, by rw [ht]; exact hP, va_K.moved hW.alike hK, hD⟩, hS.F ht⟩) hS.2.2 dX2_acceptPart_208
  · skip
    refine lv_tableIn (tgt := 327) (off := 326) hx hb dX2_acceptPart_1 (by omega) (by omega) (by rw [c1]; rfl) (by decide) ?_
    exact J327 H locs ls hP hD hS (lv_sub hl [0, 1] rfl)
  · skip
    refine lv_tableIn (tgt := 327) (off := 326) hx hb dX2_acceptPart_1 (by omega) (by omega) (by rw [c1]; rfl) (by decide) ?_
    exact J327 H locs ls hP hD hS (lv_sub hl [0, 1] rfl)
  · skip
    refine lv_tableIn (tgt := 209) (off := 208) hx hb dX2_acceptPart_1 (by omega) (by omega) (by rw [c1]; rfl) (by decide) ?_
    refine lv_aload_n hx hb dX2_acceptPart_209 rfl (lv_at hl 0 rfl) ?_
    have hf210 : aS a_L a_K a_r_now := by first | assumption
    refine va_get (D := D) (ci := 1) (v := .ref a_r_now) (C := RX2) (T := TX2) (N := 8) hx hb hts hinX2 hown hK hP 7 rfl rfl 2 (by decide) k_3_14 (fun _ h9 => h9) rfl dX2_acceptPart_210 ?_
    refine lv_aload_n hx hb dX2_acceptPart_213 rfl (lv_at hl 0 rfl) ?_
    refine va_get (D := D) (ci := 1) (v := .ref (q 8)) (C := RX2) (T := TX2) (N := 8) hx hb hts hinX2 hown hK hP 7 rfl rfl 0 (by decide) k_3_11 (fun _ h9 => h9) rfl dX2_acceptPart_214 ?_
    refine va_ldcS hx hb hown (ld_22 hE) dX2_acceptPart_217 ?_
    refine call_i (As := [.ref (K 0 22)]) (rest := [.ref a_r_now]) ⟨hx, hb, hml, hown, hts⟩ (tX1_wordIn_qa (l := l) 22 so_22 (by first | assumption | omega | (intros; omega) | decide)) (cwV 1 hts (gV (wr15 _ (List.mem_of_getElem? (i := 16) rfl)) (wr14 _ (List.mem_of_getElem? (i := 12) rfl)) (wr14 _ (List.mem_of_getElem? (i := 13) rfl)) (wr2 _ (List.mem_of_getElem? (i := 2) rfl)) (wr14 _ (List.mem_of_getElem? (i := 14) rfl))) rfl rfl rfl (by decide +kernel) ⟨Nat.le_of_ble_eq_true rfl, Nat.le_of_ble_eq_true rfl⟩) (va_recv hK hP (ci := 0) (q0 := 8) rfl rfl) hK hP hD hE hS hA rfl hl.1 rfl (Nat.le_of_ble_eq_true rfl) dX2_acceptPart_219 ⟨Nat.le_of_ble_eq_true rfl, Nat.le_of_ble_eq_true rfl⟩ (fun r219 w9 H locs hw219 hP hD hS => ?_)
    obtain ⟨rfl, hw219_0, hw219_1⟩ := hw219
    have b_r219 := iB r219
    obtain ⟨k222_, hk222_⟩ := pl_S (X := (twX cs q v_t_tapeSize v_t_textSize v_t_faultKind a_t_tape a_t_text a_g_beyond v_g_size a_g_steps a_h_beyond v_h_size a_h_steps a_r_scratch a_r_now v_r_takes v_r_negative v_r_namePlace v_r_faultKind v_r_faultPlace v_a_size v_a_limit v_a_digits v_a_kind v_a_from v_a_to v_o_size a_o_out v_b_size v_b_limit v_b_digits v_b_kind v_b_from v_b_to a_u_atom a_u_other a_u_hand v_u_marksMade v_u_came v_u_guesses v_u_right v_u_taken a_u_vars a_u_marks a_u_outcomes a_u_indexes v_s_things v_s_looked v_s_lookedTooOften v_s_arraysMade v_s_cellsMade a_s_classes a_s_starts a_s_lengths a_s_cells)) (cI := cs 0) (vc := a_vc) (vd := a_vd) (si := a_si) (sj := a_sj) (iv := a_iv) (inn := a_inn) (ac := a_ac) hf210
    have hDk := hD
    refine va_put (D := D) (ci := 5) (v := .int r219) (ty := .int) (C := RX6) (T := TX6) (N := 15) hx hb hts hinX6 tyX6 tyX6_ok nmX6 hown hK hP hD hS k222_ hk222_ rfl 7 (by decide) k_19_1 (fun _ h9 => h9) rfl (by decide +kernel) rfl rfl (Nat.le_of_ble_eq_true rfl) dX2_acceptPart_222 (fun H locs hP hD hS => ?_)
    obtain ⟨a_si_222, e_a_si_222⟩ : ∃ g, g = up2 a_si a_r_now 7 r219 := ⟨_, rfl⟩
    have hP : va_P D vwCl (tw cs q v_t_tapeSize v_t_textSize v_t_faultKind a_t_tape a_t_text a_g_beyond v_g_size a_g_steps a_h_beyond v_h_size a_h_steps a_r_scratch a_r_now v_r_takes v_r_negative v_r_namePlace v_r_faultKind v_r_faultPlace v_a_size v_a_limit v_a_digits v_a_kind v_a_from v_a_to v_o_size a_o_out v_b_size v_b_limit v_b_digits v_b_kind v_b_from v_b_to a_u_atom a_u_other a_u_hand v_u_marksMade v_u_came v_u_guesses v_u_right v_u_taken a_u_vars a_u_marks a_u_outcomes a_u_indexes v_s_things v_s_looked v_s_lookedTooOften v_s_arraysMade v_s_cellsMade a_s_classes a_s_starts a_s_lengths a_s_cells a_L a_K a_vc a_vd a_si_222 a_sj a_iv a_inn a_ac) H := by rw [e_a_si_222]; exact vaP_eq (pu_cls_ hDk hf210 hk222_ _) hP
    have hD : va_D A (tw cs q v_t_tapeSize v_t_textSize v_t_faultKind a_t_tape a_t_text a_g_beyond v_g_size a_g_steps a_h_beyond v_h_size a_h_steps a_r_scratch a_r_now v_r_takes v_r_negative v_r_namePlace v_r_faultKind v_r_faultPlace v_a_size v_a_limit v_a_digits v_a_kind v_a_from v_a_to v_o_size a_o_out v_b_size v_b_limit v_b_digits v_b_kind v_b_from v_b_to a_u_atom a_u_other a_u_hand v_u_marksMade v_u_came v_u_guesses v_u_right v_u_taken a_u_vars a_u_marks a_u_outcomes a_u_indexes v_s_things v_s_looked v_s_lookedTooOften v_s_arraysMade v_s_cellsMade a_s_classes a_s_starts a_s_lengths a_s_cells a_L a_K a_vc a_vd a_si_222 a_sj a_iv a_inn a_ac) := by rw [e_a_si_222]; exact vaD_eq (pu_cls_ hDk hf210 hk222_ _) hD
    have hPI : PI a_L a_K a_si_222 a_iv a_inn := by exact PI.up (by assumption) e_a_si_222 (by decide)
    refine lv_aload_n hx hb dX2_acceptPart_225 rfl (lv_at hl 0 rfl) ?_
    refine lv_aload_n hx hb dX2_acceptPart_226 rfl (lv_at hl 0 rfl) ?_
    refine va_get (D := D) (ci := 1) (v := .ref (q 8)) (C := RX2) (T := TX2) (N := 8) hx hb hts hinX2 hown hK hP 7 rfl rfl 0 (by decide) k_3_11 (fun _ h9 => h9) rfl dX2_acceptPart_227 ?_
    refine va_get (D := D) (ci := 0) (v := .int v_a_from) (C := RX1) (T := TX1) (N := 7) hx hb hts hinX1 hown hK hP 8 rfl rfl 5 (by decide) k_8_18 (fun _ h9 => h9) rfl dX2_acceptPart_230 ?_
    refine va_put (D := D) (ci := 1) (v := .int v_a_from) (ty := .int) (C := RX2) (T := TX2) (N := 8) hx hb hts hinX2 tyX2 tyX2_ok nmX2 hown hK hP hD hS 7 rfl rfl 5 (by decide) k_19_2 (fun _ h9 => h9) rfl (by decide +kernel) rfl rfl (Nat.le_of_ble_eq_true rfl) dX2_acceptPart_233 (fun H locs hP hD hS => ?_)
    have hP : va_P D vwCl (tw cs q v_t_tapeSize v_t_textSize v_t_faultKind a_t_tape a_t_text a_g_beyond v_g_size a_g_steps a_h_beyond v_h_size a_h_steps a_r_scratch a_r_now v_r_takes v_r_negative v_a_from v_r_faultKind v_r_faultPlace v_a_size v_a_limit v_a_digits v_a_kind v_a_from v_a_to v_o_size a_o_out v_b_size v_b_limit v_b_digits v_b_kind v_b_from v_b_to a_u_atom a_u_other a_u_hand v_u_marksMade v_u_came v_u_guesses v_u_right v_u_taken a_u_vars a_u_marks a_u_outcomes a_u_indexes v_s_things v_s_looked v_s_lookedTooOften v_s_arraysMade v_s_cellsMade a_s_classes a_s_starts a_s_lengths a_s_cells a_L a_K a_vc a_vd a_si_222 a_sj a_iv a_inn a_ac) H := hP
    have hD : va_D A (tw cs q v_t_tapeSize v_t_textSize v_t_faultKind a_t_tape a_t_text a_g_beyond v_g_size a_g_steps a_h_beyond v_h_size a_h_steps a_r_scratch a_r_now v_r_takes v_r_negative v_a_from v_r_faultKind v_r_faultPlace v_a_size v_a_limit v_a_digits v_a_kind v_a_from v_a_to v_o_size a_o_out v_b_size v_b_limit v_b_digits v_b_kind v_b_from v_b_to a_u_atom a_u_other a_u_hand v_u_marksMade v_u_came v_u_guesses v_u_right v_u_taken a_u_vars a_u_marks a_u_outcomes a_u_indexes v_s_things v_s_looked v_s_lookedTooOften v_s_arraysMade v_s_cellsMade a_s_classes a_s_starts a_s_lengths a_s_cells a_L a_K a_vc a_vd a_si_222 a_sj a_iv a_inn a_ac) := hD
    refine lv_aload_n hx hb dX2_acceptPart_236 rfl (lv_at hl 0 rfl) ?_
    refine lv_aload_n hx hb dX2_acceptPart_237 rfl (lv_at hl 0 rfl) ?_
    have hf238 : aS a_L a_K a_r_now := by first | assumption
    refine va_get (D := D) (ci := 1) (v := .ref a_r_now) (C := RX2) (T := TX2) (N := 8) hx hb hts hinX2 hown hK hP 7 rfl rfl 2 (by decide) k_3_14 (fun _ h9 => h9) rfl dX2_acceptPart_238 ?_
    obtain ⟨k241_, hk241_⟩ := pl_S (X := (twX cs q v_t_tapeSize v_t_textSize v_t_faultKind a_t_tape a_t_text a_g_beyond v_g_size a_g_steps a_h_beyond v_h_size a_h_steps a_r_scratch a_r_now v_r_takes v_r_negative v_a_from v_r_faultKind v_r_faultPlace v_a_size v_a_limit v_a_digits v_a_kind v_a_from v_a_to v_o_size a_o_out v_b_size v_b_limit v_b_digits v_b_kind v_b_from v_b_to a_u_atom a_u_other a_u_hand v_u_marksMade v_u_came v_u_guesses v_u_right v_u_taken a_u_vars a_u_marks a_u_outcomes a_u_indexes v_s_things v_s_looked v_s_lookedTooOften v_s_arraysMade v_s_cellsMade a_s_classes a_s_starts a_s_lengths a_s_cells)) (cI := cs 0) (vc := a_vc) (vd := a_vd) (si := a_si_222) (sj := a_sj) (iv := a_iv) (inn := a_inn) (ac := a_ac) hf238
    refine va_get (D := D) (ci := 5) (v := .int (a_si_222 a_r_now 7)) (C := RX6) (T := TX6) (N := 15) hx hb hts hinX6 hown hK hP k241_ hk241_ rfl 7 (by decide) k_19_1 (fun _ h9 => h9) rfl dX2_acceptPart_241 ?_
    refine lv_topi (fun x241 e_x241 => ?_)
    have b_x241 := iB x241
    refine lv_iconst (v := (-1)) hx hb dX2_acceptPart_244 (by decide) ?_
    refine m_icmp_eq (X := x241.toInt) (Y := (-1)) (tgt := 252) hx hb dX2_acceptPart_245 (by decide) rfl (by decide) (fun c245 => ?_) (fun c245 => ?_)
    · skip
      refine lv_iconst (v := 0) hx hb dX2_acceptPart_252 (by decide) ?_
      refine call_i (As := [.int 0]) (rest := []) ⟨hx, hb, hml, hown, hts⟩ (tX2_acceptIf (l := l) (0 : Int32)) (cwV 1 hts (gV (wr19 _ (List.mem_of_getElem? (i := 12) rfl)) (wr19 _ (List.mem_of_getElem? (i := 13) rfl)) (wr19 _ (List.mem_of_getElem? (i := 14) rfl)) (wr1 _ (List.mem_of_getElem? (i := 23) rfl)) (wr19 _ (List.mem_of_getElem? (i := 15) rfl))) rfl rfl rfl (by decide +kernel) ⟨Nat.le_of_ble_eq_true rfl, Nat.le_of_ble_eq_true rfl⟩) (va_recv hK hP (ci := 1) (q0 := 7) rfl rfl) hK hP hD hE hS hA rfl hl.1 rfl (Nat.le_of_ble_eq_true rfl) dX2_acceptPart_253 ⟨Nat.le_of_ble_eq_true rfl, Nat.le_of_ble_eq_true rfl⟩ (fun r253 w9 H locs hw253 hP hD hS => ?_)
      obtain ⟨v_r_faultKind_253, v_r_faultPlace_253, rfl, hw253_0⟩ := hw253
      have b_v_r_faultKind_253 := iB v_r_faultKind_253
      have b_v_r_faultPlace_253 := iB v_r_faultPlace_253
      have b_r253 := iB r253
      subst hAe
      rw [hQ]
      exact W.zret (v := r253) hx hb hr (nbool (by first | omega | decide)) (fun t ht hW => ⟨⟨r253, _, rfl, ⟨v_a_from, v_r_faultKind_253, v_r_faultPlace_253, a_si_222, a_sj, a_ac, rfl, by first | assumption | omega | (intros; omega) | decide, by first | assumption | omega | (intros; omega) | decide⟩, by rw [ht]; exact hP, va_K.moved hW.alike hK, hD⟩, hS.F ht⟩) hS.2.2 dX2_acceptPart_256
    · skip
      refine lv_iconst (v := 1) hx hb dX2_acceptPart_248 (by decide) ?_
      refine lv_goto (tgt := 253) hx hb dX2_acceptPart_249 (by decide) ?_
      refine call_i (As := [.int 1]) (rest := []) ⟨hx, hb, hml, hown, hts⟩ (tX2_acceptIf (l := l) (1 : Int32)) (cwV 1 hts (gV (wr19 _ (List.mem_of_getElem? (i := 12) rfl)) (wr19 _ (List.mem_of_getElem? (i := 13) rfl)) (wr19 _ (List.mem_of_getElem? (i := 14) rfl)) (wr1 _ (List.mem_of_getElem? (i := 23) rfl)) (wr19 _ (List.mem_of_getElem? (i := 15) rfl))) rfl rfl rfl (by decide +kernel) ⟨Nat.le_of_ble_eq_true rfl, Nat.le_of_ble_eq_true rfl⟩) (va_recv hK hP (ci := 1) (q0 := 7) rfl rfl) hK hP hD hE hS hA rfl hl.1 rfl (Nat.le_of_ble_eq_true rfl) dX2_acceptPart_253 ⟨Nat.le_of_ble_eq_true rfl, Nat.le_of_ble_eq_true rfl⟩ (fun r253 w9 H locs hw253 hP hD hS => ?_)
      obtain ⟨v_r_faultKind_253, v_r_faultPlace_253, rfl, hw253_0⟩ := hw253
      have b_v_r_faultKind_253 := iB v_r_faultKind_253
      have b_v_r_faultPlace_253 := iB v_r_faultPlace_253
      have b_r253 := iB r253
      subst hAe
      rw [hQ]
      exact W.zret (v := r253) hx hb hr (nbool (by first | omega | decide)) (fun t ht hW => ⟨⟨r253, _, rfl, ⟨v_a_from, v_r_faultKind_253, v_r_faultPlace_253, a_si_222, a_sj, a_ac, rfl, by first | assumption | omega | (intros; omega) | decide, by first | assumption | omega | (intros; omega) | decide⟩, by rw [ht]; exact hP, va_K.moved hW.alike hK, hD⟩, hS.F ht⟩) hS.2.2 dX2_acceptPart_256
  · skip
    refine lv_tableIn (tgt := 327) (off := 326) hx hb dX2_acceptPart_1 (by omega) (by omega) (by rw [c1]; rfl) (by decide) ?_
    exact J327 H locs ls hP hD hS (lv_sub hl [0, 1] rfl)
  · skip
    refine lv_tableIn (tgt := 327) (off := 326) hx hb dX2_acceptPart_1 (by omega) (by omega) (by rw [c1]; rfl) (by decide) ?_
    exact J327 H locs ls hP hD hS (lv_sub hl [0, 1] rfl)
  · skip
    refine lv_tableIn (tgt := 327) (off := 326) hx hb dX2_acceptPart_1 (by omega) (by omega) (by rw [c1]; rfl) (by decide) ?_
    exact J327 H locs ls hP hD hS (lv_sub hl [0, 1] rfl)
  · skip
    refine lv_tableIn (tgt := 327) (off := 326) hx hb dX2_acceptPart_1 (by omega) (by omega) (by rw [c1]; rfl) (by decide) ?_
    exact J327 H locs ls hP hD hS (lv_sub hl [0, 1] rfl)
  · skip
    refine lv_tableIn (tgt := 327) (off := 326) hx hb dX2_acceptPart_1 (by omega) (by omega) (by rw [c1]; rfl) (by decide) ?_
    exact J327 H locs ls hP hD hS (lv_sub hl [0, 1] rfl)
  · skip
    refine lv_tableIn (tgt := 285) (off := 284) hx hb dX2_acceptPart_1 (by omega) (by omega) (by rw [c1]; rfl) (by decide) ?_
    refine lv_aload_n hx hb dX2_acceptPart_285 rfl (lv_at hl 0 rfl) ?_
    refine lv_aload_n hx hb dX2_acceptPart_286 rfl (lv_at hl 0 rfl) ?_
    refine va_get (D := D) (ci := 1) (v := .ref (q 8)) (C := RX2) (T := TX2) (N := 8) hx hb hts hinX2 hown hK hP 7 rfl rfl 0 (by decide) k_3_11 (fun _ h9 => h9) rfl dX2_acceptPart_287 ?_
    refine va_ldcS hx hb hown (ld_24 hE) dX2_acceptPart_290 ?_
    refine call_i (As := [.ref (K 0 24)]) (rest := [.ref (q 7)]) ⟨hx, hb, hml, hown, hts⟩ (tX1_isWord_qa (l := l) 24 so_24 (by first | assumption | omega | (intros; omega) | decide)) (cwV 1 hts (gV (wr14 _ (List.mem_of_getElem? (i := 7) rfl)) (wr14 _ (List.mem_of_getElem? (i := 8) rfl)) (wr14 _ (List.mem_of_getElem? (i := 9) rfl)) (wr2 _ (List.mem_of_getElem? (i := 2) rfl)) (wr14 _ (List.mem_of_getElem? (i := 10) rfl))) rfl rfl rfl (by decide +kernel) ⟨Nat.le_of_ble_eq_true rfl, Nat.le_of_ble_eq_true rfl⟩) (va_recv hK hP (ci := 0) (q0 := 8) rfl rfl) hK hP hD hE hS hA rfl hl.1 rfl (Nat.le_of_ble_eq_true rfl) dX2_acceptPart_292 ⟨Nat.le_of_ble_eq_true rfl, Nat.le_of_ble_eq_true rfl⟩ (fun r292 w9 H locs hw292 hP hD hS => ?_)
    obtain ⟨rfl, hw292_0⟩ := hw292
    have b_r292 := iB r292
    refine call_i (As := [.int r292]) (rest := []) ⟨hx, hb, hml, hown, hts⟩ (tX2_acceptIf (l := l) r292) (cwV 1 hts (gV (wr19 _ (List.mem_of_getElem? (i := 12) rfl)) (wr19 _ (List.mem_of_getElem? (i := 13) rfl)) (wr19 _ (List.mem_of_getElem? (i := 14) rfl)) (wr1 _ (List.mem_of_getElem? (i := 23) rfl)) (wr19 _ (List.mem_of_getElem? (i := 15) rfl))) rfl rfl rfl (by decide +kernel) ⟨Nat.le_of_ble_eq_true rfl, Nat.le_of_ble_eq_true rfl⟩) (va_recv hK hP (ci := 1) (q0 := 7) rfl rfl) hK hP hD hE hS hA rfl hl.1 rfl (Nat.le_of_ble_eq_true rfl) dX2_acceptPart_295 ⟨Nat.le_of_ble_eq_true rfl, Nat.le_of_ble_eq_true rfl⟩ (fun r295 w9 H locs hw295 hP hD hS => ?_)
    obtain ⟨v_r_faultKind_295, v_r_faultPlace_295, rfl, hw295_0⟩ := hw295
    have b_v_r_faultKind_295 := iB v_r_faultKind_295
    have b_v_r_faultPlace_295 := iB v_r_faultPlace_295
    have b_r295 := iB r295
    subst hAe
    rw [hQ]
    exact W.zret (v := r295) hx hb hr (nbool (by first | omega | decide)) (fun t ht hW => ⟨⟨r295, _, rfl, ⟨v_r_namePlace, v_r_faultKind_295, v_r_faultPlace_295, a_si, a_sj, a_ac, rfl, by first | assumption | omega | (intros; omega) | decide, by first | assumption | omega | (intros; omega) | decide⟩, by rw [ht]; exact hP, va_K.moved hW.alike hK, hD⟩, hS.F ht⟩) hS.2.2 dX2_acceptPart_298
  · skip
    refine lv_tableIn (tgt := 327) (off := 326) hx hb dX2_acceptPart_1 (by omega) (by omega) (by rw [c1]; rfl) (by decide) ?_
    exact J327 H locs ls hP hD hS (lv_sub hl [0, 1] rfl)
  · skip
    refine lv_tableIn (tgt := 108) (off := 107) hx hb dX2_acceptPart_1 (by omega) (by omega) (by rw [c1]; rfl) (by decide) ?_
    refine lv_aload_n hx hb dX2_acceptPart_108 rfl (lv_at hl 0 rfl) ?_
    have hf109 : aS a_L a_K a_r_now := by first | assumption
    refine va_get (D := D) (ci := 1) (v := .ref a_r_now) (C := RX2) (T := TX2) (N := 8) hx hb hts hinX2 hown hK hP 7 rfl rfl 2 (by decide) k_3_14 (fun _ h9 => h9) rfl dX2_acceptPart_109 ?_
    refine lv_aload_n hx hb dX2_acceptPart_112 rfl (lv_at hl 0 rfl) ?_
    refine va_get (D := D) (ci := 1) (v := .ref (q 8)) (C := RX2) (T := TX2) (N := 8) hx hb hts hinX2 hown hK hP 7 rfl rfl 0 (by decide) k_3_11 (fun _ h9 => h9) rfl dX2_acceptPart_113 ?_
    refine call_i (As := []) (rest := [.ref a_r_now]) ⟨hx, hb, hml, hown, hts⟩ (tX1_variable_qa (l := l)  (by first | assumption | omega | (intros; omega) | decide)) (cwV 0 hts (gV (wr14 _ (List.mem_of_getElem? (i := 3) rfl)) (wr14 _ (List.mem_of_getElem? (i := 4) rfl)) (wr14 _ (List.mem_of_getElem? (i := 5) rfl)) (wr2 _ (List.mem_of_getElem? (i := 2) rfl)) (wr14 _ (List.mem_of_getElem? (i := 6) rfl))) rfl rfl rfl (by decide +kernel) ⟨Nat.le_of_ble_eq_true rfl, Nat.le_of_ble_eq_true rfl⟩) (va_recv hK hP (ci := 0) (q0 := 8) rfl rfl) hK hP hD hE hS hA rfl hl.1 rfl (Nat.le_of_ble_eq_true rfl) dX2_acceptPart_116 ⟨Nat.le_of_ble_eq_true rfl, Nat.le_of_ble_eq_true rfl⟩ (fun r116 w9 H locs hw116 hP hD hS => ?_)
    obtain ⟨rfl⟩ := hw116
    have b_r116 := iB r116
    obtain ⟨k119_, hk119_⟩ := pl_S (X := (twX cs q v_t_tapeSize v_t_textSize v_t_faultKind a_t_tape a_t_text a_g_beyond v_g_size a_g_steps a_h_beyond v_h_size a_h_steps a_r_scratch a_r_now v_r_takes v_r_negative v_r_namePlace v_r_faultKind v_r_faultPlace v_a_size v_a_limit v_a_digits v_a_kind v_a_from v_a_to v_o_size a_o_out v_b_size v_b_limit v_b_digits v_b_kind v_b_from v_b_to a_u_atom a_u_other a_u_hand v_u_marksMade v_u_came v_u_guesses v_u_right v_u_taken a_u_vars a_u_marks a_u_outcomes a_u_indexes v_s_things v_s_looked v_s_lookedTooOften v_s_arraysMade v_s_cellsMade a_s_classes a_s_starts a_s_lengths a_s_cells)) (cI := cs 0) (vc := a_vc) (vd := a_vd) (si := a_si) (sj := a_sj) (iv := a_iv) (inn := a_inn) (ac := a_ac) hf109
    have hDk := hD
    refine va_put (D := D) (ci := 5) (v := .int r116) (ty := .int) (C := RX6) (T := TX6) (N := 15) hx hb hts hinX6 tyX6 tyX6_ok nmX6 hown hK hP hD hS k119_ hk119_ rfl 5 (by decide) k_17_16 (fun _ h9 => h9) rfl (by decide +kernel) rfl rfl (Nat.le_of_ble_eq_true rfl) dX2_acceptPart_119 (fun H locs hP hD hS => ?_)
    obtain ⟨a_si_119, e_a_si_119⟩ : ∃ g, g = up2 a_si a_r_now 5 r116 := ⟨_, rfl⟩
    have hP : va_P D vwCl (tw cs q v_t_tapeSize v_t_textSize v_t_faultKind a_t_tape a_t_text a_g_beyond v_g_size a_g_steps a_h_beyond v_h_size a_h_steps a_r_scratch a_r_now v_r_takes v_r_negative v_r_namePlace v_r_faultKind v_r_faultPlace v_a_size v_a_limit v_a_digits v_a_kind v_a_from v_a_to v_o_size a_o_out v_b_size v_b_limit v_b_digits v_b_kind v_b_from v_b_to a_u_atom a_u_other a_u_hand v_u_marksMade v_u_came v_u_guesses v_u_right v_u_taken a_u_vars a_u_marks a_u_outcomes a_u_indexes v_s_things v_s_looked v_s_lookedTooOften v_s_arraysMade v_s_cellsMade a_s_classes a_s_starts a_s_lengths a_s_cells a_L a_K a_vc a_vd a_si_119 a_sj a_iv a_inn a_ac) H := by rw [e_a_si_119]; exact vaP_eq (pu_first_ hDk hf109 hk119_ _) hP
    have hD : va_D A (tw cs q v_t_tapeSize v_t_textSize v_t_faultKind a_t_tape a_t_text a_g_beyond v_g_size a_g_steps a_h_beyond v_h_size a_h_steps a_r_scratch a_r_now v_r_takes v_r_negative v_r_namePlace v_r_faultKind v_r_faultPlace v_a_size v_a_limit v_a_digits v_a_kind v_a_from v_a_to v_o_size a_o_out v_b_size v_b_limit v_b_digits v_b_kind v_b_from v_b_to a_u_atom a_u_other a_u_hand v_u_marksMade v_u_came v_u_guesses v_u_right v_u_taken a_u_vars a_u_marks a_u_outcomes a_u_indexes v_s_things v_s_looked v_s_lookedTooOften v_s_arraysMade v_s_cellsMade a_s_classes a_s_starts a_s_lengths a_s_cells a_L a_K a_vc a_vd a_si_119 a_sj a_iv a_inn a_ac) := by rw [e_a_si_119]; exact vaD_eq (pu_first_ hDk hf109 hk119_ _) hD
    have hPI : PI a_L a_K a_si_119 a_iv a_inn := by exact PI.up (by assumption) e_a_si_119 (by decide)
    refine lv_aload_n hx hb dX2_acceptPart_122 rfl (lv_at hl 0 rfl) ?_
    refine lv_aload_n hx hb dX2_acceptPart_123 rfl (lv_at hl 0 rfl) ?_
    have hf124 : aS a_L a_K a_r_now := by first | assumption
    refine va_get (D := D) (ci := 1) (v := .ref a_r_now) (C := RX2) (T := TX2) (N := 8) hx hb hts hinX2 hown hK hP 7 rfl rfl 2 (by decide) k_3_14 (fun _ h9 => h9) rfl dX2_acceptPart_124 ?_
    obtain ⟨k127_, hk127_⟩ := pl_S (X := (twX cs q v_t_tapeSize v_t_textSize v_t_faultKind a_t_tape a_t_text a_g_beyond v_g_size a_g_steps a_h_beyond v_h_size a_h_steps a_r_scratch a_r_now v_r_takes v_r_negative v_r_namePlace v_r_faultKind v_r_faultPlace v_a_size v_a_limit v_a_digits v_a_kind v_a_from v_a_to v_o_size a_o_out v_b_size v_b_limit v_b_digits v_b_kind v_b_from v_b_to a_u_atom a_u_other a_u_hand v_u_marksMade v_u_came v_u_guesses v_u_right v_u_taken a_u_vars a_u_marks a_u_outcomes a_u_indexes v_s_things v_s_looked v_s_lookedTooOften v_s_arraysMade v_s_cellsMade a_s_classes a_s_starts a_s_lengths a_s_cells)) (cI := cs 0) (vc := a_vc) (vd := a_vd) (si := a_si_119) (sj := a_sj) (iv := a_iv) (inn := a_inn) (ac := a_ac) hf124
    refine va_get (D := D) (ci := 5) (v := .int (a_si_119 a_r_now 5)) (C := RX6) (T := TX6) (N := 15) hx hb hts hinX6 hown hK hP k127_ hk127_ rfl 5 (by decide) k_17_16 (fun _ h9 => h9) rfl dX2_acceptPart_127 ?_
    refine lv_topi (fun x127 e_x127 => ?_)
    have b_x127 := iB x127
    refine lv_iconst (v := (-1)) hx hb dX2_acceptPart_130 (by decide) ?_
    refine m_icmp_eq (X := x127.toInt) (Y := (-1)) (tgt := 138) hx hb dX2_acceptPart_131 (by decide) rfl (by decide) (fun c131 => ?_) (fun c131 => ?_)
    · skip
      refine lv_iconst (v := 0) hx hb dX2_acceptPart_138 (by decide) ?_
      refine call_i (As := [.int 0]) (rest := []) ⟨hx, hb, hml, hown, hts⟩ (tX2_acceptIf (l := l) (0 : Int32)) (cwV 1 hts (gV (wr19 _ (List.mem_of_getElem? (i := 12) rfl)) (wr19 _ (List.mem_of_getElem? (i := 13) rfl)) (wr19 _ (List.mem_of_getElem? (i := 14) rfl)) (wr1 _ (List.mem_of_getElem? (i := 23) rfl)) (wr19 _ (List.mem_of_getElem? (i := 15) rfl))) rfl rfl rfl (by decide +kernel) ⟨Nat.le_of_ble_eq_true rfl, Nat.le_of_ble_eq_true rfl⟩) (va_recv hK hP (ci := 1) (q0 := 7) rfl rfl) hK hP hD hE hS hA rfl hl.1 rfl (Nat.le_of_ble_eq_true rfl) dX2_acceptPart_139 ⟨Nat.le_of_ble_eq_true rfl, Nat.le_of_ble_eq_true rfl⟩ (fun r139 w9 H locs hw139 hP hD hS => ?_)
      obtain ⟨v_r_faultKind_139, v_r_faultPlace_139, rfl, hw139_0⟩ := hw139
      have b_v_r_faultKind_139 := iB v_r_faultKind_139
      have b_v_r_faultPlace_139 := iB v_r_faultPlace_139
      have b_r139 := iB r139
      subst hAe
      rw [hQ]
      exact W.zret (v := r139) hx hb hr (nbool (by first | omega | decide)) (fun t ht hW => ⟨⟨r139, _, rfl, ⟨v_r_namePlace, v_r_faultKind_139, v_r_faultPlace_139, a_si_119, a_sj, a_ac, rfl, by first | assumption | omega | (intros; omega) | decide, by first | assumption | omega | (intros; omega) | decide⟩, by rw [ht]; exact hP, va_K.moved hW.alike hK, hD⟩, hS.F ht⟩) hS.2.2 dX2_acceptPart_142
    · skip
      refine lv_iconst (v := 1) hx hb dX2_acceptPart_134 (by decide) ?_
      refine lv_goto (tgt := 139) hx hb dX2_acceptPart_135 (by decide) ?_
      refine call_i (As := [.int 1]) (rest := []) ⟨hx, hb, hml, hown, hts⟩ (tX2_acceptIf (l := l) (1 : Int32)) (cwV 1 hts (gV (wr19 _ (List.mem_of_getElem? (i := 12) rfl)) (wr19 _ (List.mem_of_getElem? (i := 13) rfl)) (wr19 _ (List.mem_of_getElem? (i := 14) rfl)) (wr1 _ (List.mem_of_getElem? (i := 23) rfl)) (wr19 _ (List.mem_of_getElem? (i := 15) rfl))) rfl rfl rfl (by decide +kernel) ⟨Nat.le_of_ble_eq_true rfl, Nat.le_of_ble_eq_true rfl⟩) (va_recv hK hP (ci := 1) (q0 := 7) rfl rfl) hK hP hD hE hS hA rfl hl.1 rfl (Nat.le_of_ble_eq_true rfl) dX2_acceptPart_139 ⟨Nat.le_of_ble_eq_true rfl, Nat.le_of_ble_eq_true rfl⟩ (fun r139 w9 H locs hw139 hP hD hS => ?_)
      obtain ⟨v_r_faultKind_139, v_r_faultPlace_139, rfl, hw139_0⟩ := hw139
      have b_v_r_faultKind_139 := iB v_r_faultKind_139
      have b_v_r_faultPlace_139 := iB v_r_faultPlace_139
      have b_r139 := iB r139
      subst hAe
      rw [hQ]
      exact W.zret (v := r139) hx hb hr (nbool (by first | omega | decide)) (fun t ht hW => ⟨⟨r139, _, rfl, ⟨v_r_namePlace, v_r_faultKind_139, v_r_faultPlace_139, a_si_119, a_sj, a_ac, rfl, by first | assumption | omega | (intros; omega) | decide, by first | assumption | omega | (intros; omega) | decide⟩, by rw [ht]; exact hP, va_K.moved hW.alike hK, hD⟩, hS.F ht⟩) hS.2.2 dX2_acceptPart_142
  · skip
    refine lv_tableIn (tgt := 143) (off := 142) hx hb dX2_acceptPart_1 (by omega) (by omega) (by rw [c1]; rfl) (by decide) ?_
    refine lv_aload_n hx hb dX2_acceptPart_143 rfl (lv_at hl 0 rfl) ?_
    have hf144 : aS a_L a_K a_r_now := by first | assumption
    refine va_get (D := D) (ci := 1) (v := .ref a_r_now) (C := RX2) (T := TX2) (N := 8) hx hb hts hinX2 hown hK hP 7 rfl rfl 2 (by decide) k_3_14 (fun _ h9 => h9) rfl dX2_acceptPart_144 ?_
    refine lv_aload_n hx hb dX2_acceptPart_147 rfl (lv_at hl 0 rfl) ?_
    refine va_get (D := D) (ci := 1) (v := .ref (q 8)) (C := RX2) (T := TX2) (N := 8) hx hb hts hinX2 hown hK hP 7 rfl rfl 0 (by decide) k_3_11 (fun _ h9 => h9) rfl dX2_acceptPart_148 ?_
    refine call_i (As := []) (rest := [.ref a_r_now]) ⟨hx, hb, hml, hown, hts⟩ (tX1_variable_qa (l := l)  (by first | assumption | omega | (intros; omega) | decide)) (cwV 0 hts (gV (wr14 _ (List.mem_of_getElem? (i := 3) rfl)) (wr14 _ (List.mem_of_getElem? (i := 4) rfl)) (wr14 _ (List.mem_of_getElem? (i := 5) rfl)) (wr2 _ (List.mem_of_getElem? (i := 2) rfl)) (wr14 _ (List.mem_of_getElem? (i := 6) rfl))) rfl rfl rfl (by decide +kernel) ⟨Nat.le_of_ble_eq_true rfl, Nat.le_of_ble_eq_true rfl⟩) (va_recv hK hP (ci := 0) (q0 := 8) rfl rfl) hK hP hD hE hS hA rfl hl.1 rfl (Nat.le_of_ble_eq_true rfl) dX2_acceptPart_151 ⟨Nat.le_of_ble_eq_true rfl, Nat.le_of_ble_eq_true rfl⟩ (fun r151 w9 H locs hw151 hP hD hS => ?_)
    obtain ⟨rfl⟩ := hw151
    have b_r151 := iB r151
    obtain ⟨k154_, hk154_⟩ := pl_S (X := (twX cs q v_t_tapeSize v_t_textSize v_t_faultKind a_t_tape a_t_text a_g_beyond v_g_size a_g_steps a_h_beyond v_h_size a_h_steps a_r_scratch a_r_now v_r_takes v_r_negative v_r_namePlace v_r_faultKind v_r_faultPlace v_a_size v_a_limit v_a_digits v_a_kind v_a_from v_a_to v_o_size a_o_out v_b_size v_b_limit v_b_digits v_b_kind v_b_from v_b_to a_u_atom a_u_other a_u_hand v_u_marksMade v_u_came v_u_guesses v_u_right v_u_taken a_u_vars a_u_marks a_u_outcomes a_u_indexes v_s_things v_s_looked v_s_lookedTooOften v_s_arraysMade v_s_cellsMade a_s_classes a_s_starts a_s_lengths a_s_cells)) (cI := cs 0) (vc := a_vc) (vd := a_vd) (si := a_si) (sj := a_sj) (iv := a_iv) (inn := a_inn) (ac := a_ac) hf144
    have hDk := hD
    refine va_put (D := D) (ci := 5) (v := .int r151) (ty := .int) (C := RX6) (T := TX6) (N := 15) hx hb hts hinX6 tyX6 tyX6_ok nmX6 hown hK hP hD hS k154_ hk154_ rfl 6 (by decide) k_19_11 (fun _ h9 => h9) rfl (by decide +kernel) rfl rfl (Nat.le_of_ble_eq_true rfl) dX2_acceptPart_154 (fun H locs hP hD hS => ?_)
    obtain ⟨a_si_154, e_a_si_154⟩ : ∃ g, g = up2 a_si a_r_now 6 r151 := ⟨_, rfl⟩
    have hP : va_P D vwCl (tw cs q v_t_tapeSize v_t_textSize v_t_faultKind a_t_tape a_t_text a_g_beyond v_g_size a_g_steps a_h_beyond v_h_size a_h_steps a_r_scratch a_r_now v_r_takes v_r_negative v_r_namePlace v_r_faultKind v_r_faultPlace v_a_size v_a_limit v_a_digits v_a_kind v_a_from v_a_to v_o_size a_o_out v_b_size v_b_limit v_b_digits v_b_kind v_b_from v_b_to a_u_atom a_u_other a_u_hand v_u_marksMade v_u_came v_u_guesses v_u_right v_u_taken a_u_vars a_u_marks a_u_outcomes a_u_indexes v_s_things v_s_looked v_s_lookedTooOften v_s_arraysMade v_s_cellsMade a_s_classes a_s_starts a_s_lengths a_s_cells a_L a_K a_vc a_vd a_si_154 a_sj a_iv a_inn a_ac) H := by rw [e_a_si_154]; exact vaP_eq (pu_second_ hDk hf144 hk154_ _) hP
    have hD : va_D A (tw cs q v_t_tapeSize v_t_textSize v_t_faultKind a_t_tape a_t_text a_g_beyond v_g_size a_g_steps a_h_beyond v_h_size a_h_steps a_r_scratch a_r_now v_r_takes v_r_negative v_r_namePlace v_r_faultKind v_r_faultPlace v_a_size v_a_limit v_a_digits v_a_kind v_a_from v_a_to v_o_size a_o_out v_b_size v_b_limit v_b_digits v_b_kind v_b_from v_b_to a_u_atom a_u_other a_u_hand v_u_marksMade v_u_came v_u_guesses v_u_right v_u_taken a_u_vars a_u_marks a_u_outcomes a_u_indexes v_s_things v_s_looked v_s_lookedTooOften v_s_arraysMade v_s_cellsMade a_s_classes a_s_starts a_s_lengths a_s_cells a_L a_K a_vc a_vd a_si_154 a_sj a_iv a_inn a_ac) := by rw [e_a_si_154]; exact vaD_eq (pu_second_ hDk hf144 hk154_ _) hD
    have hPI : PI a_L a_K a_si_154 a_iv a_inn := by exact PI.up (by assumption) e_a_si_154 (by decide)
    refine lv_aload_n hx hb dX2_acceptPart_157 rfl (lv_at hl 0 rfl) ?_
    refine lv_aload_n hx hb dX2_acceptPart_158 rfl (lv_at hl 0 rfl) ?_
    have hf159 : aS a_L a_K a_r_now := by first | assumption
    refine va_get (D := D) (ci := 1) (v := .ref a_r_now) (C := RX2) (T := TX2) (N := 8) hx hb hts hinX2 hown hK hP 7 rfl rfl 2 (by decide) k_3_14 (fun _ h9 => h9) rfl dX2_acceptPart_159 ?_
    obtain ⟨k162_, hk162_⟩ := pl_S (X := (twX cs q v_t_tapeSize v_t_textSize v_t_faultKind a_t_tape a_t_text a_g_beyond v_g_size a_g_steps a_h_beyond v_h_size a_h_steps a_r_scratch a_r_now v_r_takes v_r_negative v_r_namePlace v_r_faultKind v_r_faultPlace v_a_size v_a_limit v_a_digits v_a_kind v_a_from v_a_to v_o_size a_o_out v_b_size v_b_limit v_b_digits v_b_kind v_b_from v_b_to a_u_atom a_u_other a_u_hand v_u_marksMade v_u_came v_u_guesses v_u_right v_u_taken a_u_vars a_u_marks a_u_outcomes a_u_indexes v_s_things v_s_looked v_s_lookedTooOften v_s_arraysMade v_s_cellsMade a_s_classes a_s_starts a_s_lengths a_s_cells)) (cI := cs 0) (vc := a_vc) (vd := a_vd) (si := a_si_154) (sj := a_sj) (iv := a_iv) (inn := a_inn) (ac := a_ac) hf159
    refine va_get (D := D) (ci := 5) (v := .int (a_si_154 a_r_now 6)) (C := RX6) (T := TX6) (N := 15) hx hb hts hinX6 hown hK hP k162_ hk162_ rfl 6 (by decide) k_19_11 (fun _ h9 => h9) rfl dX2_acceptPart_162 ?_
    refine lv_topi (fun x162 e_x162 => ?_)
    have b_x162 := iB x162
    refine lv_iconst (v := (-1)) hx hb dX2_acceptPart_165 (by decide) ?_
    refine m_icmp_eq (X := x162.toInt) (Y := (-1)) (tgt := 173) hx hb dX2_acceptPart_166 (by decide) rfl (by decide) (fun c166 => ?_) (fun c166 => ?_)
    · skip
      refine lv_iconst (v := 0) hx hb dX2_acceptPart_173 (by decide) ?_
      refine call_i (As := [.int 0]) (rest := []) ⟨hx, hb, hml, hown, hts⟩ (tX2_acceptIf (l := l) (0 : Int32)) (cwV 1 hts (gV (wr19 _ (List.mem_of_getElem? (i := 12) rfl)) (wr19 _ (List.mem_of_getElem? (i := 13) rfl)) (wr19 _ (List.mem_of_getElem? (i := 14) rfl)) (wr1 _ (List.mem_of_getElem? (i := 23) rfl)) (wr19 _ (List.mem_of_getElem? (i := 15) rfl))) rfl rfl rfl (by decide +kernel) ⟨Nat.le_of_ble_eq_true rfl, Nat.le_of_ble_eq_true rfl⟩) (va_recv hK hP (ci := 1) (q0 := 7) rfl rfl) hK hP hD hE hS hA rfl hl.1 rfl (Nat.le_of_ble_eq_true rfl) dX2_acceptPart_174 ⟨Nat.le_of_ble_eq_true rfl, Nat.le_of_ble_eq_true rfl⟩ (fun r174 w9 H locs hw174 hP hD hS => ?_)
      obtain ⟨v_r_faultKind_174, v_r_faultPlace_174, rfl, hw174_0⟩ := hw174
      have b_v_r_faultKind_174 := iB v_r_faultKind_174
      have b_v_r_faultPlace_174 := iB v_r_faultPlace_174
      have b_r174 := iB r174
      subst hAe
      rw [hQ]
      exact W.zret (v := r174) hx hb hr (nbool (by first | omega | decide)) (fun t ht hW => ⟨⟨r174, _, rfl, ⟨v_r_namePlace, v_r_faultKind_174, v_r_faultPlace_174, a_si_154, a_sj, a_ac, rfl, by first | assumption | omega | (intros; omega) | decide, by first | assumption | omega | (intros; omega) | decide⟩, by rw [ht]; exact hP, va_K.moved hW.alike hK, hD⟩, hS.F ht⟩) hS.2.2 dX2_acceptPart_177
    · skip
      refine lv_iconst (v := 1) hx hb dX2_acceptPart_169 (by decide) ?_
      refine lv_goto (tgt := 174) hx hb dX2_acceptPart_170 (by decide) ?_
      refine call_i (As := [.int 1]) (rest := []) ⟨hx, hb, hml, hown, hts⟩ (tX2_acceptIf (l := l) (1 : Int32)) (cwV 1 hts (gV (wr19 _ (List.mem_of_getElem? (i := 12) rfl)) (wr19 _ (List.mem_of_getElem? (i := 13) rfl)) (wr19 _ (List.mem_of_getElem? (i := 14) rfl)) (wr1 _ (List.mem_of_getElem? (i := 23) rfl)) (wr19 _ (List.mem_of_getElem? (i := 15) rfl))) rfl rfl rfl (by decide +kernel) ⟨Nat.le_of_ble_eq_true rfl, Nat.le_of_ble_eq_true rfl⟩) (va_recv hK hP (ci := 1) (q0 := 7) rfl rfl) hK hP hD hE hS hA rfl hl.1 rfl (Nat.le_of_ble_eq_true rfl) dX2_acceptPart_174 ⟨Nat.le_of_ble_eq_true rfl, Nat.le_of_ble_eq_true rfl⟩ (fun r174 w9 H locs hw174 hP hD hS => ?_)
      obtain ⟨v_r_faultKind_174, v_r_faultPlace_174, rfl, hw174_0⟩ := hw174
      have b_v_r_faultKind_174 := iB v_r_faultKind_174
      have b_v_r_faultPlace_174 := iB v_r_faultPlace_174
      have b_r174 := iB r174
      subst hAe
      rw [hQ]
      exact W.zret (v := r174) hx hb hr (nbool (by first | omega | decide)) (fun t ht hW => ⟨⟨r174, _, rfl, ⟨v_r_namePlace, v_r_faultKind_174, v_r_faultPlace_174, a_si_154, a_sj, a_ac, rfl, by first | assumption | omega | (intros; omega) | decide, by first | assumption | omega | (intros; omega) | decide⟩, by rw [ht]; exact hP, va_K.moved hW.alike hK, hD⟩, hS.F ht⟩) hS.2.2 dX2_acceptPart_177

def rmX2_readParts : Room := { frames := 180, cells := 0, slots := 0, locals := 3600 }
set_option maxHeartbeats 4000000 in
set_option maxRecDepth 100000 in
theorem tX2_readParts {l : Launch} {D : va_G} {K : Nat → Nat → Nat} {cs : Nat → ClassId} {q : Nat → Nat} {v_t_tapeSize v_t_textSize v_t_faultKind v_g_size v_h_size v_r_takes v_r_negative v_r_namePlace v_r_faultKind v_r_faultPlace v_a_size v_a_limit v_a_digits v_a_kind v_a_from v_a_to v_o_size v_b_size v_b_limit v_b_digits v_b_kind v_b_from v_b_to v_u_marksMade v_u_came v_u_guesses v_u_right v_u_taken v_s_things v_s_looked v_s_lookedTooOften v_s_arraysMade v_s_cellsMade : Int32} {a_t_tape a_t_text a_o_out a_u_outcomes a_u_indexes a_s_classes a_s_starts a_s_lengths a_vc : Nat → Int32} {a_g_beyond a_h_beyond a_r_scratch a_r_now a_u_atom a_u_other a_u_hand : Nat} {a_g_steps a_h_steps a_u_vars a_u_marks : Nat → Option Nat} {a_s_cells a_vd a_sj : Nat → Int64} {a_L : List Nat} {a_K a_iv a_inn : Nat → Nat} {a_si a_ac : Nat → Nat → Int32} (s9 : Nat) {tx_s9 : List Int32} (hs_s9 : sOf s9 tx_s9) (p_0 : LI 3100 v_a_size v_a_limit v_a_digits v_a_kind v_a_from v_a_to) (p_1 : PI a_L a_K a_si a_iv a_inn) (p_2 : aS a_L a_K a_r_now) : CtI l yX2_readParts (wG yX2_readParts cX2_readParts 5 (some .boolean)) rmX2_readParts D (twT cs) K [.ref (q 7), .ref (K 0 s9)] (tw cs q v_t_tapeSize v_t_textSize v_t_faultKind a_t_tape a_t_text a_g_beyond v_g_size a_g_steps a_h_beyond v_h_size a_h_steps a_r_scratch a_r_now v_r_takes v_r_negative v_r_namePlace v_r_faultKind v_r_faultPlace v_a_size v_a_limit v_a_digits v_a_kind v_a_from v_a_to v_o_size a_o_out v_b_size v_b_limit v_b_digits v_b_kind v_b_from v_b_to a_u_atom a_u_other a_u_hand v_u_marksMade v_u_came v_u_guesses v_u_right v_u_taken a_u_vars a_u_marks a_u_outcomes a_u_indexes v_s_things v_s_looked v_s_lookedTooOften v_s_arraysMade v_s_cellsMade a_s_classes a_s_starts a_s_lengths a_s_cells a_L a_K a_vc a_vd a_si a_sj a_iv a_inn a_ac) (fun r w1 => ∃ (v_r_negative' : Int32) (v_r_namePlace' : Int32) (v_r_faultKind' : Int32) (v_r_faultPlace' : Int32) (v_a_digits' : Int32) (v_a_kind' : Int32) (v_a_from' : Int32) (v_a_to' : Int32) (a_si' : Nat → Nat → Int32) (a_sj' : Nat → Int64) (a_ac' : Nat → Nat → Int32), w1 = (tw cs q v_t_tapeSize v_t_textSize v_t_faultKind a_t_tape a_t_text a_g_beyond v_g_size a_g_steps a_h_beyond v_h_size a_h_steps a_r_scratch a_r_now v_r_takes v_r_negative' v_r_namePlace' v_r_faultKind' v_r_faultPlace' v_a_size v_a_limit v_a_digits' v_a_kind' v_a_from' v_a_to' v_o_size a_o_out v_b_size v_b_limit v_b_digits v_b_kind v_b_from v_b_to a_u_atom a_u_other a_u_hand v_u_marksMade v_u_came v_u_guesses v_u_right v_u_taken a_u_vars a_u_marks a_u_outcomes a_u_indexes v_s_things v_s_looked v_s_lookedTooOften v_s_arraysMade v_s_cellsMade a_s_classes a_s_starts a_s_lengths a_s_cells a_L a_K a_vc a_vd a_si' a_sj' a_iv a_inn a_ac') ∧ (LI 3100 v_a_size v_a_limit v_a_digits' v_a_kind' v_a_from' v_a_to') ∧ (PI a_L a_K a_si' a_iv a_inn) ∧ (r.toInt = 0 ∨ r.toInt = 1)) 0 0 := by
  intro sz
  refine Met.ofW (cc := cX2_readParts) (maxL := 5) (ret := (some .boolean)) (by decide) rfl ?_
  intro p e s m args below meth c s₁ B hml hv
  obtain ⟨rfl, hsz, hP, hK, hD0, hE⟩ := hv
  have hx := B.exec
  have hb := B.bytes
  have hr := B.returns
  have hts := atoms_spec (ws := (wG yX2_readParts cX2_readParts 5 (some .boolean))) B.pre
  have hown : s.vm.findClass RX2 = some m.cls := findClass_of_methodNamed B.named
  have hlocks := B.notSynchronized
  subst hsz
  have hD := hD0.self (sz := s.heap.size)
  obtain ⟨A, hAe⟩ : ∃ A : Nat → Prop, A = va_A (tw cs q v_t_tapeSize v_t_textSize v_t_faultKind a_t_tape a_t_text a_g_beyond v_g_size a_g_steps a_h_beyond v_h_size a_h_steps a_r_scratch a_r_now v_r_takes v_r_negative v_r_namePlace v_r_faultKind v_r_faultPlace v_a_size v_a_limit v_a_digits v_a_kind v_a_from v_a_to v_o_size a_o_out v_b_size v_b_limit v_b_digits v_b_kind v_b_from v_b_to a_u_atom a_u_other a_u_hand v_u_marksMade v_u_came v_u_guesses v_u_right v_u_taken a_u_vars a_u_marks a_u_outcomes a_u_indexes v_s_things v_s_looked v_s_lookedTooOften v_s_arraysMade v_s_cellsMade a_s_classes a_s_starts a_s_lengths a_s_cells a_L a_K a_vc a_vd a_si a_sj a_iv a_inn a_ac) s.heap.size := ⟨_, rfl⟩
  rw [← hAe] at hD hE
  have hA : ∀ q : Nat, s.heap.size ≤ q → A q := fun q h => by rw [hAe]; exact Or.inr h
  have hS : va_S A s.heap s.heap [] := va_S.rf
  have hl := lv_entry ([.ref (q 7), .ref (K 0 s9)]) (n := 5) (Nat.le_of_ble_eq_true rfl)
  rw [lg_entry_eq]
  generalize (lg_sl ([.ref (q 7), .ref (K 0 s9)]) ++ List.replicate (5 - (lg_sl ([.ref (q 7), .ref (K 0 s9)])).length) Slot.unset).toArray = ls at hl ⊢
  have hl : lv_has ls 5 [(0, .ref (q 7)), (1, .ref (K 0 s9))] := hl
  refine wq (fun Q hQ => ?_)
  have hinX2 : ∀ w ∈ wsX20, w ∈ (wG yX2_readParts cX2_readParts 5 (some .boolean)) := fun w h => List.mem_cons_of_mem _ (inlX2 w h)
  have kc0 : (0 : Int32).toInt = 0 := by decide
  have kc1 : (1 : Int32).toInt = 1 := by decide
  have kc2 : (42 : Int32).toInt = 42 := by decide
  have kc3 : (43 : Int32).toInt = 43 := by decide
  have kc4 : (45 : Int32).toInt = 45 := by decide
  have kc5 : (47 : Int32).toInt = 47 := by decide
  have kc6 : (100 : Int32).toInt = 100 := by decide
  have kc7 : (109 : Int32).toInt = 109 := by decide
  have k_3_11 := hts (.fieldLink RX2 9 "ArrayTrainer$Parser" "lexer" "LArrayTrainer$Lexer;") (List.mem_cons_of_mem _ (wr3 _ (List.mem_of_getElem? (i := 11) rfl)))
  have k_9_2 := hts (.fieldLink RX2 90 "ArrayTrainer$Parser" "negative" "Z") (List.mem_cons_of_mem _ (wr9 _ (List.mem_of_getElem? (i := 2) rfl)))
  obtain ⟨H, hH⟩ : ∃ H : Heap, H = s.heap := ⟨_, rfl⟩
  obtain ⟨locs, hlc⟩ : ∃ L : List Loc, L = [] := ⟨_, rfl⟩
  have hP : va_P D vwCl (tw cs q v_t_tapeSize v_t_textSize v_t_faultKind a_t_tape a_t_text a_g_beyond v_g_size a_g_steps a_h_beyond v_h_size a_h_steps a_r_scratch a_r_now v_r_takes v_r_negative v_r_namePlace v_r_faultKind v_r_faultPlace v_a_size v_a_limit v_a_digits v_a_kind v_a_from v_a_to v_o_size a_o_out v_b_size v_b_limit v_b_digits v_b_kind v_b_from v_b_to a_u_atom a_u_other a_u_hand v_u_marksMade v_u_came v_u_guesses v_u_right v_u_taken a_u_vars a_u_marks a_u_outcomes a_u_indexes v_s_things v_s_looked v_s_lookedTooOften v_s_arraysMade v_s_cellsMade a_s_classes a_s_starts a_s_lengths a_s_cells a_L a_K a_vc a_vd a_si a_sj a_iv a_inn a_ac) H := by rw [hH]; exact hP
  have hS : va_S A s.heap H locs := by rw [hH, hlc]; exact hS
  refine wHL hH hlc ?_
  have st_s9 := hE.str hs_s9
  have ln_s9 := sOf_len hs_s9
  refine lv_iconst (v := 0) hx hb dX2_readParts_0 (by decide) ?_
  refine lv_istore_n (lv' := [(2, .int 0), (0, .ref (q 7)), (1, .ref (K 0 s9))]) hx hb dX2_readParts_1 rfl hl (by decide) rfl (fun ls hl => ?_)
  refine lv_iconst (v := 0) hx hb dX2_readParts_2 (by decide) ?_
  refine lv_istore_n (lv' := [(3, .int 0), (2, .int 0), (0, .ref (q 7)), (1, .ref (K 0 s9))]) hx hb dX2_readParts_3 rfl hl (by decide) rfl (fun ls hl => ?_)
  have J4 : ∀ (n4 : Nat) (l2_4 : Int32) (l3_4 : Int32) (a_ac_4 : Nat → Nat → Int32) (a_si_4 : Nat → Nat → Int32) (a_sj_4 : Nat → Int64) (v_a_digits_4 : Int32) (v_a_from_4 : Int32) (v_a_kind_4 : Int32) (v_a_to_4 : Int32) (v_r_faultKind_4 : Int32) (v_r_faultPlace_4 : Int32) (v_r_namePlace_4 : Int32) (v_r_negative_4 : Int32) (H : Heap) (locs : List Loc) (ls : Array Slot), (0 ≤ l3_4.toInt) → (l3_4.toInt ≤ 100) → (LI 3100 v_a_size v_a_limit v_a_digits_4 v_a_kind_4 v_a_from_4 v_a_to_4) → (PI a_L a_K a_si_4 a_iv a_inn) → (100 - l3_4.toInt < (n4 : Int)) → va_P D vwCl (tw cs q v_t_tapeSize v_t_textSize v_t_faultKind a_t_tape a_t_text a_g_beyond v_g_size a_g_steps a_h_beyond v_h_size a_h_steps a_r_scratch a_r_now v_r_takes v_r_negative_4 v_r_namePlace_4 v_r_faultKind_4 v_r_faultPlace_4 v_a_size v_a_limit v_a_digits_4 v_a_kind_4 v_a_from_4 v_a_to_4 v_o_size a_o_out v_b_size v_b_limit v_b_digits v_b_kind v_b_from v_b_to a_u_atom a_u_other a_u_hand v_u_marksMade v_u_came v_u_guesses v_u_right v_u_taken a_u_vars a_u_marks a_u_outcomes a_u_indexes v_s_things v_s_looked v_s_lookedTooOften v_s_arraysMade v_s_cellsMade a_s_classes a_s_starts a_s_lengths a_s_cells a_L a_K a_vc a_vd a_si_4 a_sj_4 a_iv a_inn a_ac_4) H → va_D A (tw cs q v_t_tapeSize v_t_textSize v_t_faultKind a_t_tape a_t_text a_g_beyond v_g_size a_g_steps a_h_beyond v_h_size a_h_steps a_r_scratch a_r_now v_r_takes v_r_negative_4 v_r_namePlace_4 v_r_faultKind_4 v_r_faultPlace_4 v_a_size v_a_limit v_a_digits_4 v_a_kind_4 v_a_from_4 v_a_to_4 v_o_size a_o_out v_b_size v_b_limit v_b_digits v_b_kind v_b_from v_b_to a_u_atom a_u_other a_u_hand v_u_marksMade v_u_came v_u_guesses v_u_right v_u_taken a_u_vars a_u_marks a_u_outcomes a_u_indexes v_s_things v_s_looked v_s_lookedTooOften v_s_arraysMade v_s_cellsMade a_s_classes a_s_starts a_s_lengths a_s_cells a_L a_K a_vc a_vd a_si_4 a_sj_4 a_iv a_inn a_ac_4) → va_S A s.heap H locs → lv_has ls 5 [(0, .ref (q 7)), (1, .ref (K 0 s9)), (2, .int l2_4), (3, .int l3_4)] → W p l e (headSpec (wG yX2_readParts cX2_readParts 5 (some .boolean)) rmX2_readParts).room s m ([.ref (q 7), .ref (K 0 s9)] : List Value).toArray below meth c H locs 0 0 Q (F0 m 4 ls []) := by
    intro n4
    induction n4 with
    | zero =>
      intro l2_4 l3_4 a_ac_4 a_si_4 a_sj_4 v_a_digits_4 v_a_from_4 v_a_kind_4 v_a_to_4 v_r_faultKind_4 v_r_faultPlace_4 v_r_namePlace_4 v_r_negative_4 H locs ls f4_0 f4_1 f4_2 f4_3 hm4
      exfalso
      omega
    | succ n4 ih4 =>
      intro l2_4 l3_4 a_ac_4 a_si_4 a_sj_4 v_a_digits_4 v_a_from_4 v_a_kind_4 v_a_to_4 v_r_faultKind_4 v_r_faultPlace_4 v_r_namePlace_4 v_r_negative_4 H locs ls f4_0 f4_1 f4_2 f4_3 hm4 hP hD hS hl
      refine lv_iload_n hx hb dX2_readParts_4 rfl (lv_at hl 3 rfl) ?_
      refine lv_bipush (v := 100) hx hb dX2_readParts_5 (by decide) ?_
      refine m_icmp_ge (X := l3_4.toInt) (Y := 100) (tgt := 128) hx hb dX2_readParts_7 (by decide) rfl (by decide) (fun c7 => ?_) (fun c7 => ?_)
      · skip
        refine lv_iload_n hx hb dX2_readParts_128 rfl (lv_at hl 2 rfl) ?_
        refine m_if_lt (X := l2_4.toInt) (tgt := 136) hx hb dX2_readParts_129 (by decide) rfl (fun c129 => ?_) (fun c129 => ?_)
        · skip
          refine lv_iconst (v := 0) hx hb dX2_readParts_136 (by decide) ?_
          subst hAe
          rw [hQ]
          exact W.zret (v := 0) hx hb hr (by decide) (fun t ht hW => ⟨⟨0, _, rfl, ⟨v_r_negative_4, v_r_namePlace_4, v_r_faultKind_4, v_r_faultPlace_4, v_a_digits_4, v_a_kind_4, v_a_from_4, v_a_to_4, a_si_4, a_sj_4, a_ac_4, rfl, by first | assumption | omega | (intros; omega) | decide, by first | assumption | omega | (intros; omega) | decide, by first | assumption | omega | (intros; omega) | decide⟩, by rw [ht]; exact hP, va_K.moved hW.alike hK, hD⟩, hS.F ht⟩) hS.2.2 dX2_readParts_137
        · skip
          refine lv_iconst (v := 1) hx hb dX2_readParts_132 (by decide) ?_
          refine lv_goto (tgt := 137) hx hb dX2_readParts_133 (by decide) ?_
          subst hAe
          rw [hQ]
          exact W.zret (v := 1) hx hb hr (by decide) (fun t ht hW => ⟨⟨1, _, rfl, ⟨v_r_negative_4, v_r_namePlace_4, v_r_faultKind_4, v_r_faultPlace_4, v_a_digits_4, v_a_kind_4, v_a_from_4, v_a_to_4, a_si_4, a_sj_4, a_ac_4, rfl, by first | assumption | omega | (intros; omega) | decide, by first | assumption | omega | (intros; omega) | decide, by first | assumption | omega | (intros; omega) | decide⟩, by rw [ht]; exact hP, va_K.moved hW.alike hK, hD⟩, hS.F ht⟩) hS.2.2 dX2_readParts_137
      · skip
        refine lv_iload_n hx hb dX2_readParts_10 rfl (lv_at hl 2 rfl) ?_
        refine m_if_lt (X := l2_4.toInt) (tgt := 128) hx hb dX2_readParts_11 (by decide) rfl (fun c11 => ?_) (fun c11 => ?_)
        · skip
          refine lv_iload_n hx hb dX2_readParts_128 rfl (lv_at hl 2 rfl) ?_
          refine m_if_lt (X := l2_4.toInt) (tgt := 136) hx hb dX2_readParts_129 (by decide) rfl (fun c129 => ?_) (fun c129 => ?_)
          · skip
            refine lv_iconst (v := 0) hx hb dX2_readParts_136 (by decide) ?_
            subst hAe
            rw [hQ]
            exact W.zret (v := 0) hx hb hr (by decide) (fun t ht hW => ⟨⟨0, _, rfl, ⟨v_r_negative_4, v_r_namePlace_4, v_r_faultKind_4, v_r_faultPlace_4, v_a_digits_4, v_a_kind_4, v_a_from_4, v_a_to_4, a_si_4, a_sj_4, a_ac_4, rfl, by first | assumption | omega | (intros; omega) | decide, by first | assumption | omega | (intros; omega) | decide, by first | assumption | omega | (intros; omega) | decide⟩, by rw [ht]; exact hP, va_K.moved hW.alike hK, hD⟩, hS.F ht⟩) hS.2.2 dX2_readParts_137
          · skip
            refine lv_iconst (v := 1) hx hb dX2_readParts_132 (by decide) ?_
            refine lv_goto (tgt := 137) hx hb dX2_readParts_133 (by decide) ?_
            subst hAe
            rw [hQ]
            exact W.zret (v := 1) hx hb hr (by decide) (fun t ht hW => ⟨⟨1, _, rfl, ⟨v_r_negative_4, v_r_namePlace_4, v_r_faultKind_4, v_r_faultPlace_4, v_a_digits_4, v_a_kind_4, v_a_from_4, v_a_to_4, a_si_4, a_sj_4, a_ac_4, rfl, by first | assumption | omega | (intros; omega) | decide, by first | assumption | omega | (intros; omega) | decide, by first | assumption | omega | (intros; omega) | decide⟩, by rw [ht]; exact hP, va_K.moved hW.alike hK, hD⟩, hS.F ht⟩) hS.2.2 dX2_readParts_137
        · skip
          refine lv_iload_n hx hb dX2_readParts_14 rfl (lv_at hl 2 rfl) ?_
          refine lv_aload_n hx hb dX2_readParts_15 rfl (lv_at hl 1 rfl) ?_
          refine call_iP (As := []) (rest := [.int l2_4]) ⟨hx, hb, hml, hown, hts⟩ (tJ0_length_8abf5 (l := l) s9 hs_s9 ) (cwV 0 hts (gV (wr18 _ (List.mem_of_getElem? (i := 13) rfl)) (wr11 _ (List.mem_of_getElem? (i := 0) rfl)) (wr11 _ (List.mem_of_getElem? (i := 1) rfl)) (wr10 _ (List.mem_of_getElem? (i := 10) rfl)) (wr11 _ (List.mem_of_getElem? (i := 2) rfl))) rfl rfl rfl (by decide +kernel) ⟨Nat.le_of_ble_eq_true rfl, Nat.le_of_ble_eq_true rfl⟩) (sRecv st_s9 hS) (hK.sub [] rfl) hP hD hE hS hA rfl hl.1 rfl (Nat.le_of_ble_eq_true rfl) dX2_readParts_16 ⟨Nat.le_of_ble_eq_true rfl, Nat.le_of_ble_eq_true rfl⟩ (fun r16 w9 H locs hw16 hP hD hS => ?_)
          obtain ⟨rfl, hw16_0⟩ := hw16
          have b_r16 := iB r16
          refine m_icmp_ge (X := l2_4.toInt) (Y := r16.toInt) (tgt := 128) hx hb dX2_readParts_19 (by decide) rfl rfl (fun c19 => ?_) (fun c19 => ?_)
          · skip
            refine lv_iload_n hx hb dX2_readParts_128 rfl (lv_at hl 2 rfl) ?_
            refine m_if_lt (X := l2_4.toInt) (tgt := 136) hx hb dX2_readParts_129 (by decide) rfl (fun c129 => ?_) (fun c129 => ?_)
            · skip
              refine lv_iconst (v := 0) hx hb dX2_readParts_136 (by decide) ?_
              subst hAe
              rw [hQ]
              exact W.zret (v := 0) hx hb hr (by decide) (fun t ht hW => ⟨⟨0, _, rfl, ⟨v_r_negative_4, v_r_namePlace_4, v_r_faultKind_4, v_r_faultPlace_4, v_a_digits_4, v_a_kind_4, v_a_from_4, v_a_to_4, a_si_4, a_sj_4, a_ac_4, rfl, by first | assumption | omega | (intros; omega) | decide, by first | assumption | omega | (intros; omega) | decide, by first | assumption | omega | (intros; omega) | decide⟩, by rw [ht]; exact hP, va_K.moved hW.alike hK, hD⟩, hS.F ht⟩) hS.2.2 dX2_readParts_137
            · skip
              refine lv_iconst (v := 1) hx hb dX2_readParts_132 (by decide) ?_
              refine lv_goto (tgt := 137) hx hb dX2_readParts_133 (by decide) ?_
              subst hAe
              rw [hQ]
              exact W.zret (v := 1) hx hb hr (by decide) (fun t ht hW => ⟨⟨1, _, rfl, ⟨v_r_negative_4, v_r_namePlace_4, v_r_faultKind_4, v_r_faultPlace_4, v_a_digits_4, v_a_kind_4, v_a_from_4, v_a_to_4, a_si_4, a_sj_4, a_ac_4, rfl, by first | assumption | omega | (intros; omega) | decide, by first | assumption | omega | (intros; omega) | decide, by first | assumption | omega | (intros; omega) | decide⟩, by rw [ht]; exact hP, va_K.moved hW.alike hK, hD⟩, hS.F ht⟩) hS.2.2 dX2_readParts_137
          · skip
            refine lv_aload_n hx hb dX2_readParts_22 rfl (lv_at hl 1 rfl) ?_
            refine lv_iload_n hx hb dX2_readParts_23 rfl (lv_at hl 2 rfl) ?_
            refine call_iP (As := [.int l2_4]) (rest := []) ⟨hx, hb, hml, hown, hts⟩ (tJ0_charAt_5068e (l := l) s9 hs_s9 l2_4 (by first | assumption | omega | (intros; omega) | decide) (by first | assumption | omega | (intros; omega) | decide)) (cwV 1 hts (gV (wr18 _ (List.mem_of_getElem? (i := 14) rfl)) (wr14 _ (List.mem_of_getElem? (i := 17) rfl)) (wr14 _ (List.mem_of_getElem? (i := 18) rfl)) (wr10 _ (List.mem_of_getElem? (i := 10) rfl)) (wr14 _ (List.mem_of_getElem? (i := 19) rfl))) rfl rfl rfl (by decide +kernel) ⟨Nat.le_of_ble_eq_true rfl, Nat.le_of_ble_eq_true rfl⟩) (sRecv st_s9 hS) (hK.sub [] rfl) hP hD hE hS hA rfl hl.1 rfl (Nat.le_of_ble_eq_true rfl) dX2_readParts_24 ⟨Nat.le_of_ble_eq_true rfl, Nat.le_of_ble_eq_true rfl⟩ (fun r24 w9 H locs hw24 hP hD hS => ?_)
            obtain ⟨rfl, hw24_0⟩ := hw24
            have b_r24 := iB r24
            refine lv_istore (lv' := [(4, .int r24), (0, .ref (q 7)), (1, .ref (K 0 s9)), (2, .int l2_4), (3, .int l3_4)]) hx hb dX2_readParts_27 hl (by decide) rfl (fun ls hl => ?_)
            refine lv_iload hx hb dX2_readParts_29 (lv_at hl 0 rfl) ?_
            refine lv_bipush (v := 42) hx hb dX2_readParts_31 (by decide) ?_
            have J122 : ∀ (l2_122 : Int32) (a_ac_122 : Nat → Nat → Int32) (a_si_122 : Nat → Nat → Int32) (a_sj_122 : Nat → Int64) (v_a_digits_122 : Int32) (v_a_from_122 : Int32) (v_a_kind_122 : Int32) (v_a_to_122 : Int32) (v_r_faultKind_122 : Int32) (v_r_faultPlace_122 : Int32) (v_r_namePlace_122 : Int32) (v_r_negative_122 : Int32) (H : Heap) (locs : List Loc) (ls : Array Slot), (LI 3100 v_a_size v_a_limit v_a_digits_122 v_a_kind_122 v_a_from_122 v_a_to_122) → (PI a_L a_K a_si_122 a_iv a_inn) → va_P D vwCl (tw cs q v_t_tapeSize v_t_textSize v_t_faultKind a_t_tape a_t_text a_g_beyond v_g_size a_g_steps a_h_beyond v_h_size a_h_steps a_r_scratch a_r_now v_r_takes v_r_negative_122 v_r_namePlace_122 v_r_faultKind_122 v_r_faultPlace_122 v_a_size v_a_limit v_a_digits_122 v_a_kind_122 v_a_from_122 v_a_to_122 v_o_size a_o_out v_b_size v_b_limit v_b_digits v_b_kind v_b_from v_b_to a_u_atom a_u_other a_u_hand v_u_marksMade v_u_came v_u_guesses v_u_right v_u_taken a_u_vars a_u_marks a_u_outcomes a_u_indexes v_s_things v_s_looked v_s_lookedTooOften v_s_arraysMade v_s_cellsMade a_s_classes a_s_starts a_s_lengths a_s_cells a_L a_K a_vc a_vd a_si_122 a_sj_122 a_iv a_inn a_ac_122) H → va_D A (tw cs q v_t_tapeSize v_t_textSize v_t_faultKind a_t_tape a_t_text a_g_beyond v_g_size a_g_steps a_h_beyond v_h_size a_h_steps a_r_scratch a_r_now v_r_takes v_r_negative_122 v_r_namePlace_122 v_r_faultKind_122 v_r_faultPlace_122 v_a_size v_a_limit v_a_digits_122 v_a_kind_122 v_a_from_122 v_a_to_122 v_o_size a_o_out v_b_size v_b_limit v_b_digits v_b_kind v_b_from v_b_to a_u_atom a_u_other a_u_hand v_u_marksMade v_u_came v_u_guesses v_u_right v_u_taken a_u_vars a_u_marks a_u_outcomes a_u_indexes v_s_things v_s_looked v_s_lookedTooOften v_s_arraysMade v_s_cellsMade a_s_classes a_s_starts a_s_lengths a_s_cells a_L a_K a_vc a_vd a_si_122 a_sj_122 a_iv a_inn a_ac_122) → va_S A s.heap H locs → lv_has ls 5 [(0, .ref (q 7)), (1, .ref (K 0 s9)), (2, .int l2_122), (3, .int l3_4)] → W p l e (headSpec (wG yX2_readParts cX2_readParts 5 (some .boolean)) rmX2_readParts).room s m ([.ref (q 7), .ref (K 0 s9)] : List Value).toArray below meth c H locs 0 0 Q (F0 m 122 ls []) := by
              intro l2_122 a_ac_122 a_si_122 a_sj_122 v_a_digits_122 v_a_from_122 v_a_kind_122 v_a_to_122 v_r_faultKind_122 v_r_faultPlace_122 v_r_namePlace_122 v_r_negative_122 H locs ls f122_0 f122_1 hP hD hS hl
              obtain ⟨x122, e_x122⟩ : ∃ z : Int32, z = l3_4 + (1 : Int32) := ⟨_, rfl⟩
              obtain ⟨k_x122, g_x122⟩ : ∃ k : Int, x122.toInt = l3_4.toInt + (1) + k * 4294967296 := by rw [e_x122]; exact iAdd l3_4 (1)
              have b_x122 := iB x122
              try (have q_x122 : x122.toInt = l3_4.toInt + (1) := (by omega); clear g_x122 k_x122)
              refine lv_iinc (v := x122) (lv' := [(3, .int x122), (0, .ref (q 7)), (1, .ref (K 0 s9)), (2, .int l2_122)]) hx hb dX2_readParts_122 hl (k := 3) rfl (by rw [e_x122]; rfl) (by decide) rfl (fun ls hl => ?_)
              refine lv_goto (tgt := 4) hx hb dX2_readParts_125 (by decide) ?_
              exact ih4 l2_122 x122 a_ac_122 a_si_122 a_sj_122 v_a_digits_122 v_a_from_122 v_a_kind_122 v_a_to_122 v_r_faultKind_122 v_r_faultPlace_122 v_r_namePlace_122 v_r_negative_122 H locs ls (by first | assumption | omega | (intros; omega) | decide) (by first | assumption | omega | (intros; omega) | decide) (by first | assumption | omega | (intros; omega) | decide) (by first | assumption | omega | (intros; omega) | decide) (by omega) hP hD hS (lv_sub hl [1, 2, 3, 0] rfl)
            have J50 : ∀ (H : Heap) (locs : List Loc) (ls : Array Slot), (True) → va_P D vwCl (tw cs q v_t_tapeSize v_t_textSize v_t_faultKind a_t_tape a_t_text a_g_beyond v_g_size a_g_steps a_h_beyond v_h_size a_h_steps a_r_scratch a_r_now v_r_takes v_r_negative_4 v_r_namePlace_4 v_r_faultKind_4 v_r_faultPlace_4 v_a_size v_a_limit v_a_digits_4 v_a_kind_4 v_a_from_4 v_a_to_4 v_o_size a_o_out v_b_size v_b_limit v_b_digits v_b_kind v_b_from v_b_to a_u_atom a_u_other a_u_hand v_u_marksMade v_u_came v_u_guesses v_u_right v_u_taken a_u_vars a_u_marks a_u_outcomes a_u_indexes v_s_things v_s_looked v_s_lookedTooOften v_s_arraysMade v_s_cellsMade a_s_classes a_s_starts a_s_lengths a_s_cells a_L a_K a_vc a_vd a_si_4 a_sj_4 a_iv a_inn a_ac_4) H → va_D A (tw cs q v_t_tapeSize v_t_textSize v_t_faultKind a_t_tape a_t_text a_g_beyond v_g_size a_g_steps a_h_beyond v_h_size a_h_steps a_r_scratch a_r_now v_r_takes v_r_negative_4 v_r_namePlace_4 v_r_faultKind_4 v_r_faultPlace_4 v_a_size v_a_limit v_a_digits_4 v_a_kind_4 v_a_from_4 v_a_to_4 v_o_size a_o_out v_b_size v_b_limit v_b_digits v_b_kind v_b_from v_b_to a_u_atom a_u_other a_u_hand v_u_marksMade v_u_came v_u_guesses v_u_right v_u_taken a_u_vars a_u_marks a_u_outcomes a_u_indexes v_s_things v_s_looked v_s_lookedTooOften v_s_arraysMade v_s_cellsMade a_s_classes a_s_starts a_s_lengths a_s_cells a_L a_K a_vc a_vd a_si_4 a_sj_4 a_iv a_inn a_ac_4) → va_S A s.heap H locs → lv_has ls 5 [(0, .ref (q 7)), (1, .ref (K 0 s9)), (2, .int l2_4), (3, .int l3_4), (4, .int r24)] → W p l e (headSpec (wG yX2_readParts cX2_readParts 5 (some .boolean)) rmX2_readParts).room s m ([.ref (q 7), .ref (K 0 s9)] : List Value).toArray below meth c H locs 0 0 Q (F0 m 50 ls []) := by
              intro H locs ls f50_0 hP hD hS hl
              refine lv_aload_n hx hb dX2_readParts_50 rfl (lv_at hl 0 rfl) ?_
              refine lv_iload hx hb dX2_readParts_51 (lv_at hl 4 rfl) ?_
              refine lv_iload_n hx hb dX2_readParts_53 rfl (lv_at hl 2 rfl) ?_
              refine call_i (As := [.int r24, .int l2_4]) (rest := []) ⟨hx, hb, hml, hown, hts⟩ (tX2_readRepeat (l := l) r24 l2_4 (by first | assumption | omega | (intros; omega) | decide) (by first | assumption | omega | (intros; omega) | decide) (by first | assumption | omega | (intros; omega) | decide)) (cwV 2 hts (gV (wr18 _ (List.mem_of_getElem? (i := 15) rfl)) (wr18 _ (List.mem_of_getElem? (i := 16) rfl)) (wr18 _ (List.mem_of_getElem? (i := 17) rfl)) (wr1 _ (List.mem_of_getElem? (i := 23) rfl)) (wr18 _ (List.mem_of_getElem? (i := 18) rfl))) rfl rfl rfl (by decide +kernel) ⟨Nat.le_of_ble_eq_true rfl, Nat.le_of_ble_eq_true rfl⟩) (va_recv hK hP (ci := 1) (q0 := 7) rfl rfl) hK hP hD hE hS hA rfl hl.1 rfl (Nat.le_of_ble_eq_true rfl) dX2_readParts_54 ⟨Nat.le_of_ble_eq_true rfl, Nat.le_of_ble_eq_true rfl⟩ (fun r54 w9 H locs hw54 hP hD hS => ?_)
              obtain ⟨v_r_faultKind_54, v_r_faultPlace_54, v_a_digits_54, v_a_kind_54, v_a_from_54, v_a_to_54, a_si_54, rfl, hw54_0, hw54_1⟩ := hw54
              have b_v_r_faultKind_54 := iB v_r_faultKind_54
              have b_v_r_faultPlace_54 := iB v_r_faultPlace_54
              have b_v_a_digits_54 := iB v_a_digits_54
              have b_v_a_kind_54 := iB v_a_kind_54
              have b_v_a_from_54 := iB v_a_from_54
              have b_v_a_to_54 := iB v_a_to_54
              have b_r54 := iB r54
              refine lv_istore_n (lv' := [(2, .int r54), (0, .ref (q 7)), (1, .ref (K 0 s9)), (3, .int l3_4), (4, .int r24)]) hx hb dX2_readParts_57 rfl hl (by decide) rfl (fun ls hl => ?_)
              refine lv_goto (tgt := 122) hx hb dX2_readParts_58 (by decide) ?_
              exact J122 r54 a_ac_4 a_si_54 a_sj_4 v_a_digits_54 v_a_from_54 v_a_kind_54 v_a_to_54 v_r_faultKind_54 v_r_faultPlace_54 v_r_namePlace_4 v_r_negative_4 H locs ls (by first | assumption | omega | (intros; omega) | decide) (by first | assumption | omega | (intros; omega) | decide) hP hD hS (lv_sub hl [1, 2, 0, 3] rfl)
            refine m_icmp_eq (X := r24.toInt) (Y := 42) (tgt := 50) hx hb dX2_readParts_33 (by decide) rfl (by decide) (fun c33 => ?_) (fun c33 => ?_)
            · skip
              exact J50 H locs ls (by trivial) hP hD hS (lv_sub hl [1, 2, 3, 4, 0] rfl)
            · skip
              refine lv_iload hx hb dX2_readParts_36 (lv_at hl 0 rfl) ?_
              refine lv_bipush (v := 43) hx hb dX2_readParts_38 (by decide) ?_
              refine m_icmp_eq (X := r24.toInt) (Y := 43) (tgt := 50) hx hb dX2_readParts_40 (by decide) rfl (by decide) (fun c40 => ?_) (fun c40 => ?_)
              · skip
                exact J50 H locs ls (by trivial) hP hD hS (lv_sub hl [1, 2, 3, 4, 0] rfl)
              · skip
                refine lv_iload hx hb dX2_readParts_43 (lv_at hl 0 rfl) ?_
                refine lv_bipush (v := 47) hx hb dX2_readParts_45 (by decide) ?_
                refine m_icmp_ne (X := r24.toInt) (Y := 47) (tgt := 61) hx hb dX2_readParts_47 (by decide) rfl (by decide) (fun c47 => ?_) (fun c47 => ?_)
                · skip
                  refine lv_iload hx hb dX2_readParts_61 (lv_at hl 0 rfl) ?_
                  refine lv_bipush (v := 109) hx hb dX2_readParts_63 (by decide) ?_
                  refine m_icmp_ne (X := r24.toInt) (Y := 109) (tgt := 101) hx hb dX2_readParts_65 (by decide) rfl (by decide) (fun c65 => ?_) (fun c65 => ?_)
                  · skip
                    refine lv_aload_n hx hb dX2_readParts_101 rfl (lv_at hl 1 rfl) ?_
                    refine lv_iload hx hb dX2_readParts_102 (lv_at hl 0 rfl) ?_
                    refine call_i (As := [.int r24]) (rest := []) ⟨hx, hb, hml, hown, hts⟩ (tX2_acceptPart (l := l) r24 (by first | assumption | omega | (intros; omega) | decide) (by first | assumption | omega | (intros; omega) | decide) (by first | assumption | omega | (intros; omega) | decide)) (cwV 1 hts (gV (wr19 _ (List.mem_of_getElem? (i := 7) rfl)) (wr19 _ (List.mem_of_getElem? (i := 8) rfl)) (wr19 _ (List.mem_of_getElem? (i := 9) rfl)) (wr1 _ (List.mem_of_getElem? (i := 23) rfl)) (wr19 _ (List.mem_of_getElem? (i := 10) rfl))) rfl rfl rfl (by decide +kernel) ⟨Nat.le_of_ble_eq_true rfl, Nat.le_of_ble_eq_true rfl⟩) (va_recv hK hP (ci := 1) (q0 := 7) rfl rfl) hK hP hD hE hS hA rfl hl.1 rfl (Nat.le_of_ble_eq_true rfl) dX2_readParts_104 ⟨Nat.le_of_ble_eq_true rfl, Nat.le_of_ble_eq_true rfl⟩ (fun r104 w9 H locs hw104 hP hD hS => ?_)
                    obtain ⟨v_r_namePlace_104, v_r_faultKind_104, v_r_faultPlace_104, a_si_104, a_sj_104, a_ac_104, rfl, hw104_0, hw104_1⟩ := hw104
                    have b_v_r_namePlace_104 := iB v_r_namePlace_104
                    have b_v_r_faultKind_104 := iB v_r_faultKind_104
                    have b_v_r_faultPlace_104 := iB v_r_faultPlace_104
                    have b_r104 := iB r104
                    refine m_if_ne (X := r104.toInt) (tgt := 112) hx hb dX2_readParts_107 (by decide) rfl (fun c107 => ?_) (fun c107 => ?_)
                    · skip
                      refine lv_aload_n hx hb dX2_readParts_112 rfl (lv_at hl 1 rfl) ?_
                      refine va_get (D := D) (ci := 1) (v := .ref (q 8)) (C := RX2) (T := TX2) (N := 8) hx hb hts hinX2 hown hK hP 7 rfl rfl 0 (by decide) k_3_11 (fun _ h9 => h9) rfl dX2_readParts_113 ?_
                      refine call_v (As := []) (rest := []) ⟨hx, hb, hml, hown, hts⟩ (tX1_next_qa (l := l)  (by first | assumption | exact LI.z (by assumption))) (cwV 0 hts (gV (wr9 _ (List.mem_of_getElem? (i := 17) rfl)) (wr9 _ (List.mem_of_getElem? (i := 18) rfl)) (wr9 _ (List.mem_of_getElem? (i := 19) rfl)) (wr2 _ (List.mem_of_getElem? (i := 2) rfl)) (wr9 _ (List.mem_of_getElem? (i := 20) rfl))) rfl rfl rfl (by decide +kernel) ⟨Nat.le_of_ble_eq_true rfl, Nat.le_of_ble_eq_true rfl⟩) (va_recv hK hP (ci := 0) (q0 := 8) rfl rfl) hK hP hD hE hS hA rfl hl.1 rfl (Nat.le_of_ble_eq_true rfl) dX2_readParts_116 ⟨Nat.le_of_ble_eq_true rfl, Nat.le_of_ble_eq_true rfl⟩ (fun w9 H locs hw116 hP hD hS => ?_)
                      obtain ⟨v_a_digits_116, v_a_kind_116, v_a_from_116, v_a_to_116, rfl, hw116_0⟩ := hw116
                      have b_v_a_digits_116 := iB v_a_digits_116
                      have b_v_a_kind_116 := iB v_a_kind_116
                      have b_v_a_from_116 := iB v_a_from_116
                      have b_v_a_to_116 := iB v_a_to_116
                      obtain ⟨x119, e_x119⟩ : ∃ z : Int32, z = l2_4 + (1 : Int32) := ⟨_, rfl⟩
                      obtain ⟨k_x119, g_x119⟩ : ∃ k : Int, x119.toInt = l2_4.toInt + (1) + k * 4294967296 := by rw [e_x119]; exact iAdd l2_4 (1)
                      have b_x119 := iB x119
                      try (have q_x119 : x119.toInt = l2_4.toInt + (1) := (by omega); clear g_x119 k_x119)
                      refine lv_iinc (v := x119) (lv' := [(2, .int x119), (4, .int r24), (0, .ref (q 7)), (1, .ref (K 0 s9)), (3, .int l3_4)]) hx hb dX2_readParts_119 hl (k := 3) rfl (by rw [e_x119]; rfl) (by decide) rfl (fun ls hl => ?_)
                      exact J122 x119 a_ac_104 a_si_104 a_sj_104 v_a_digits_116 v_a_from_116 v_a_kind_116 v_a_to_116 v_r_faultKind_104 v_r_faultPlace_104 v_r_namePlace_104 v_r_negative_4 H locs ls (by first | assumption | omega | (intros; omega) | decide) (by first | assumption | omega | (intros; omega) | decide) hP hD hS (lv_sub hl [2, 3, 0, 4] rfl)
                    · skip
                      refine lv_iconst (v := 0) hx hb dX2_readParts_110 (by decide) ?_
                      subst hAe
                      rw [hQ]
                      exact W.zret (v := 0) hx hb hr (by decide) (fun t ht hW => ⟨⟨0, _, rfl, ⟨v_r_negative_4, v_r_namePlace_104, v_r_faultKind_104, v_r_faultPlace_104, v_a_digits_4, v_a_kind_4, v_a_from_4, v_a_to_4, a_si_104, a_sj_104, a_ac_104, rfl, by first | assumption | omega | (intros; omega) | decide, by first | assumption | omega | (intros; omega) | decide, by first | assumption | omega | (intros; omega) | decide⟩, by rw [ht]; exact hP, va_K.moved hW.alike hK, hD⟩, hS.F ht⟩) hS.2.2 dX2_readParts_111
                  · skip
                    refine lv_aload_n hx hb dX2_readParts_68 rfl (lv_at hl 1 rfl) ?_
                    refine lv_aload_n hx hb dX2_readParts_69 rfl (lv_at hl 1 rfl) ?_
                    refine va_get (D := D) (ci := 1) (v := .ref (q 8)) (C := RX2) (T := TX2) (N := 8) hx hb hts hinX2 hown hK hP 7 rfl rfl 0 (by decide) k_3_11 (fun _ h9 => h9) rfl dX2_readParts_70 ?_
                    refine lv_bipush (v := 45) hx hb dX2_readParts_73 (by decide) ?_
                    refine call_i (As := [.int 45]) (rest := [.ref (q 7)]) ⟨hx, hb, hml, hown, hts⟩ (tX1_isSign_qa (l := l) (45 : Int32) (by first | assumption | omega | (intros; omega) | decide)) (cwV 1 hts (gV (wr17 _ (List.mem_of_getElem? (i := 18) rfl)) (wr17 _ (List.mem_of_getElem? (i := 19) rfl)) (wr17 _ (List.mem_of_getElem? (i := 20) rfl)) (wr2 _ (List.mem_of_getElem? (i := 2) rfl)) (wr17 _ (List.mem_of_getElem? (i := 21) rfl))) rfl rfl rfl (by decide +kernel) ⟨Nat.le_of_ble_eq_true rfl, Nat.le_of_ble_eq_true rfl⟩) (va_recv hK hP (ci := 0) (q0 := 8) rfl rfl) hK hP hD hE hS hA rfl hl.1 rfl (Nat.le_of_ble_eq_true rfl) dX2_readParts_75 ⟨Nat.le_of_ble_eq_true rfl, Nat.le_of_ble_eq_true rfl⟩ (fun r75 w9 H locs hw75 hP hD hS => ?_)
                    obtain ⟨rfl, hw75_0⟩ := hw75
                    have b_r75 := iB r75
                    refine va_put (D := D) (ci := 1) (v := .int r75) (ty := .boolean) (C := RX2) (T := TX2) (N := 8) hx hb hts hinX2 tyX2 tyX2_ok nmX2 hown hK hP hD hS 7 rfl rfl 4 (by decide) k_9_2 (fun _ h9 => h9) rfl (by decide +kernel) (nbool (by omega)) (nboolf (by omega)) (Nat.le_of_ble_eq_true rfl) dX2_readParts_78 (fun H locs hP hD hS => ?_)
                    have hP : va_P D vwCl (tw cs q v_t_tapeSize v_t_textSize v_t_faultKind a_t_tape a_t_text a_g_beyond v_g_size a_g_steps a_h_beyond v_h_size a_h_steps a_r_scratch a_r_now v_r_takes r75 v_r_namePlace_4 v_r_faultKind_4 v_r_faultPlace_4 v_a_size v_a_limit v_a_digits_4 v_a_kind_4 v_a_from_4 v_a_to_4 v_o_size a_o_out v_b_size v_b_limit v_b_digits v_b_kind v_b_from v_b_to a_u_atom a_u_other a_u_hand v_u_marksMade v_u_came v_u_guesses v_u_right v_u_taken a_u_vars a_u_marks a_u_outcomes a_u_indexes v_s_things v_s_looked v_s_lookedTooOften v_s_arraysMade v_s_cellsMade a_s_classes a_s_starts a_s_lengths a_s_cells a_L a_K a_vc a_vd a_si_4 a_sj_4 a_iv a_inn a_ac_4) H := hP
                    have hD : va_D A (tw cs q v_t_tapeSize v_t_textSize v_t_faultKind a_t_tape a_t_text a_g_beyond v_g_size a_g_steps a_h_beyond v_h_size a_h_steps a_r_scratch a_r_now v_r_takes r75 v_r_namePlace_4 v_r_faultKind_4 v_r_faultPlace_4 v_a_size v_a_limit v_a_digits_4 v_a_kind_4 v_a_from_4 v_a_to_4 v_o_size a_o_out v_b_size v_b_limit v_b_digits v_b_kind v_b_from v_b_to a_u_atom a_u_other a_u_hand v_u_marksMade v_u_came v_u_guesses v_u_right v_u_taken a_u_vars a_u_marks a_u_outcomes a_u_indexes v_s_things v_s_looked v_s_lookedTooOften v_s_arraysMade v_s_cellsMade a_s_classes a_s_starts a_s_lengths a_s_cells a_L a_K a_vc a_vd a_si_4 a_sj_4 a_iv a_inn a_ac_4) := hD
                    refine lv_aload_n hx hb dX2_readParts_81 rfl (lv_at hl 1 rfl) ?_
                    refine va_get (D := D) (ci := 1) (v := .int r75) (C := RX2) (T := TX2) (N := 8) hx hb hts hinX2 hown hK hP 7 rfl rfl 4 (by decide) k_9_2 (fun _ h9 => h9) rfl dX2_readParts_82 ?_
                    have J95 : ∀ (v_a_digits_95 : Int32) (v_a_from_95 : Int32) (v_a_kind_95 : Int32) (v_a_to_95 : Int32) (H : Heap) (locs : List Loc) (ls : Array Slot), (LI 3100 v_a_size v_a_limit v_a_digits_95 v_a_kind_95 v_a_from_95 v_a_to_95) → va_P D vwCl (tw cs q v_t_tapeSize v_t_textSize v_t_faultKind a_t_tape a_t_text a_g_beyond v_g_size a_g_steps a_h_beyond v_h_size a_h_steps a_r_scratch a_r_now v_r_takes r75 v_r_namePlace_4 v_r_faultKind_4 v_r_faultPlace_4 v_a_size v_a_limit v_a_digits_95 v_a_kind_95 v_a_from_95 v_a_to_95 v_o_size a_o_out v_b_size v_b_limit v_b_digits v_b_kind v_b_from v_b_to a_u_atom a_u_other a_u_hand v_u_marksMade v_u_came v_u_guesses v_u_right v_u_taken a_u_vars a_u_marks a_u_outcomes a_u_indexes v_s_things v_s_looked v_s_lookedTooOften v_s_arraysMade v_s_cellsMade a_s_classes a_s_starts a_s_lengths a_s_cells a_L a_K a_vc a_vd a_si_4 a_sj_4 a_iv a_inn a_ac_4) H → va_D A (tw cs q v_t_tapeSize v_t_textSize v_t_faultKind a_t_tape a_t_text a_g_beyond v_g_size a_g_steps a_h_beyond v_h_size a_h_steps a_r_scratch a_r_now v_r_takes r75 v_r_namePlace_4 v_r_faultKind_4 v_r_faultPlace_4 v_a_size v_a_limit v_a_digits_95 v_a_kind_95 v_a_from_95 v_a_to_95 v_o_size a_o_out v_b_size v_b_limit v_b_digits v_b_kind v_b_from v_b_to a_u_atom a_u_other a_u_hand v_u_marksMade v_u_came v_u_guesses v_u_right v_u_taken a_u_vars a_u_marks a_u_outcomes a_u_indexes v_s_things v_s_looked v_s_lookedTooOften v_s_arraysMade v_s_cellsMade a_s_classes a_s_starts a_s_lengths a_s_cells a_L a_K a_vc a_vd a_si_4 a_sj_4 a_iv a_inn a_ac_4) → va_S A s.heap H locs → lv_has ls 5 [(0, .ref (q 7)), (1, .ref (K 0 s9)), (2, .int l2_4), (3, .int l3_4)] → W p l e (headSpec (wG yX2_readParts cX2_readParts 5 (some .boolean)) rmX2_readParts).room s m ([.ref (q 7), .ref (K 0 s9)] : List Value).toArray below meth c H locs 0 0 Q (F0 m 95 ls []) := by
                      intro v_a_digits_95 v_a_from_95 v_a_kind_95 v_a_to_95 H locs ls f95_0 hP hD hS hl
                      obtain ⟨x95, e_x95⟩ : ∃ z : Int32, z = l2_4 + (1 : Int32) := ⟨_, rfl⟩
                      obtain ⟨k_x95, g_x95⟩ : ∃ k : Int, x95.toInt = l2_4.toInt + (1) + k * 4294967296 := by rw [e_x95]; exact iAdd l2_4 (1)
                      have b_x95 := iB x95
                      try (have q_x95 : x95.toInt = l2_4.toInt + (1) := (by omega); clear g_x95 k_x95)
                      refine lv_iinc (v := x95) (lv' := [(2, .int x95), (0, .ref (q 7)), (1, .ref (K 0 s9)), (3, .int l3_4)]) hx hb dX2_readParts_95 hl (k := 2) rfl (by rw [e_x95]; rfl) (by decide) rfl (fun ls hl => ?_)
                      refine lv_goto (tgt := 122) hx hb dX2_readParts_98 (by decide) ?_
                      exact J122 x95 a_ac_4 a_si_4 a_sj_4 v_a_digits_95 v_a_from_95 v_a_kind_95 v_a_to_95 v_r_faultKind_4 v_r_faultPlace_4 v_r_namePlace_4 r75 H locs ls (by first | assumption | omega | (intros; omega) | decide) (by first | assumption | omega | (intros; omega) | decide) hP hD hS (lv_sub hl [1, 2, 0, 3] rfl)
                    refine m_if_eq (X := r75.toInt) (tgt := 95) hx hb dX2_readParts_85 (by decide) rfl (fun c85 => ?_) (fun c85 => ?_)
                    · skip
                      exact J95 v_a_digits_4 v_a_from_4 v_a_kind_4 v_a_to_4 H locs ls (by first | assumption | omega | (intros; omega) | decide) hP hD hS (lv_sub hl [1, 2, 3, 4] rfl)
                    · skip
                      refine lv_aload_n hx hb dX2_readParts_88 rfl (lv_at hl 1 rfl) ?_
                      refine va_get (D := D) (ci := 1) (v := .ref (q 8)) (C := RX2) (T := TX2) (N := 8) hx hb hts hinX2 hown hK hP 7 rfl rfl 0 (by decide) k_3_11 (fun _ h9 => h9) rfl dX2_readParts_89 ?_
                      refine call_v (As := []) (rest := []) ⟨hx, hb, hml, hown, hts⟩ (tX1_next_qa (l := l)  (by first | assumption | exact LI.z (by assumption))) (cwV 0 hts (gV (wr9 _ (List.mem_of_getElem? (i := 17) rfl)) (wr9 _ (List.mem_of_getElem? (i := 18) rfl)) (wr9 _ (List.mem_of_getElem? (i := 19) rfl)) (wr2 _ (List.mem_of_getElem? (i := 2) rfl)) (wr9 _ (List.mem_of_getElem? (i := 20) rfl))) rfl rfl rfl (by decide +kernel) ⟨Nat.le_of_ble_eq_true rfl, Nat.le_of_ble_eq_true rfl⟩) (va_recv hK hP (ci := 0) (q0 := 8) rfl rfl) hK hP hD hE hS hA rfl hl.1 rfl (Nat.le_of_ble_eq_true rfl) dX2_readParts_92 ⟨Nat.le_of_ble_eq_true rfl, Nat.le_of_ble_eq_true rfl⟩ (fun w9 H locs hw92 hP hD hS => ?_)
                      obtain ⟨v_a_digits_92, v_a_kind_92, v_a_from_92, v_a_to_92, rfl, hw92_0⟩ := hw92
                      have b_v_a_digits_92 := iB v_a_digits_92
                      have b_v_a_kind_92 := iB v_a_kind_92
                      have b_v_a_from_92 := iB v_a_from_92
                      have b_v_a_to_92 := iB v_a_to_92
                      exact J95 v_a_digits_92 v_a_from_92 v_a_kind_92 v_a_to_92 H locs ls (by first | assumption | omega | (intros; omega) | decide) hP hD hS (lv_sub hl [1, 2, 3, 4] rfl)
                · skip
                  exact J50 H locs ls (by trivial) hP hD hS (lv_sub hl [1, 2, 3, 4, 0] rfl)
  exact J4 ((100 - (0 : Int32).toInt).toNat + 1) (0 : Int32) (0 : Int32) a_ac a_si a_sj v_a_digits v_a_from v_a_kind v_a_to v_r_faultKind v_r_faultPlace v_r_namePlace v_r_negative H locs ls (by first | assumption | omega | (intros; omega) | decide) (by first | assumption | omega | (intros; omega) | decide) (by first | assumption | omega | (intros; omega) | decide) (by first | assumption | omega | (intros; omega) | decide) (by omega) hP hD hS (lv_sub hl [2, 3, 1, 0] rfl)

def rmX2_readClassAlone : Room := { frames := 200, cells := 0, slots := 0, locals := 4000 }
set_option maxHeartbeats 4000000 in
set_option maxRecDepth 100000 in
theorem tX2_readClassAlone {l : Launch} {D : va_G} {K : Nat → Nat → Nat} {cs : Nat → ClassId} {q : Nat → Nat} {v_t_tapeSize v_t_textSize v_t_faultKind v_g_size v_h_size v_r_takes v_r_negative v_r_namePlace v_r_faultKind v_r_faultPlace v_a_size v_a_limit v_a_digits v_a_kind v_a_from v_a_to v_o_size v_b_size v_b_limit v_b_digits v_b_kind v_b_from v_b_to v_u_marksMade v_u_came v_u_guesses v_u_right v_u_taken v_s_things v_s_looked v_s_lookedTooOften v_s_arraysMade v_s_cellsMade : Int32} {a_t_tape a_t_text a_o_out a_u_outcomes a_u_indexes a_s_classes a_s_starts a_s_lengths a_vc : Nat → Int32} {a_g_beyond a_h_beyond a_r_scratch a_r_now a_u_atom a_u_other a_u_hand : Nat} {a_g_steps a_h_steps a_u_vars a_u_marks : Nat → Option Nat} {a_s_cells a_vd a_sj : Nat → Int64} {a_L : List Nat} {a_K a_iv a_inn : Nat → Nat} {a_si a_ac : Nat → Nat → Int32} (n9 : Int32) (p_0 : LI 3100 v_a_size v_a_limit v_a_digits v_a_kind v_a_from v_a_to) (p_1 : PI a_L a_K a_si a_iv a_inn) (p_2 : RF a_L a_K a_g_beyond a_h_beyond a_r_scratch a_g_steps a_h_steps a_u_atom a_u_other a_u_hand a_u_vars a_u_marks) : CtI l yX2_readClassAlone (wG yX2_readClassAlone cX2_readClassAlone 2 (some .int)) rmX2_readClassAlone D (twT cs) K [.ref (q 7), .int n9] (tw cs q v_t_tapeSize v_t_textSize v_t_faultKind a_t_tape a_t_text a_g_beyond v_g_size a_g_steps a_h_beyond v_h_size a_h_steps a_r_scratch a_r_now v_r_takes v_r_negative v_r_namePlace v_r_faultKind v_r_faultPlace v_a_size v_a_limit v_a_digits v_a_kind v_a_from v_a_to v_o_size a_o_out v_b_size v_b_limit v_b_digits v_b_kind v_b_from v_b_to a_u_atom a_u_other a_u_hand v_u_marksMade v_u_came v_u_guesses v_u_right v_u_taken a_u_vars a_u_marks a_u_outcomes a_u_indexes v_s_things v_s_looked v_s_lookedTooOften v_s_arraysMade v_s_cellsMade a_s_classes a_s_starts a_s_lengths a_s_cells a_L a_K a_vc a_vd a_si a_sj a_iv a_inn a_ac) (fun r w1 => ∃ (a_r_now' : Nat) (v_r_takes' : Int32) (v_r_negative' : Int32) (v_r_namePlace' : Int32) (v_r_faultKind' : Int32) (v_r_faultPlace' : Int32) (v_a_size' : Int32) (v_a_limit' : Int32) (v_a_digits' : Int32) (v_a_kind' : Int32) (v_a_from' : Int32) (v_a_to' : Int32) (a_si' : Nat → Nat → Int32) (a_sj' : Nat → Int64) (a_ac' : Nat → Nat → Int32), w1 = (tw cs q v_t_tapeSize v_t_textSize v_t_faultKind a_t_tape a_t_text a_g_beyond v_g_size a_g_steps a_h_beyond v_h_size a_h_steps a_r_scratch a_r_now' v_r_takes' v_r_negative' v_r_namePlace' v_r_faultKind' v_r_faultPlace' v_a_size' v_a_limit' v_a_digits' v_a_kind' v_a_from' v_a_to' v_o_size a_o_out v_b_size v_b_limit v_b_digits v_b_kind v_b_from v_b_to a_u_atom a_u_other a_u_hand v_u_marksMade v_u_came v_u_guesses v_u_right v_u_taken a_u_vars a_u_marks a_u_outcomes a_u_indexes v_s_things v_s_looked v_s_lookedTooOften v_s_arraysMade v_s_cellsMade a_s_classes a_s_starts a_s_lengths a_s_cells a_L a_K a_vc a_vd a_si' a_sj' a_iv a_inn a_ac') ∧ (LI 3100 v_a_size' v_a_limit' v_a_digits' v_a_kind' v_a_from' v_a_to') ∧ (PI a_L a_K a_si' a_iv a_inn) ∧ (aS a_L a_K a_r_now')) 0 0 := by
  intro sz
  refine Met.ofW (cc := cX2_readClassAlone) (maxL := 2) (ret := (some .int)) (by decide) rfl ?_
  intro p e s m args below meth c s₁ B hml hv
  obtain ⟨rfl, hsz, hP, hK, hD0, hE⟩ := hv
  have hx := B.exec
  have hb := B.bytes
  have hr := B.returns
  have hts := atoms_spec (ws := (wG yX2_readClassAlone cX2_readClassAlone 2 (some .int))) B.pre
  have hown : s.vm.findClass RX2 = some m.cls := findClass_of_methodNamed B.named
  have hlocks := B.notSynchronized
  subst hsz
  have hD := hD0.self (sz := s.heap.size)
  obtain ⟨A, hAe⟩ : ∃ A : Nat → Prop, A = va_A (tw cs q v_t_tapeSize v_t_textSize v_t_faultKind a_t_tape a_t_text a_g_beyond v_g_size a_g_steps a_h_beyond v_h_size a_h_steps a_r_scratch a_r_now v_r_takes v_r_negative v_r_namePlace v_r_faultKind v_r_faultPlace v_a_size v_a_limit v_a_digits v_a_kind v_a_from v_a_to v_o_size a_o_out v_b_size v_b_limit v_b_digits v_b_kind v_b_from v_b_to a_u_atom a_u_other a_u_hand v_u_marksMade v_u_came v_u_guesses v_u_right v_u_taken a_u_vars a_u_marks a_u_outcomes a_u_indexes v_s_things v_s_looked v_s_lookedTooOften v_s_arraysMade v_s_cellsMade a_s_classes a_s_starts a_s_lengths a_s_cells a_L a_K a_vc a_vd a_si a_sj a_iv a_inn a_ac) s.heap.size := ⟨_, rfl⟩
  rw [← hAe] at hD hE
  have hA : ∀ q : Nat, s.heap.size ≤ q → A q := fun q h => by rw [hAe]; exact Or.inr h
  have hS : va_S A s.heap s.heap [] := va_S.rf
  have hl := lv_entry ([.ref (q 7), .int n9]) (n := 2) (Nat.le_of_ble_eq_true rfl)
  rw [lg_entry_eq]
  generalize (lg_sl ([.ref (q 7), .int n9]) ++ List.replicate (2 - (lg_sl ([.ref (q 7), .int n9])).length) Slot.unset).toArray = ls at hl ⊢
  have hl : lv_has ls 2 [(0, .ref (q 7)), (1, .int n9)] := hl
  refine wq (fun Q hQ => ?_)
  have hinX1 : ∀ w ∈ wsX10, w ∈ (wG yX2_readClassAlone cX2_readClassAlone 2 (some .int)) := fun w h => List.mem_cons_of_mem _ (inlX1 w h)
  have hinX2 : ∀ w ∈ wsX20, w ∈ (wG yX2_readClassAlone cX2_readClassAlone 2 (some .int)) := fun w h => List.mem_cons_of_mem _ (inlX2 w h)
  have hinX6 : ∀ w ∈ wsX60, w ∈ (wG yX2_readClassAlone cX2_readClassAlone 2 (some .int)) := fun w h => List.mem_cons_of_mem _ (inlX6 w h)
  have kc0 : (-1 : Int32).toInt = -1 := by decide
  have kc1 : (0 : Int32).toInt = 0 := by decide
  have kc2 : (3100 : Int32).toInt = 3100 := by decide
  have k_3_13 := hts (.fieldLink RX2 18 "ArrayTrainer$Parser" "scratch" "LArrayTrainer$Step;") (List.mem_cons_of_mem _ (wr3 _ (List.mem_of_getElem? (i := 13) rfl)))
  have k_3_14 := hts (.fieldLink RX2 22 "ArrayTrainer$Parser" "now" "LArrayTrainer$Step;") (List.mem_cons_of_mem _ (wr3 _ (List.mem_of_getElem? (i := 14) rfl)))
  have k_3_11 := hts (.fieldLink RX2 9 "ArrayTrainer$Parser" "lexer" "LArrayTrainer$Lexer;") (List.mem_cons_of_mem _ (wr3 _ (List.mem_of_getElem? (i := 11) rfl)))
  have k_8_17 := hts (.fieldLink RX2 35 "ArrayTrainer$Lexer" "kind" "I") (List.mem_cons_of_mem _ (wr8 _ (List.mem_of_getElem? (i := 17) rfl)))
  have k_19_1 := hts (.fieldLink RX2 78 "ArrayTrainer$Step" "cls" "I") (List.mem_cons_of_mem _ (wr19 _ (List.mem_of_getElem? (i := 1) rfl)))
  obtain ⟨H, hH⟩ : ∃ H : Heap, H = s.heap := ⟨_, rfl⟩
  obtain ⟨locs, hlc⟩ : ∃ L : List Loc, L = [] := ⟨_, rfl⟩
  have hP : va_P D vwCl (tw cs q v_t_tapeSize v_t_textSize v_t_faultKind a_t_tape a_t_text a_g_beyond v_g_size a_g_steps a_h_beyond v_h_size a_h_steps a_r_scratch a_r_now v_r_takes v_r_negative v_r_namePlace v_r_faultKind v_r_faultPlace v_a_size v_a_limit v_a_digits v_a_kind v_a_from v_a_to v_o_size a_o_out v_b_size v_b_limit v_b_digits v_b_kind v_b_from v_b_to a_u_atom a_u_other a_u_hand v_u_marksMade v_u_came v_u_guesses v_u_right v_u_taken a_u_vars a_u_marks a_u_outcomes a_u_indexes v_s_things v_s_looked v_s_lookedTooOften v_s_arraysMade v_s_cellsMade a_s_classes a_s_starts a_s_lengths a_s_cells a_L a_K a_vc a_vd a_si a_sj a_iv a_inn a_ac) H := by rw [hH]; exact hP
  have hS : va_S A s.heap H locs := by rw [hH, hlc]; exact hS
  refine wHL hH hlc ?_
  have b_n9 := iB n9
  refine lv_aload_n hx hb dX2_readClassAlone_0 rfl (lv_at hl 0 rfl) ?_
  refine lv_iload_n hx hb dX2_readClassAlone_1 rfl (lv_at hl 1 rfl) ?_
  refine lv_sipush (v := 3100) hx hb dX2_readClassAlone_2 (by decide) ?_
  refine call_v (As := [.int n9, .int 3100]) (rest := []) ⟨hx, hb, hml, hown, hts⟩ (tX2_start (l := l) n9 (3100 : Int32) (by first | assumption | omega | (intros; omega) | decide) (by first | assumption | omega | (intros; omega) | decide) (by first | assumption | omega | (intros; omega) | decide)) (cwV 2 hts (gV (wr8 _ (List.mem_of_getElem? (i := 19) rfl)) (wr8 _ (List.mem_of_getElem? (i := 20) rfl)) (wr8 _ (List.mem_of_getElem? (i := 21) rfl)) (wr1 _ (List.mem_of_getElem? (i := 23) rfl)) (wr8 _ (List.mem_of_getElem? (i := 22) rfl))) rfl rfl rfl (by decide +kernel) ⟨Nat.le_of_ble_eq_true rfl, Nat.le_of_ble_eq_true rfl⟩) (va_recv hK hP (ci := 1) (q0 := 7) rfl rfl) hK hP hD hE hS hA rfl hl.1 rfl (Nat.le_of_ble_eq_true rfl) dX2_readClassAlone_5 ⟨Nat.le_of_ble_eq_true rfl, Nat.le_of_ble_eq_true rfl⟩ (fun w9 H locs hw5 hP hD hS => ?_)
  obtain ⟨v_r_takes_5, v_r_negative_5, v_r_faultKind_5, v_r_faultPlace_5, v_a_size_5, v_a_limit_5, v_a_digits_5, v_a_kind_5, v_a_from_5, v_a_to_5, rfl, hw5_0⟩ := hw5
  have b_v_r_takes_5 := iB v_r_takes_5
  have b_v_r_negative_5 := iB v_r_negative_5
  have b_v_r_faultKind_5 := iB v_r_faultKind_5
  have b_v_r_faultPlace_5 := iB v_r_faultPlace_5
  have b_v_a_size_5 := iB v_a_size_5
  have b_v_a_limit_5 := iB v_a_limit_5
  have b_v_a_digits_5 := iB v_a_digits_5
  have b_v_a_kind_5 := iB v_a_kind_5
  have b_v_a_from_5 := iB v_a_from_5
  have b_v_a_to_5 := iB v_a_to_5
  refine lv_aload_n hx hb dX2_readClassAlone_8 rfl (lv_at hl 0 rfl) ?_
  refine lv_aload_n hx hb dX2_readClassAlone_9 rfl (lv_at hl 0 rfl) ?_
  have hf10 : aS a_L a_K a_r_scratch := by first | assumption | exact RF.z_rS (by assumption)
  refine va_get (D := D) (ci := 1) (v := .ref a_r_scratch) (C := RX2) (T := TX2) (N := 8) hx hb hts hinX2 hown hK hP 7 rfl rfl 1 (by decide) k_3_13 (fun _ h9 => h9) rfl dX2_readClassAlone_10 ?_
  refine va_put (D := D) (ci := 1) (v := .ref a_r_scratch) (ty := (.object "ArrayTrainer$Step")) (C := RX2) (T := TX2) (N := 8) hx hb hts hinX2 tyX2 tyX2_ok nmX2 hown hK hP hD hS 7 rfl rfl 2 (by decide) k_3_14 (fun _ h9 => h9) rfl (by decide +kernel) rfl rfl (Nat.le_of_ble_eq_true rfl) dX2_readClassAlone_13 (fun H locs hP hD hS => ?_)
  have hP : va_P D vwCl (tw cs q v_t_tapeSize v_t_textSize v_t_faultKind a_t_tape a_t_text a_g_beyond v_g_size a_g_steps a_h_beyond v_h_size a_h_steps a_r_scratch a_r_scratch v_r_takes_5 v_r_negative_5 v_r_namePlace v_r_faultKind_5 v_r_faultPlace_5 v_a_size_5 v_a_limit_5 v_a_digits_5 v_a_kind_5 v_a_from_5 v_a_to_5 v_o_size a_o_out v_b_size v_b_limit v_b_digits v_b_kind v_b_from v_b_to a_u_atom a_u_other a_u_hand v_u_marksMade v_u_came v_u_guesses v_u_right v_u_taken a_u_vars a_u_marks a_u_outcomes a_u_indexes v_s_things v_s_looked v_s_lookedTooOften v_s_arraysMade v_s_cellsMade a_s_classes a_s_starts a_s_lengths a_s_cells a_L a_K a_vc a_vd a_si a_sj a_iv a_inn a_ac) H := hP
  have hD : va_D A (tw cs q v_t_tapeSize v_t_textSize v_t_faultKind a_t_tape a_t_text a_g_beyond v_g_size a_g_steps a_h_beyond v_h_size a_h_steps a_r_scratch a_r_scratch v_r_takes_5 v_r_negative_5 v_r_namePlace v_r_faultKind_5 v_r_faultPlace_5 v_a_size_5 v_a_limit_5 v_a_digits_5 v_a_kind_5 v_a_from_5 v_a_to_5 v_o_size a_o_out v_b_size v_b_limit v_b_digits v_b_kind v_b_from v_b_to a_u_atom a_u_other a_u_hand v_u_marksMade v_u_came v_u_guesses v_u_right v_u_taken a_u_vars a_u_marks a_u_outcomes a_u_indexes v_s_things v_s_looked v_s_lookedTooOften v_s_arraysMade v_s_cellsMade a_s_classes a_s_starts a_s_lengths a_s_cells a_L a_K a_vc a_vd a_si a_sj a_iv a_inn a_ac) := hD
  refine lv_aload_n hx hb dX2_readClassAlone_16 rfl (lv_at hl 0 rfl) ?_
  have hf17 : aS a_L a_K a_r_scratch := by first | assumption
  refine va_get (D := D) (ci := 1) (v := .ref a_r_scratch) (C := RX2) (T := TX2) (N := 8) hx hb hts hinX2 hown hK hP 7 rfl rfl 2 (by decide) k_3_14 (fun _ h9 => h9) rfl dX2_readClassAlone_17 ?_
  refine lv_iconst (v := 0) hx hb dX2_readClassAlone_20 (by decide) ?_
  obtain ⟨k21_, hk21_⟩ := pl_S (X := (twX cs q v_t_tapeSize v_t_textSize v_t_faultKind a_t_tape a_t_text a_g_beyond v_g_size a_g_steps a_h_beyond v_h_size a_h_steps a_r_scratch a_r_scratch v_r_takes_5 v_r_negative_5 v_r_namePlace v_r_faultKind_5 v_r_faultPlace_5 v_a_size_5 v_a_limit_5 v_a_digits_5 v_a_kind_5 v_a_from_5 v_a_to_5 v_o_size a_o_out v_b_size v_b_limit v_b_digits v_b_kind v_b_from v_b_to a_u_atom a_u_other a_u_hand v_u_marksMade v_u_came v_u_guesses v_u_right v_u_taken a_u_vars a_u_marks a_u_outcomes a_u_indexes v_s_things v_s_looked v_s_lookedTooOften v_s_arraysMade v_s_cellsMade a_s_classes a_s_starts a_s_lengths a_s_cells)) (cI := cs 0) (vc := a_vc) (vd := a_vd) (si := a_si) (sj := a_sj) (iv := a_iv) (inn := a_inn) (ac := a_ac) hf17
  refine call_v (As := [.int 0]) (rest := []) ⟨hx, hb, hml, hown, hts⟩ (tX6_clear (l := l) a_r_scratch hf17 (0 : Int32) (by first | assumption | omega | (intros; omega) | decide)) (cwV 1 hts (gV (wr16 _ (List.mem_of_getElem? (i := 4) rfl)) (wr16 _ (List.mem_of_getElem? (i := 5) rfl)) (wr16 _ (List.mem_of_getElem? (i := 6) rfl)) (wr2 _ (List.mem_of_getElem? (i := 18) rfl)) (wr16 _ (List.mem_of_getElem? (i := 7) rfl))) rfl rfl rfl (by decide +kernel) ⟨Nat.le_of_ble_eq_true rfl, Nat.le_of_ble_eq_true rfl⟩) (va_recv hK hP (ci := 5) (q0 := k21_) rfl hk21_) hK hP hD hE hS hA rfl hl.1 rfl (Nat.le_of_ble_eq_true rfl) dX2_readClassAlone_21 ⟨Nat.le_of_ble_eq_true rfl, Nat.le_of_ble_eq_true rfl⟩ (fun w9 H locs hw21 hP hD hS => ?_)
  obtain ⟨a_si_21, a_sj_21, rfl, hw21_0⟩ := hw21
  refine lv_aload_n hx hb dX2_readClassAlone_24 rfl (lv_at hl 0 rfl) ?_
  refine va_ldcS hx hb hown (ld_27 hE) dX2_readClassAlone_25 ?_
  refine call_i (As := [.ref (K 0 27)]) (rest := []) ⟨hx, hb, hml, hown, hts⟩ (tX2_readParts (l := l) 27 so_27 (by first | assumption | omega | (intros; omega) | decide) (by first | assumption | omega | (intros; omega) | decide) (by first | assumption | omega | (intros; omega) | decide)) (cwV 1 hts (gV (wr18 _ (List.mem_of_getElem? (i := 9) rfl)) (wr18 _ (List.mem_of_getElem? (i := 10) rfl)) (wr18 _ (List.mem_of_getElem? (i := 11) rfl)) (wr1 _ (List.mem_of_getElem? (i := 23) rfl)) (wr18 _ (List.mem_of_getElem? (i := 12) rfl))) rfl rfl rfl (by decide +kernel) ⟨Nat.le_of_ble_eq_true rfl, Nat.le_of_ble_eq_true rfl⟩) (va_recv hK hP (ci := 1) (q0 := 7) rfl rfl) hK hP hD hE hS hA rfl hl.1 rfl (Nat.le_of_ble_eq_true rfl) dX2_readClassAlone_27 ⟨Nat.le_of_ble_eq_true rfl, Nat.le_of_ble_eq_true rfl⟩ (fun r27 w9 H locs hw27 hP hD hS => ?_)
  obtain ⟨v_r_negative_27, v_r_namePlace_27, v_r_faultKind_27, v_r_faultPlace_27, v_a_digits_27, v_a_kind_27, v_a_from_27, v_a_to_27, a_si_27, a_sj_27, a_ac_27, rfl, hw27_0, hw27_1, hw27_2⟩ := hw27
  have b_v_r_negative_27 := iB v_r_negative_27
  have b_v_r_namePlace_27 := iB v_r_namePlace_27
  have b_v_r_faultKind_27 := iB v_r_faultKind_27
  have b_v_r_faultPlace_27 := iB v_r_faultPlace_27
  have b_v_a_digits_27 := iB v_a_digits_27
  have b_v_a_kind_27 := iB v_a_kind_27
  have b_v_a_from_27 := iB v_a_from_27
  have b_v_a_to_27 := iB v_a_to_27
  have b_r27 := iB r27
  refine m_if_eq (X := r27.toInt) (tgt := 53) hx hb dX2_readClassAlone_30 (by decide) rfl (fun c30 => ?_) (fun c30 => ?_)
  · skip
    refine lv_iconst (v := (-1)) hx hb dX2_readClassAlone_53 (by decide) ?_
    subst hAe
    rw [hQ]
    exact W.iret (v := (-1)) hx hb hr (fun t ht hW => ⟨⟨(-1), _, rfl, ⟨a_r_scratch, v_r_takes_5, v_r_negative_27, v_r_namePlace_27, v_r_faultKind_27, v_r_faultPlace_27, v_a_size_5, v_a_limit_5, v_a_digits_27, v_a_kind_27, v_a_from_27, v_a_to_27, a_si_27, a_sj_27, a_ac_27, rfl, by first | assumption | omega | (intros; omega) | decide, by first | assumption | omega | (intros; omega) | decide, by first | assumption | omega | (intros; omega) | decide⟩, by rw [ht]; exact hP, va_K.moved hW.alike hK, hD⟩, hS.F ht⟩) hS.2.2 dX2_readClassAlone_54
  · skip
    refine lv_aload_n hx hb dX2_readClassAlone_33 rfl (lv_at hl 0 rfl) ?_
    refine va_get (D := D) (ci := 1) (v := .ref (q 8)) (C := RX2) (T := TX2) (N := 8) hx hb hts hinX2 hown hK hP 7 rfl rfl 0 (by decide) k_3_11 (fun _ h9 => h9) rfl dX2_readClassAlone_34 ?_
    refine va_get (D := D) (ci := 0) (v := .int v_a_kind_27) (C := RX1) (T := TX1) (N := 7) hx hb hts hinX1 hown hK hP 8 rfl rfl 4 (by decide) k_8_17 (fun _ h9 => h9) rfl dX2_readClassAlone_37 ?_
    refine m_if_ne (X := v_a_kind_27.toInt) (tgt := 53) hx hb dX2_readClassAlone_40 (by decide) rfl (fun c40 => ?_) (fun c40 => ?_)
    · skip
      refine lv_iconst (v := (-1)) hx hb dX2_readClassAlone_53 (by decide) ?_
      subst hAe
      rw [hQ]
      exact W.iret (v := (-1)) hx hb hr (fun t ht hW => ⟨⟨(-1), _, rfl, ⟨a_r_scratch, v_r_takes_5, v_r_negative_27, v_r_namePlace_27, v_r_faultKind_27, v_r_faultPlace_27, v_a_size_5, v_a_limit_5, v_a_digits_27, v_a_kind_27, v_a_from_27, v_a_to_27, a_si_27, a_sj_27, a_ac_27, rfl, by first | assumption | omega | (intros; omega) | decide, by first | assumption | omega | (intros; omega) | decide, by first | assumption | omega | (intros; omega) | decide⟩, by rw [ht]; exact hP, va_K.moved hW.alike hK, hD⟩, hS.F ht⟩) hS.2.2 dX2_readClassAlone_54
    · skip
      refine lv_aload_n hx hb dX2_readClassAlone_43 rfl (lv_at hl 0 rfl) ?_
      have hf44 : aS a_L a_K a_r_scratch := by first | assumption
      refine va_get (D := D) (ci := 1) (v := .ref a_r_scratch) (C := RX2) (T := TX2) (N := 8) hx hb hts hinX2 hown hK hP 7 rfl rfl 2 (by decide) k_3_14 (fun _ h9 => h9) rfl dX2_readClassAlone_44 ?_
      obtain ⟨k47_, hk47_⟩ := pl_S (X := (twX cs q v_t_tapeSize v_t_textSize v_t_faultKind a_t_tape a_t_text a_g_beyond v_g_size a_g_steps a_h_beyond v_h_size a_h_steps a_r_scratch a_r_scratch v_r_takes_5 v_r_negative_27 v_r_namePlace_27 v_r_faultKind_27 v_r_faultPlace_27 v_a_size_5 v_a_limit_5 v_a_digits_27 v_a_kind_27 v_a_from_27 v_a_to_27 v_o_size a_o_out v_b_size v_b_limit v_b_digits v_b_kind v_b_from v_b_to a_u_atom a_u_other a_u_hand v_u_marksMade v_u_came v_u_guesses v_u_right v_u_taken a_u_vars a_u_marks a_u_outcomes a_u_indexes v_s_things v_s_looked v_s_lookedTooOften v_s_arraysMade v_s_cellsMade a_s_classes a_s_starts a_s_lengths a_s_cells)) (cI := cs 0) (vc := a_vc) (vd := a_vd) (si := a_si_27) (sj := a_sj_27) (iv := a_iv) (inn := a_inn) (ac := a_ac_27) hf44
      refine va_get (D := D) (ci := 5) (v := .int (a_si_27 a_r_scratch 7)) (C := RX6) (T := TX6) (N := 15) hx hb hts hinX6 hown hK hP k47_ hk47_ rfl 7 (by decide) k_19_1 (fun _ h9 => h9) rfl dX2_readClassAlone_47 ?_
      refine lv_topi (fun x47 e_x47 => ?_)
      have b_x47 := iB x47
      refine lv_goto (tgt := 54) hx hb dX2_readClassAlone_50 (by decide) ?_
      subst hAe
      rw [hQ]
      exact W.iret (v := x47) hx hb hr (fun t ht hW => ⟨⟨x47, _, rfl, ⟨a_r_scratch, v_r_takes_5, v_r_negative_27, v_r_namePlace_27, v_r_faultKind_27, v_r_faultPlace_27, v_a_size_5, v_a_limit_5, v_a_digits_27, v_a_kind_27, v_a_from_27, v_a_to_27, a_si_27, a_sj_27, a_ac_27, rfl, by first | assumption | omega | (intros; omega) | decide, by first | assumption | omega | (intros; omega) | decide, by first | assumption | omega | (intros; omega) | decide⟩, by rw [ht]; exact hP, va_K.moved hW.alike hK, hD⟩, hS.F ht⟩) hS.2.2 dX2_readClassAlone_54
