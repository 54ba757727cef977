def rmX1_isSmall : Room := { frames := 20, cells := 0, slots := 0, locals := 400 }
set_option maxHeartbeats 4000000 in
set_option maxRecDepth 100000 in
theorem tX1_isSmall {l : Launch} {D : va_G} {K : Nat → Nat → Nat} (g9 : Int32) : CtI l yX1_isSmall (wG yX1_isSmall cX1_isSmall 1 (some .boolean)) rmX1_isSmall D [] K [.int g9] [] (fun r w1 => w1 = [] ∧ (r.toInt = 0 ∨ r.toInt = 1)) 0 0 := by
  intro sz
  refine Met.ofW (cc := cX1_isSmall) (maxL := 1) (ret := (some .boolean)) (by decide) rfl ?_
  intro p e s m args below meth c s₁ B hml hv
  obtain ⟨rfl, hsz, hP, hK, hD0, hE⟩ := hv
  have hx := B.exec
  have hb := B.bytes
  have hr := B.returns
  have hts := atoms_spec (ws := (wG yX1_isSmall cX1_isSmall 1 (some .boolean))) B.pre
  have hown : s.vm.findClass RX1 = some m.cls := findClass_of_methodNamed B.named
  have hlocks := B.notSynchronized
  subst hsz
  have hD := hD0.self (sz := s.heap.size)
  obtain ⟨A, hAe⟩ : ∃ A : Nat → Prop, A = va_A [] s.heap.size := ⟨_, rfl⟩
  rw [← hAe] at hD hE
  have hA : ∀ q : Nat, s.heap.size ≤ q → A q := fun q h => by rw [hAe]; exact Or.inr h
  have hS : va_S A s.heap s.heap [] := va_S.rf
  have hl := lv_entry ([.int g9]) (n := 1) (Nat.le_of_ble_eq_true rfl)
  rw [lg_entry_eq]
  generalize (lg_sl ([.int g9]) ++ List.replicate (1 - (lg_sl ([.int g9])).length) Slot.unset).toArray = ls at hl ⊢
  have hl : lv_has ls 1 [(0, .int g9)] := hl
  refine wq (fun Q hQ => ?_)
  have kc0 : (0 : Int32).toInt = 0 := by decide
  have kc1 : (1 : Int32).toInt = 1 := by decide
  have kc2 : (48 : Int32).toInt = 48 := by decide
  have kc3 : (57 : Int32).toInt = 57 := by decide
  have kc4 : (97 : Int32).toInt = 97 := by decide
  have kc5 : (122 : Int32).toInt = 122 := by decide
  obtain ⟨H, hH⟩ : ∃ H : Heap, H = s.heap := ⟨_, rfl⟩
  obtain ⟨locs, hlc⟩ : ∃ L : List Loc, L = [] := ⟨_, rfl⟩
  have hP : va_P D vwCl [] H := by rw [hH]; exact hP
  have hS : va_S A s.heap H locs := by rw [hH, hlc]; exact hS
  refine wHL hH hlc ?_
  have b_g9 := iB g9
  refine lv_iload_n hx hb dX1_isSmall_0 rfl (lv_at hl 0 rfl) ?_
  refine lv_bipush (v := 97) hx hb dX1_isSmall_1 (by decide) ?_
  refine m_icmp_lt (X := g9.toInt) (Y := 97) (tgt := 12) hx hb dX1_isSmall_3 (by decide) rfl (by decide) (fun c3 => ?_) (fun c3 => ?_)
  · skip
    refine lv_iload_n hx hb dX1_isSmall_12 rfl (lv_at hl 0 rfl) ?_
    refine lv_bipush (v := 48) hx hb dX1_isSmall_13 (by decide) ?_
    refine m_icmp_lt (X := g9.toInt) (Y := 48) (tgt := 28) hx hb dX1_isSmall_15 (by decide) rfl (by decide) (fun c15 => ?_) (fun c15 => ?_)
    · skip
      refine lv_iconst (v := 0) hx hb dX1_isSmall_28 (by decide) ?_
      subst hAe
      rw [hQ]
      exact W.zret (v := 0) hx hb hr (by decide) (fun t ht hW => ⟨⟨0, _, rfl, ⟨rfl, by first | assumption | omega | (intros; omega) | decide⟩, by rw [ht]; exact hP, va_K.moved hW.alike hK, hD⟩, hS.F ht⟩) hS.2.2 dX1_isSmall_29
    · skip
      refine lv_iload_n hx hb dX1_isSmall_18 rfl (lv_at hl 0 rfl) ?_
      refine lv_bipush (v := 57) hx hb dX1_isSmall_19 (by decide) ?_
      refine m_icmp_gt (X := g9.toInt) (Y := 57) (tgt := 28) hx hb dX1_isSmall_21 (by decide) rfl (by decide) (fun c21 => ?_) (fun c21 => ?_)
      · skip
        refine lv_iconst (v := 0) hx hb dX1_isSmall_28 (by decide) ?_
        subst hAe
        rw [hQ]
        exact W.zret (v := 0) hx hb hr (by decide) (fun t ht hW => ⟨⟨0, _, rfl, ⟨rfl, by first | assumption | omega | (intros; omega) | decide⟩, by rw [ht]; exact hP, va_K.moved hW.alike hK, hD⟩, hS.F ht⟩) hS.2.2 dX1_isSmall_29
      · skip
        refine lv_iconst (v := 1) hx hb dX1_isSmall_24 (by decide) ?_
        refine lv_goto (tgt := 29) hx hb dX1_isSmall_25 (by decide) ?_
        subst hAe
        rw [hQ]
        exact W.zret (v := 1) hx hb hr (by decide) (fun t ht hW => ⟨⟨1, _, rfl, ⟨rfl, by first | assumption | omega | (intros; omega) | decide⟩, by rw [ht]; exact hP, va_K.moved hW.alike hK, hD⟩, hS.F ht⟩) hS.2.2 dX1_isSmall_29
  · skip
    refine lv_iload_n hx hb dX1_isSmall_6 rfl (lv_at hl 0 rfl) ?_
    refine lv_bipush (v := 122) hx hb dX1_isSmall_7 (by decide) ?_
    refine m_icmp_le (X := g9.toInt) (Y := 122) (tgt := 24) hx hb dX1_isSmall_9 (by decide) rfl (by decide) (fun c9 => ?_) (fun c9 => ?_)
    · skip
      refine lv_iconst (v := 1) hx hb dX1_isSmall_24 (by decide) ?_
      refine lv_goto (tgt := 29) hx hb dX1_isSmall_25 (by decide) ?_
      subst hAe
      rw [hQ]
      exact W.zret (v := 1) hx hb hr (by decide) (fun t ht hW => ⟨⟨1, _, rfl, ⟨rfl, by first | assumption | omega | (intros; omega) | decide⟩, by rw [ht]; exact hP, va_K.moved hW.alike hK, hD⟩, hS.F ht⟩) hS.2.2 dX1_isSmall_29
    · skip
      refine lv_iload_n hx hb dX1_isSmall_12 rfl (lv_at hl 0 rfl) ?_
      refine lv_bipush (v := 48) hx hb dX1_isSmall_13 (by decide) ?_
      refine m_icmp_lt (X := g9.toInt) (Y := 48) (tgt := 28) hx hb dX1_isSmall_15 (by decide) rfl (by decide) (fun c15 => ?_) (fun c15 => ?_)
      · skip
        refine lv_iconst (v := 0) hx hb dX1_isSmall_28 (by decide) ?_
        subst hAe
        rw [hQ]
        exact W.zret (v := 0) hx hb hr (by decide) (fun t ht hW => ⟨⟨0, _, rfl, ⟨rfl, by first | assumption | omega | (intros; omega) | decide⟩, by rw [ht]; exact hP, va_K.moved hW.alike hK, hD⟩, hS.F ht⟩) hS.2.2 dX1_isSmall_29
      · skip
        refine lv_iload_n hx hb dX1_isSmall_18 rfl (lv_at hl 0 rfl) ?_
        refine lv_bipush (v := 57) hx hb dX1_isSmall_19 (by decide) ?_
        refine m_icmp_gt (X := g9.toInt) (Y := 57) (tgt := 28) hx hb dX1_isSmall_21 (by decide) rfl (by decide) (fun c21 => ?_) (fun c21 => ?_)
        · skip
          refine lv_iconst (v := 0) hx hb dX1_isSmall_28 (by decide) ?_
          subst hAe
          rw [hQ]
          exact W.zret (v := 0) hx hb hr (by decide) (fun t ht hW => ⟨⟨0, _, rfl, ⟨rfl, by first | assumption | omega | (intros; omega) | decide⟩, by rw [ht]; exact hP, va_K.moved hW.alike hK, hD⟩, hS.F ht⟩) hS.2.2 dX1_isSmall_29
        · skip
          refine lv_iconst (v := 1) hx hb dX1_isSmall_24 (by decide) ?_
          refine lv_goto (tgt := 29) hx hb dX1_isSmall_25 (by decide) ?_
          subst hAe
          rw [hQ]
          exact W.zret (v := 1) hx hb hr (by decide) (fun t ht hW => ⟨⟨1, _, rfl, ⟨rfl, by first | assumption | omega | (intros; omega) | decide⟩, by rw [ht]; exact hP, va_K.moved hW.alike hK, hD⟩, hS.F ht⟩) hS.2.2 dX1_isSmall_29

def rmX1_open_qa : Room := { frames := 20, cells := 0, slots := 0, locals := 400 }
set_option maxHeartbeats 4000000 in
set_option maxRecDepth 100000 in
theorem tX1_open_qa {l : Launch} {D : va_G} {K : Nat → Nat → Nat} {cs : Nat → ClassId} {q : Nat → Nat} {v_t_tapeSize v_t_textSize v_t_faultKind v_g_size v_h_size v_r_takes v_r_negative v_r_namePlace v_r_faultKind v_r_faultPlace v_a_size v_a_limit v_a_digits v_a_kind v_a_from v_a_to v_o_size v_b_size v_b_limit v_b_digits v_b_kind v_b_from v_b_to v_u_marksMade v_u_came v_u_guesses v_u_right v_u_taken v_s_things v_s_looked v_s_lookedTooOften v_s_arraysMade v_s_cellsMade : Int32} {a_t_tape a_t_text a_o_out a_u_outcomes a_u_indexes a_s_classes a_s_starts a_s_lengths a_vc : Nat → Int32} {a_g_beyond a_h_beyond a_r_scratch a_r_now a_u_atom a_u_other a_u_hand : Nat} {a_g_steps a_h_steps a_u_vars a_u_marks : Nat → Option Nat} {a_s_cells a_vd a_sj : Nat → Int64} {a_L : List Nat} {a_K a_iv a_inn : Nat → Nat} {a_si a_ac : Nat → Nat → Int32} (n9 : Int32) (m9 : Int32) (a9 : Int32) (p_0 : 0 ≤ v_a_digits.toInt) (p_1 : v_a_digits.toInt ≤ 3100) (p_2 : 0 ≤ m9.toInt) (p_3 : m9.toInt ≤ 3100) : CtV l yX1_open (wG yX1_open cX1_open 4 none) rmX1_open_qa D (twT cs) K [.ref (q 8), .int n9, .int m9, .int a9] (tw cs q v_t_tapeSize v_t_textSize v_t_faultKind a_t_tape a_t_text a_g_beyond v_g_size a_g_steps a_h_beyond v_h_size a_h_steps a_r_scratch a_r_now v_r_takes v_r_negative v_r_namePlace v_r_faultKind v_r_faultPlace v_a_size v_a_limit v_a_digits v_a_kind v_a_from v_a_to v_o_size a_o_out v_b_size v_b_limit v_b_digits v_b_kind v_b_from v_b_to a_u_atom a_u_other a_u_hand v_u_marksMade v_u_came v_u_guesses v_u_right v_u_taken a_u_vars a_u_marks a_u_outcomes a_u_indexes v_s_things v_s_looked v_s_lookedTooOften v_s_arraysMade v_s_cellsMade a_s_classes a_s_starts a_s_lengths a_s_cells a_L a_K a_vc a_vd a_si a_sj a_iv a_inn a_ac) (fun w1 => ∃ (v_a_size' : Int32) (v_a_limit' : Int32) (v_a_to' : Int32), w1 = (tw cs q v_t_tapeSize v_t_textSize v_t_faultKind a_t_tape a_t_text a_g_beyond v_g_size a_g_steps a_h_beyond v_h_size a_h_steps a_r_scratch a_r_now v_r_takes v_r_negative v_r_namePlace v_r_faultKind v_r_faultPlace v_a_size' v_a_limit' v_a_digits v_a_kind v_a_from v_a_to' v_o_size a_o_out v_b_size v_b_limit v_b_digits v_b_kind v_b_from v_b_to a_u_atom a_u_other a_u_hand v_u_marksMade v_u_came v_u_guesses v_u_right v_u_taken a_u_vars a_u_marks a_u_outcomes a_u_indexes v_s_things v_s_looked v_s_lookedTooOften v_s_arraysMade v_s_cellsMade a_s_classes a_s_starts a_s_lengths a_s_cells a_L a_K a_vc a_vd a_si a_sj a_iv a_inn a_ac) ∧ (LI0 3100 v_a_size' v_a_limit' v_a_digits v_a_to')) 0 0 := by
  intro sz
  refine Met.ofW (cc := cX1_open) (maxL := 4) (ret := none) (by decide) rfl ?_
  intro p e s m args below meth c s₁ B hml hv
  obtain ⟨rfl, hsz, hP, hK, hD0, hE⟩ := hv
  have hx := B.exec
  have hb := B.bytes
  have hr := B.returns
  have hts := atoms_spec (ws := (wG yX1_open cX1_open 4 none)) B.pre
  have hown : s.vm.findClass RX1 = some m.cls := findClass_of_methodNamed B.named
  have hlocks := B.notSynchronized
  subst hsz
  have hD := hD0.self (sz := s.heap.size)
  obtain ⟨A, hAe⟩ : ∃ A : Nat → Prop, A = va_A (tw cs q v_t_tapeSize v_t_textSize v_t_faultKind a_t_tape a_t_text a_g_beyond v_g_size a_g_steps a_h_beyond v_h_size a_h_steps a_r_scratch a_r_now v_r_takes v_r_negative v_r_namePlace v_r_faultKind v_r_faultPlace v_a_size v_a_limit v_a_digits v_a_kind v_a_from v_a_to v_o_size a_o_out v_b_size v_b_limit v_b_digits v_b_kind v_b_from v_b_to a_u_atom a_u_other a_u_hand v_u_marksMade v_u_came v_u_guesses v_u_right v_u_taken a_u_vars a_u_marks a_u_outcomes a_u_indexes v_s_things v_s_looked v_s_lookedTooOften v_s_arraysMade v_s_cellsMade a_s_classes a_s_starts a_s_lengths a_s_cells a_L a_K a_vc a_vd a_si a_sj a_iv a_inn a_ac) s.heap.size := ⟨_, rfl⟩
  rw [← hAe] at hD hE
  have hA : ∀ q : Nat, s.heap.size ≤ q → A q := fun q h => by rw [hAe]; exact Or.inr h
  have hS : va_S A s.heap s.heap [] := va_S.rf
  have hl := lv_entry ([.ref (q 8), .int n9, .int m9, .int a9]) (n := 4) (Nat.le_of_ble_eq_true rfl)
  rw [lg_entry_eq]
  generalize (lg_sl ([.ref (q 8), .int n9, .int m9, .int a9]) ++ List.replicate (4 - (lg_sl ([.ref (q 8), .int n9, .int m9, .int a9])).length) Slot.unset).toArray = ls at hl ⊢
  have hl : lv_has ls 4 [(0, .ref (q 8)), (1, .int n9), (2, .int m9), (3, .int a9)] := hl
  refine wq (fun Q hQ => ?_)
  have hinX1 : ∀ w ∈ wsX10, w ∈ (wG yX1_open cX1_open 4 none) := fun w h => List.mem_cons_of_mem _ (inlX1 w h)
  have kc0 : (0 : Int32).toInt = 0 := by decide
  have k_3_6 := hts (.fieldLink RX1 9 "ArrayTrainer$Lexer" "text" "[B") (List.mem_cons_of_mem _ (wr3 _ (List.mem_of_getElem? (i := 6) rfl)))
  have k_9_7 := hts (.methodLink RX1 15 Lib.Math.min.name) (List.mem_cons_of_mem _ (wr9 _ (List.mem_of_getElem? (i := 7) rfl)))
  have k_9_8 := hts (.static Lib.Math.min.name) (List.mem_cons_of_mem _ (wr9 _ (List.mem_of_getElem? (i := 8) rfl)))
  have k_9_9 := hts (.initialized "java/lang/Math") (List.mem_cons_of_mem _ (wr9 _ (List.mem_of_getElem? (i := 9) rfl)))
  have k_9_10 := hts (.code Lib.Math.min.name Lib.Math.min.code 2 (some .int)) (List.mem_cons_of_mem _ (wr9 _ (List.mem_of_getElem? (i := 10) rfl)))
  have k_9_11 := hts (.methodLink RX1 21 Lib.Math.max.name) (List.mem_cons_of_mem _ (wr9 _ (List.mem_of_getElem? (i := 11) rfl)))
  have k_9_12 := hts (.static Lib.Math.max.name) (List.mem_cons_of_mem _ (wr9 _ (List.mem_of_getElem? (i := 12) rfl)))
  have k_9_13 := hts (.code Lib.Math.max.name Lib.Math.max.code 2 (some .int)) (List.mem_cons_of_mem _ (wr9 _ (List.mem_of_getElem? (i := 13) rfl)))
  have k_9_14 := hts (.fieldLink RX1 24 "ArrayTrainer$Lexer" "size" "I") (List.mem_cons_of_mem _ (wr9 _ (List.mem_of_getElem? (i := 14) rfl)))
  have k_9_15 := hts (.fieldLink RX1 28 "ArrayTrainer$Lexer" "limit" "I") (List.mem_cons_of_mem _ (wr9 _ (List.mem_of_getElem? (i := 15) rfl)))
  have k_9_16 := hts (.fieldLink RX1 31 "ArrayTrainer$Lexer" "to" "I") (List.mem_cons_of_mem _ (wr9 _ (List.mem_of_getElem? (i := 16) rfl)))
  obtain ⟨H, hH⟩ : ∃ H : Heap, H = s.heap := ⟨_, rfl⟩
  obtain ⟨locs, hlc⟩ : ∃ L : List Loc, L = [] := ⟨_, rfl⟩
  have hP : va_P D vwCl (tw cs q v_t_tapeSize v_t_textSize v_t_faultKind a_t_tape a_t_text a_g_beyond v_g_size a_g_steps a_h_beyond v_h_size a_h_steps a_r_scratch a_r_now v_r_takes v_r_negative v_r_namePlace v_r_faultKind v_r_faultPlace v_a_size v_a_limit v_a_digits v_a_kind v_a_from v_a_to v_o_size a_o_out v_b_size v_b_limit v_b_digits v_b_kind v_b_from v_b_to a_u_atom a_u_other a_u_hand v_u_marksMade v_u_came v_u_guesses v_u_right v_u_taken a_u_vars a_u_marks a_u_outcomes a_u_indexes v_s_things v_s_looked v_s_lookedTooOften v_s_arraysMade v_s_cellsMade a_s_classes a_s_starts a_s_lengths a_s_cells a_L a_K a_vc a_vd a_si a_sj a_iv a_inn a_ac) H := by rw [hH]; exact hP
  have hS : va_S A s.heap H locs := by rw [hH, hlc]; exact hS
  refine wHL hH hlc ?_
  have b_n9 := iB n9
  have b_m9 := iB m9
  have b_a9 := iB a9
  refine lv_aload_n hx hb dX1_open_0 rfl (lv_at hl 0 rfl) ?_
  refine lv_iconst (v := 0) hx hb dX1_open_1 (by decide) ?_
  refine lv_iload_n hx hb dX1_open_2 rfl (lv_at hl 1 rfl) ?_
  refine lv_aload_n hx hb dX1_open_3 rfl (lv_at hl 0 rfl) ?_
  refine va_get (D := D) (ci := 0) (v := .ref (q 1)) (C := RX1) (T := TX1) (N := 7) hx hb hts hinX1 hown hK hP 8 rfl rfl 0 (by decide) k_3_6 (fun _ h9 => h9) rfl dX1_open_4 ?_
  refine m_alen hx hb hK hP 1 2 rfl rfl (show 3100 < 2147483648 by decide) dX1_open_7 (fun x7 g_x7 => ?_)
  have g_x7 : x7.toInt = 3100 := g_x7
  refine m_mmin (X := n9.toInt) (Y := x7.toInt) hx hb (by rw [hml]; exact hl.1.symm) hown k_9_7 k_9_8 k_9_9 k_9_10 (Nat.le_of_ble_eq_true rfl) (Nat.le_of_ble_eq_true rfl) (Nat.le_of_ble_eq_true rfl) (Nat.le_of_ble_eq_true rfl) rfl rfl dX1_open_8 (fun x8 g_x8 => ?_)
  have b_x8 := iB x8
  refine m_mmax (X := 0) (Y := x8.toInt) hx hb (by rw [hml]; exact hl.1.symm) hown k_9_11 k_9_12 k_9_9 k_9_13 (Nat.le_of_ble_eq_true rfl) (Nat.le_of_ble_eq_true rfl) (Nat.le_of_ble_eq_true rfl) (Nat.le_of_ble_eq_true rfl) (by decide) rfl dX1_open_11 (fun x11 g_x11 => ?_)
  have b_x11 := iB x11
  refine va_put (D := D) (ci := 0) (v := .int x11) (ty := .int) (C := RX1) (T := TX1) (N := 7) hx hb hts hinX1 tyX1 tyX1_ok nmX1 hown hK hP hD hS 8 rfl rfl 1 (by decide) k_9_14 (fun _ h9 => h9) rfl (by decide +kernel) rfl rfl (Nat.le_of_ble_eq_true rfl) dX1_open_14 (fun H locs hP hD hS => ?_)
  have hP : va_P D vwCl (tw cs q v_t_tapeSize v_t_textSize v_t_faultKind a_t_tape a_t_text a_g_beyond v_g_size a_g_steps a_h_beyond v_h_size a_h_steps a_r_scratch a_r_now v_r_takes v_r_negative v_r_namePlace v_r_faultKind v_r_faultPlace x11 v_a_limit v_a_digits v_a_kind v_a_from v_a_to v_o_size a_o_out v_b_size v_b_limit v_b_digits v_b_kind v_b_from v_b_to a_u_atom a_u_other a_u_hand v_u_marksMade v_u_came v_u_guesses v_u_right v_u_taken a_u_vars a_u_marks a_u_outcomes a_u_indexes v_s_things v_s_looked v_s_lookedTooOften v_s_arraysMade v_s_cellsMade a_s_classes a_s_starts a_s_lengths a_s_cells a_L a_K a_vc a_vd a_si a_sj a_iv a_inn a_ac) H := hP
  have hD : va_D A (tw cs q v_t_tapeSize v_t_textSize v_t_faultKind a_t_tape a_t_text a_g_beyond v_g_size a_g_steps a_h_beyond v_h_size a_h_steps a_r_scratch a_r_now v_r_takes v_r_negative v_r_namePlace v_r_faultKind v_r_faultPlace x11 v_a_limit v_a_digits v_a_kind v_a_from v_a_to v_o_size a_o_out v_b_size v_b_limit v_b_digits v_b_kind v_b_from v_b_to a_u_atom a_u_other a_u_hand v_u_marksMade v_u_came v_u_guesses v_u_right v_u_taken a_u_vars a_u_marks a_u_outcomes a_u_indexes v_s_things v_s_looked v_s_lookedTooOften v_s_arraysMade v_s_cellsMade a_s_classes a_s_starts a_s_lengths a_s_cells a_L a_K a_vc a_vd a_si a_sj a_iv a_inn a_ac) := hD
  refine lv_aload_n hx hb dX1_open_17 rfl (lv_at hl 0 rfl) ?_
  refine lv_iload_n hx hb dX1_open_18 rfl (lv_at hl 2 rfl) ?_
  refine va_put (D := D) (ci := 0) (v := .int m9) (ty := .int) (C := RX1) (T := TX1) (N := 7) hx hb hts hinX1 tyX1 tyX1_ok nmX1 hown hK hP hD hS 8 rfl rfl 2 (by decide) k_9_15 (fun _ h9 => h9) rfl (by decide +kernel) rfl rfl (Nat.le_of_ble_eq_true rfl) dX1_open_19 (fun H locs hP hD hS => ?_)
  have hP : va_P D vwCl (tw cs q v_t_tapeSize v_t_textSize v_t_faultKind a_t_tape a_t_text a_g_beyond v_g_size a_g_steps a_h_beyond v_h_size a_h_steps a_r_scratch a_r_now v_r_takes v_r_negative v_r_namePlace v_r_faultKind v_r_faultPlace x11 m9 v_a_digits v_a_kind v_a_from v_a_to v_o_size a_o_out v_b_size v_b_limit v_b_digits v_b_kind v_b_from v_b_to a_u_atom a_u_other a_u_hand v_u_marksMade v_u_came v_u_guesses v_u_right v_u_taken a_u_vars a_u_marks a_u_outcomes a_u_indexes v_s_things v_s_looked v_s_lookedTooOften v_s_arraysMade v_s_cellsMade a_s_classes a_s_starts a_s_lengths a_s_cells a_L a_K a_vc a_vd a_si a_sj a_iv a_inn a_ac) H := hP
  have hD : va_D A (tw cs q v_t_tapeSize v_t_textSize v_t_faultKind a_t_tape a_t_text a_g_beyond v_g_size a_g_steps a_h_beyond v_h_size a_h_steps a_r_scratch a_r_now v_r_takes v_r_negative v_r_namePlace v_r_faultKind v_r_faultPlace x11 m9 v_a_digits v_a_kind v_a_from v_a_to v_o_size a_o_out v_b_size v_b_limit v_b_digits v_b_kind v_b_from v_b_to a_u_atom a_u_other a_u_hand v_u_marksMade v_u_came v_u_guesses v_u_right v_u_taken a_u_vars a_u_marks a_u_outcomes a_u_indexes v_s_things v_s_looked v_s_lookedTooOften v_s_arraysMade v_s_cellsMade a_s_classes a_s_starts a_s_lengths a_s_cells a_L a_K a_vc a_vd a_si a_sj a_iv a_inn a_ac) := hD
  refine lv_aload_n hx hb dX1_open_22 rfl (lv_at hl 0 rfl) ?_
  refine lv_iconst (v := 0) hx hb dX1_open_23 (by decide) ?_
  refine lv_iload_n hx hb dX1_open_24 rfl (lv_at hl 3 rfl) ?_
  refine m_mmax (X := 0) (Y := a9.toInt) hx hb (by rw [hml]; exact hl.1.symm) hown k_9_11 k_9_12 k_9_9 k_9_13 (Nat.le_of_ble_eq_true rfl) (Nat.le_of_ble_eq_true rfl) (Nat.le_of_ble_eq_true rfl) (Nat.le_of_ble_eq_true rfl) (by decide) rfl dX1_open_25 (fun x25 g_x25 => ?_)
  have b_x25 := iB x25
  refine va_put (D := D) (ci := 0) (v := .int x25) (ty := .int) (C := RX1) (T := TX1) (N := 7) hx hb hts hinX1 tyX1 tyX1_ok nmX1 hown hK hP hD hS 8 rfl rfl 6 (by decide) k_9_16 (fun _ h9 => h9) rfl (by decide +kernel) rfl rfl (Nat.le_of_ble_eq_true rfl) dX1_open_28 (fun H locs hP hD hS => ?_)
  have hP : va_P D vwCl (tw cs q v_t_tapeSize v_t_textSize v_t_faultKind a_t_tape a_t_text a_g_beyond v_g_size a_g_steps a_h_beyond v_h_size a_h_steps a_r_scratch a_r_now v_r_takes v_r_negative v_r_namePlace v_r_faultKind v_r_faultPlace x11 m9 v_a_digits v_a_kind v_a_from x25 v_o_size a_o_out v_b_size v_b_limit v_b_digits v_b_kind v_b_from v_b_to a_u_atom a_u_other a_u_hand v_u_marksMade v_u_came v_u_guesses v_u_right v_u_taken a_u_vars a_u_marks a_u_outcomes a_u_indexes v_s_things v_s_looked v_s_lookedTooOften v_s_arraysMade v_s_cellsMade a_s_classes a_s_starts a_s_lengths a_s_cells a_L a_K a_vc a_vd a_si a_sj a_iv a_inn a_ac) H := hP
  have hD : va_D A (tw cs q v_t_tapeSize v_t_textSize v_t_faultKind a_t_tape a_t_text a_g_beyond v_g_size a_g_steps a_h_beyond v_h_size a_h_steps a_r_scratch a_r_now v_r_takes v_r_negative v_r_namePlace v_r_faultKind v_r_faultPlace x11 m9 v_a_digits v_a_kind v_a_from x25 v_o_size a_o_out v_b_size v_b_limit v_b_digits v_b_kind v_b_from v_b_to a_u_atom a_u_other a_u_hand v_u_marksMade v_u_came v_u_guesses v_u_right v_u_taken a_u_vars a_u_marks a_u_outcomes a_u_indexes v_s_things v_s_looked v_s_lookedTooOften v_s_arraysMade v_s_cellsMade a_s_classes a_s_starts a_s_lengths a_s_cells a_L a_K a_vc a_vd a_si a_sj a_iv a_inn a_ac) := hD
  subst hAe
  rw [hQ]
  exact W.vret hx hb hr (fun t ht hW => ⟨⟨_, rfl, ⟨x11, m9, x25, rfl, by exact ⟨⟨by omega, by omega⟩, ⟨by omega, by omega⟩, ⟨by omega, by omega⟩, by omega⟩⟩, by rw [ht]; exact hP, va_K.moved hW.alike hK, hD⟩, hS.F ht⟩) hS.2.2 dX1_open_31

def rmX1_kindOfSmalls_qa : Room := { frames := 100, cells := 0, slots := 0, locals := 2000 }
set_option maxHeartbeats 4000000 in
set_option maxRecDepth 100000 in
theorem tX1_kindOfSmalls_qa {l : Launch} {D : va_G} {K : Nat → Nat → Nat} {cs : Nat → ClassId} {q : Nat → Nat} {v_t_tapeSize v_t_textSize v_t_faultKind v_g_size v_h_size v_r_takes v_r_negative v_r_namePlace v_r_faultKind v_r_faultPlace v_a_size v_a_limit v_a_digits v_a_kind v_a_from v_a_to v_o_size v_b_size v_b_limit v_b_digits v_b_kind v_b_from v_b_to v_u_marksMade v_u_came v_u_guesses v_u_right v_u_taken v_s_things v_s_looked v_s_lookedTooOften v_s_arraysMade v_s_cellsMade : Int32} {a_t_tape a_t_text a_o_out a_u_outcomes a_u_indexes a_s_classes a_s_starts a_s_lengths a_vc : Nat → Int32} {a_g_beyond a_h_beyond a_r_scratch a_r_now a_u_atom a_u_other a_u_hand : Nat} {a_g_steps a_h_steps a_u_vars a_u_marks : Nat → Option Nat} {a_s_cells a_vd a_sj : Nat → Int64} {a_L : List Nat} {a_K a_iv a_inn : Nat → Nat} {a_si a_ac : Nat → Nat → Int32} (p_0 : 0 ≤ v_a_from.toInt) (p_1 : v_a_from.toInt < v_a_to.toInt) (p_2 : v_a_to.toInt ≤ v_a_size.toInt) (p_3 : v_a_size.toInt ≤ 3100) : CtI l yX1_kindOfSmalls (wG yX1_kindOfSmalls cX1_kindOfSmalls 3 (some .int)) rmX1_kindOfSmalls_qa D (twT cs) K [.ref (q 8)] (tw cs q v_t_tapeSize v_t_textSize v_t_faultKind a_t_tape a_t_text a_g_beyond v_g_size a_g_steps a_h_beyond v_h_size a_h_steps a_r_scratch a_r_now v_r_takes v_r_negative v_r_namePlace v_r_faultKind v_r_faultPlace v_a_size v_a_limit v_a_digits v_a_kind v_a_from v_a_to v_o_size a_o_out v_b_size v_b_limit v_b_digits v_b_kind v_b_from v_b_to a_u_atom a_u_other a_u_hand v_u_marksMade v_u_came v_u_guesses v_u_right v_u_taken a_u_vars a_u_marks a_u_outcomes a_u_indexes v_s_things v_s_looked v_s_lookedTooOften v_s_arraysMade v_s_cellsMade a_s_classes a_s_starts a_s_lengths a_s_cells a_L a_K a_vc a_vd a_si a_sj a_iv a_inn a_ac) (fun r w1 => ∃ (v_a_digits' : Int32), w1 = (tw cs q v_t_tapeSize v_t_textSize v_t_faultKind a_t_tape a_t_text a_g_beyond v_g_size a_g_steps a_h_beyond v_h_size a_h_steps a_r_scratch a_r_now v_r_takes v_r_negative v_r_namePlace v_r_faultKind v_r_faultPlace v_a_size v_a_limit v_a_digits' v_a_kind v_a_from v_a_to v_o_size a_o_out v_b_size v_b_limit v_b_digits v_b_kind v_b_from v_b_to a_u_atom a_u_other a_u_hand v_u_marksMade v_u_came v_u_guesses v_u_right v_u_taken a_u_vars a_u_marks a_u_outcomes a_u_indexes v_s_things v_s_looked v_s_lookedTooOften v_s_arraysMade v_s_cellsMade a_s_classes a_s_starts a_s_lengths a_s_cells a_L a_K a_vc a_vd a_si a_sj a_iv a_inn a_ac) ∧ (0 ≤ v_a_digits'.toInt) ∧ (v_a_digits'.toInt ≤ 3100) ∧ (r.toInt = 3 → v_a_from.toInt + v_a_digits'.toInt ≤ v_a_to.toInt)) 0 0 := by
  intro sz
  refine Met.ofW (cc := cX1_kindOfSmalls) (maxL := 3) (ret := (some .int)) (by decide) rfl ?_
  intro p e s m args below meth c s₁ B hml hv
  obtain ⟨rfl, hsz, hP, hK, hD0, hE⟩ := hv
  have hx := B.exec
  have hb := B.bytes
  have hr := B.returns
  have hts := atoms_spec (ws := (wG yX1_kindOfSmalls cX1_kindOfSmalls 3 (some .int))) B.pre
  have hown : s.vm.findClass RX1 = some m.cls := findClass_of_methodNamed B.named
  have hlocks := B.notSynchronized
  subst hsz
  have hD := hD0.self (sz := s.heap.size)
  obtain ⟨A, hAe⟩ : ∃ A : Nat → Prop, A = va_A (tw cs q v_t_tapeSize v_t_textSize v_t_faultKind a_t_tape a_t_text a_g_beyond v_g_size a_g_steps a_h_beyond v_h_size a_h_steps a_r_scratch a_r_now v_r_takes v_r_negative v_r_namePlace v_r_faultKind v_r_faultPlace v_a_size v_a_limit v_a_digits v_a_kind v_a_from v_a_to v_o_size a_o_out v_b_size v_b_limit v_b_digits v_b_kind v_b_from v_b_to a_u_atom a_u_other a_u_hand v_u_marksMade v_u_came v_u_guesses v_u_right v_u_taken a_u_vars a_u_marks a_u_outcomes a_u_indexes v_s_things v_s_looked v_s_lookedTooOften v_s_arraysMade v_s_cellsMade a_s_classes a_s_starts a_s_lengths a_s_cells a_L a_K a_vc a_vd a_si a_sj a_iv a_inn a_ac) s.heap.size := ⟨_, rfl⟩
  rw [← hAe] at hD hE
  have hA : ∀ q : Nat, s.heap.size ≤ q → A q := fun q h => by rw [hAe]; exact Or.inr h
  have hS : va_S A s.heap s.heap [] := va_S.rf
  have hl := lv_entry ([.ref (q 8)]) (n := 3) (Nat.le_of_ble_eq_true rfl)
  rw [lg_entry_eq]
  generalize (lg_sl ([.ref (q 8)]) ++ List.replicate (3 - (lg_sl ([.ref (q 8)])).length) Slot.unset).toArray = ls at hl ⊢
  have hl : lv_has ls 3 [(0, .ref (q 8))] := hl
  refine wq (fun Q hQ => ?_)
  have hinX1 : ∀ w ∈ wsX10, w ∈ (wG yX1_kindOfSmalls cX1_kindOfSmalls 3 (some .int)) := fun w h => List.mem_cons_of_mem _ (inlX1 w h)
  have kc0 : (0 : Int32).toInt = 0 := by decide
  have kc1 : (1 : Int32).toInt = 1 := by decide
  have kc2 : (2 : Int32).toInt = 2 := by decide
  have kc3 : (3 : Int32).toInt = 3 := by decide
  have kc4 : (8 : Int32).toInt = 8 := by decide
  have kc5 : (19 : Int32).toInt = 19 := by decide
  have kc6 : (57 : Int32).toInt = 57 := by decide
  have k_10_6 := hts (.fieldLink RX1 51 "ArrayTrainer$Lexer" "digits" "I") (List.mem_cons_of_mem _ (wr10 _ (List.mem_of_getElem? (i := 6) rfl)))
  have k_9_21 := hts (.fieldLink RX1 34 "ArrayTrainer$Lexer" "from" "I") (List.mem_cons_of_mem _ (wr9 _ (List.mem_of_getElem? (i := 21) rfl)))
  have k_9_16 := hts (.fieldLink RX1 31 "ArrayTrainer$Lexer" "to" "I") (List.mem_cons_of_mem _ (wr9 _ (List.mem_of_getElem? (i := 16) rfl)))
  have k_3_6 := hts (.fieldLink RX1 9 "ArrayTrainer$Lexer" "text" "[B") (List.mem_cons_of_mem _ (wr3 _ (List.mem_of_getElem? (i := 6) rfl)))
  obtain ⟨H, hH⟩ : ∃ H : Heap, H = s.heap := ⟨_, rfl⟩
  obtain ⟨locs, hlc⟩ : ∃ L : List Loc, L = [] := ⟨_, rfl⟩
  have hP : va_P D vwCl (tw cs q v_t_tapeSize v_t_textSize v_t_faultKind a_t_tape a_t_text a_g_beyond v_g_size a_g_steps a_h_beyond v_h_size a_h_steps a_r_scratch a_r_now v_r_takes v_r_negative v_r_namePlace v_r_faultKind v_r_faultPlace v_a_size v_a_limit v_a_digits v_a_kind v_a_from v_a_to v_o_size a_o_out v_b_size v_b_limit v_b_digits v_b_kind v_b_from v_b_to a_u_atom a_u_other a_u_hand v_u_marksMade v_u_came v_u_guesses v_u_right v_u_taken a_u_vars a_u_marks a_u_outcomes a_u_indexes v_s_things v_s_looked v_s_lookedTooOften v_s_arraysMade v_s_cellsMade a_s_classes a_s_starts a_s_lengths a_s_cells a_L a_K a_vc a_vd a_si a_sj a_iv a_inn a_ac) H := by rw [hH]; exact hP
  have hS : va_S A s.heap H locs := by rw [hH, hlc]; exact hS
  refine wHL hH hlc ?_
  refine lv_aload_n hx hb dX1_kindOfSmalls_0 rfl (lv_at hl 0 rfl) ?_
  refine lv_iconst (v := 0) hx hb dX1_kindOfSmalls_1 (by decide) ?_
  refine va_put (D := D) (ci := 0) (v := .int 0) (ty := .int) (C := RX1) (T := TX1) (N := 7) hx hb hts hinX1 tyX1 tyX1_ok nmX1 hown hK hP hD hS 8 rfl rfl 3 (by decide) k_10_6 (fun _ h9 => h9) rfl (by decide +kernel) rfl rfl (Nat.le_of_ble_eq_true rfl) dX1_kindOfSmalls_2 (fun H locs hP hD hS => ?_)
  have hP : va_P D vwCl (tw cs q v_t_tapeSize v_t_textSize v_t_faultKind a_t_tape a_t_text a_g_beyond v_g_size a_g_steps a_h_beyond v_h_size a_h_steps a_r_scratch a_r_now v_r_takes v_r_negative v_r_namePlace v_r_faultKind v_r_faultPlace v_a_size v_a_limit (0 : Int32) v_a_kind v_a_from v_a_to v_o_size a_o_out v_b_size v_b_limit v_b_digits v_b_kind v_b_from v_b_to a_u_atom a_u_other a_u_hand v_u_marksMade v_u_came v_u_guesses v_u_right v_u_taken a_u_vars a_u_marks a_u_outcomes a_u_indexes v_s_things v_s_looked v_s_lookedTooOften v_s_arraysMade v_s_cellsMade a_s_classes a_s_starts a_s_lengths a_s_cells a_L a_K a_vc a_vd a_si a_sj a_iv a_inn a_ac) H := hP
  have hD : va_D A (tw cs q v_t_tapeSize v_t_textSize v_t_faultKind a_t_tape a_t_text a_g_beyond v_g_size a_g_steps a_h_beyond v_h_size a_h_steps a_r_scratch a_r_now v_r_takes v_r_negative v_r_namePlace v_r_faultKind v_r_faultPlace v_a_size v_a_limit (0 : Int32) v_a_kind v_a_from v_a_to v_o_size a_o_out v_b_size v_b_limit v_b_digits v_b_kind v_b_from v_b_to a_u_atom a_u_other a_u_hand v_u_marksMade v_u_came v_u_guesses v_u_right v_u_taken a_u_vars a_u_marks a_u_outcomes a_u_indexes v_s_things v_s_looked v_s_lookedTooOften v_s_arraysMade v_s_cellsMade a_s_classes a_s_starts a_s_lengths a_s_cells a_L a_K a_vc a_vd a_si a_sj a_iv a_inn a_ac) := hD
  refine lv_aload_n hx hb dX1_kindOfSmalls_5 rfl (lv_at hl 0 rfl) ?_
  refine va_get (D := D) (ci := 0) (v := .int v_a_from) (C := RX1) (T := TX1) (N := 7) hx hb hts hinX1 hown hK hP 8 rfl rfl 5 (by decide) k_9_21 (fun _ h9 => h9) rfl dX1_kindOfSmalls_6 ?_
  refine lv_istore_n (lv' := [(1, .int v_a_from), (0, .ref (q 8))]) hx hb dX1_kindOfSmalls_9 rfl hl (by decide) rfl (fun ls hl => ?_)
  have J10 : ∀ (n10 : Nat) (l1_10 : Int32) (v_a_digits_10 : Int32) (H : Heap) (locs : List Loc) (ls : Array Slot), (v_a_from.toInt ≤ l1_10.toInt) → (l1_10.toInt ≤ v_a_to.toInt) → (v_a_digits_10.toInt = l1_10.toInt - v_a_from.toInt) → (v_a_to.toInt - l1_10.toInt < (n10 : Int)) → va_P D vwCl (tw cs q v_t_tapeSize v_t_textSize v_t_faultKind a_t_tape a_t_text a_g_beyond v_g_size a_g_steps a_h_beyond v_h_size a_h_steps a_r_scratch a_r_now v_r_takes v_r_negative v_r_namePlace v_r_faultKind v_r_faultPlace v_a_size v_a_limit v_a_digits_10 v_a_kind v_a_from v_a_to v_o_size a_o_out v_b_size v_b_limit v_b_digits v_b_kind v_b_from v_b_to a_u_atom a_u_other a_u_hand v_u_marksMade v_u_came v_u_guesses v_u_right v_u_taken a_u_vars a_u_marks a_u_outcomes a_u_indexes v_s_things v_s_looked v_s_lookedTooOften v_s_arraysMade v_s_cellsMade a_s_classes a_s_starts a_s_lengths a_s_cells a_L a_K a_vc a_vd a_si a_sj a_iv a_inn a_ac) H → va_D A (tw cs q v_t_tapeSize v_t_textSize v_t_faultKind a_t_tape a_t_text a_g_beyond v_g_size a_g_steps a_h_beyond v_h_size a_h_steps a_r_scratch a_r_now v_r_takes v_r_negative v_r_namePlace v_r_faultKind v_r_faultPlace v_a_size v_a_limit v_a_digits_10 v_a_kind v_a_from v_a_to v_o_size a_o_out v_b_size v_b_limit v_b_digits v_b_kind v_b_from v_b_to a_u_atom a_u_other a_u_hand v_u_marksMade v_u_came v_u_guesses v_u_right v_u_taken a_u_vars a_u_marks a_u_outcomes a_u_indexes v_s_things v_s_looked v_s_lookedTooOften v_s_arraysMade v_s_cellsMade a_s_classes a_s_starts a_s_lengths a_s_cells a_L a_K a_vc a_vd a_si a_sj a_iv a_inn a_ac) → va_S A s.heap H locs → lv_has ls 3 [(0, .ref (q 8)), (1, .int l1_10)] → W p l e (headSpec (wG yX1_kindOfSmalls cX1_kindOfSmalls 3 (some .int)) rmX1_kindOfSmalls_qa).room s m ([.ref (q 8)] : List Value).toArray below meth c H locs 0 0 Q (F0 m 10 ls []) := by
    intro n10
    induction n10 with
    | zero =>
      intro l1_10 v_a_digits_10 H locs ls f10_0 f10_1 f10_2 hm10
      exfalso
      omega
    | succ n10 ih10 =>
      intro l1_10 v_a_digits_10 H locs ls f10_0 f10_1 f10_2 hm10 hP hD hS hl
      refine lv_iload_n hx hb dX1_kindOfSmalls_10 rfl (lv_at hl 1 rfl) ?_
      refine lv_aload_n hx hb dX1_kindOfSmalls_11 rfl (lv_at hl 0 rfl) ?_
      refine va_get (D := D) (ci := 0) (v := .int v_a_to) (C := RX1) (T := TX1) (N := 7) hx hb hts hinX1 hown hK hP 8 rfl rfl 6 (by decide) k_9_16 (fun _ h9 => h9) rfl dX1_kindOfSmalls_12 ?_
      have J45 : ∀ (H : Heap) (locs : List Loc) (ls : Array Slot), (True) → va_P D vwCl (tw cs q v_t_tapeSize v_t_textSize v_t_faultKind a_t_tape a_t_text a_g_beyond v_g_size a_g_steps a_h_beyond v_h_size a_h_steps a_r_scratch a_r_now v_r_takes v_r_negative v_r_namePlace v_r_faultKind v_r_faultPlace v_a_size v_a_limit v_a_digits_10 v_a_kind v_a_from v_a_to v_o_size a_o_out v_b_size v_b_limit v_b_digits v_b_kind v_b_from v_b_to a_u_atom a_u_other a_u_hand v_u_marksMade v_u_came v_u_guesses v_u_right v_u_taken a_u_vars a_u_marks a_u_outcomes a_u_indexes v_s_things v_s_looked v_s_lookedTooOften v_s_arraysMade v_s_cellsMade a_s_classes a_s_starts a_s_lengths a_s_cells a_L a_K a_vc a_vd a_si a_sj a_iv a_inn a_ac) H → va_D A (tw cs q v_t_tapeSize v_t_textSize v_t_faultKind a_t_tape a_t_text a_g_beyond v_g_size a_g_steps a_h_beyond v_h_size a_h_steps a_r_scratch a_r_now v_r_takes v_r_negative v_r_namePlace v_r_faultKind v_r_faultPlace v_a_size v_a_limit v_a_digits_10 v_a_kind v_a_from v_a_to v_o_size a_o_out v_b_size v_b_limit v_b_digits v_b_kind v_b_from v_b_to a_u_atom a_u_other a_u_hand v_u_marksMade v_u_came v_u_guesses v_u_right v_u_taken a_u_vars a_u_marks a_u_outcomes a_u_indexes v_s_things v_s_looked v_s_lookedTooOften v_s_arraysMade v_s_cellsMade a_s_classes a_s_starts a_s_lengths a_s_cells a_L a_K a_vc a_vd a_si a_sj a_iv a_inn a_ac) → va_S A s.heap H locs → lv_has ls 3 [(0, .ref (q 8))] → W p l e (headSpec (wG yX1_kindOfSmalls cX1_kindOfSmalls 3 (some .int)) rmX1_kindOfSmalls_qa).room s m ([.ref (q 8)] : List Value).toArray below meth c H locs 0 0 Q (F0 m 45 ls []) := by
        intro H locs ls f45_0 hP hD hS hl
        refine lv_aload_n hx hb dX1_kindOfSmalls_45 rfl (lv_at hl 0 rfl) ?_
        refine va_get (D := D) (ci := 0) (v := .int v_a_to) (C := RX1) (T := TX1) (N := 7) hx hb hts hinX1 hown hK hP 8 rfl rfl 6 (by decide) k_9_16 (fun _ h9 => h9) rfl dX1_kindOfSmalls_46 ?_
        refine lv_aload_n hx hb dX1_kindOfSmalls_49 rfl (lv_at hl 0 rfl) ?_
        refine va_get (D := D) (ci := 0) (v := .int v_a_from) (C := RX1) (T := TX1) (N := 7) hx hb hts hinX1 hown hK hP 8 rfl rfl 5 (by decide) k_9_21 (fun _ h9 => h9) rfl dX1_kindOfSmalls_50 ?_
        refine m_isub (X := v_a_to.toInt) (Y := v_a_from.toInt) hx hb dX1_kindOfSmalls_53 rfl rfl (fun x53 e_x53 g9 => ?_)
        obtain ⟨k_x53, g_x53⟩ := g9
        have b_x53 := iB x53
        try (have q_x53 : x53.toInt = v_a_to.toInt - v_a_from.toInt := (by omega); clear g_x53 k_x53)
        refine lv_aload_n hx hb dX1_kindOfSmalls_54 rfl (lv_at hl 0 rfl) ?_
        refine va_get (D := D) (ci := 0) (v := .int v_a_digits_10) (C := RX1) (T := TX1) (N := 7) hx hb hts hinX1 hown hK hP 8 rfl rfl 3 (by decide) k_10_6 (fun _ h9 => h9) rfl dX1_kindOfSmalls_55 ?_
        refine m_isub (X := x53.toInt) (Y := v_a_digits_10.toInt) hx hb dX1_kindOfSmalls_58 rfl rfl (fun x58 e_x58 g9 => ?_)
        obtain ⟨k_x58, g_x58⟩ := g9
        have b_x58 := iB x58
        try (have q_x58 : x58.toInt = x53.toInt - v_a_digits_10.toInt := (by omega); clear g_x58 k_x58)
        refine lv_istore_n (lv' := [(1, .int x58), (0, .ref (q 8))]) hx hb dX1_kindOfSmalls_59 rfl hl (by decide) rfl (fun ls hl => ?_)
        refine lv_aload_n hx hb dX1_kindOfSmalls_60 rfl (lv_at hl 1 rfl) ?_
        refine va_get (D := D) (ci := 0) (v := .int v_a_digits_10) (C := RX1) (T := TX1) (N := 7) hx hb hts hinX1 hown hK hP 8 rfl rfl 3 (by decide) k_10_6 (fun _ h9 => h9) rfl dX1_kindOfSmalls_61 ?_
        refine m_if_le (X := v_a_digits_10.toInt) (tgt := 121) hx hb dX1_kindOfSmalls_64 (by decide) rfl (fun c64 => ?_) (fun c64 => ?_)
        · skip
          refine lv_aload_n hx hb dX1_kindOfSmalls_121 rfl (lv_at hl 1 rfl) ?_
          refine va_get (D := D) (ci := 0) (v := .int v_a_from) (C := RX1) (T := TX1) (N := 7) hx hb hts hinX1 hown hK hP 8 rfl rfl 5 (by decide) k_9_21 (fun _ h9 => h9) rfl dX1_kindOfSmalls_122 ?_
          refine lv_istore_n (lv' := [(2, .int v_a_from), (1, .int x58), (0, .ref (q 8))]) hx hb dX1_kindOfSmalls_125 rfl hl (by decide) rfl (fun ls hl => ?_)
          have J126 : ∀ (n126 : Nat) (l2_126 : Int32) (H : Heap) (locs : List Loc) (ls : Array Slot), (v_a_from.toInt ≤ l2_126.toInt) → (l2_126.toInt ≤ v_a_to.toInt) → (v_a_to.toInt - l2_126.toInt < (n126 : Int)) → va_P D vwCl (tw cs q v_t_tapeSize v_t_textSize v_t_faultKind a_t_tape a_t_text a_g_beyond v_g_size a_g_steps a_h_beyond v_h_size a_h_steps a_r_scratch a_r_now v_r_takes v_r_negative v_r_namePlace v_r_faultKind v_r_faultPlace v_a_size v_a_limit v_a_digits_10 v_a_kind v_a_from v_a_to v_o_size a_o_out v_b_size v_b_limit v_b_digits v_b_kind v_b_from v_b_to a_u_atom a_u_other a_u_hand v_u_marksMade v_u_came v_u_guesses v_u_right v_u_taken a_u_vars a_u_marks a_u_outcomes a_u_indexes v_s_things v_s_looked v_s_lookedTooOften v_s_arraysMade v_s_cellsMade a_s_classes a_s_starts a_s_lengths a_s_cells a_L a_K a_vc a_vd a_si a_sj a_iv a_inn a_ac) H → va_D A (tw cs q v_t_tapeSize v_t_textSize v_t_faultKind a_t_tape a_t_text a_g_beyond v_g_size a_g_steps a_h_beyond v_h_size a_h_steps a_r_scratch a_r_now v_r_takes v_r_negative v_r_namePlace v_r_faultKind v_r_faultPlace v_a_size v_a_limit v_a_digits_10 v_a_kind v_a_from v_a_to v_o_size a_o_out v_b_size v_b_limit v_b_digits v_b_kind v_b_from v_b_to a_u_atom a_u_other a_u_hand v_u_marksMade v_u_came v_u_guesses v_u_right v_u_taken a_u_vars a_u_marks a_u_outcomes a_u_indexes v_s_things v_s_looked v_s_lookedTooOften v_s_arraysMade v_s_cellsMade a_s_classes a_s_starts a_s_lengths a_s_cells a_L a_K a_vc a_vd a_si a_sj a_iv a_inn a_ac) → va_S A s.heap H locs → lv_has ls 3 [(0, .ref (q 8)), (1, .int x58), (2, .int l2_126)] → W p l e (headSpec (wG yX1_kindOfSmalls cX1_kindOfSmalls 3 (some .int)) rmX1_kindOfSmalls_qa).room s m ([.ref (q 8)] : List Value).toArray below meth c H locs 0 0 Q (F0 m 126 ls []) := by
            intro n126
            induction n126 with
            | zero =>
              intro l2_126 H locs ls f126_0 f126_1 hm126
              exfalso
              omega
            | succ n126 ih126 =>
              intro l2_126 H locs ls f126_0 f126_1 hm126 hP hD hS hl
              refine lv_iload_n hx hb dX1_kindOfSmalls_126 rfl (lv_at hl 2 rfl) ?_
              refine lv_aload_n hx hb dX1_kindOfSmalls_127 rfl (lv_at hl 0 rfl) ?_
              refine va_get (D := D) (ci := 0) (v := .int v_a_to) (C := RX1) (T := TX1) (N := 7) hx hb hts hinX1 hown hK hP 8 rfl rfl 6 (by decide) k_9_16 (fun _ h9 => h9) rfl dX1_kindOfSmalls_128 ?_
              refine m_icmp_ge (X := l2_126.toInt) (Y := v_a_to.toInt) (tgt := 153) hx hb dX1_kindOfSmalls_131 (by decide) rfl rfl (fun c131 => ?_) (fun c131 => ?_)
              · skip
                refine lv_iload_n hx hb dX1_kindOfSmalls_153 rfl (lv_at hl 1 rfl) ?_
                refine lv_bipush (v := 8) hx hb dX1_kindOfSmalls_154 (by decide) ?_
                refine m_icmp_gt (X := x58.toInt) (Y := 8) (tgt := 163) hx hb dX1_kindOfSmalls_156 (by decide) rfl (by decide) (fun c156 => ?_) (fun c156 => ?_)
                · skip
                  refine lv_iconst (v := 1) hx hb dX1_kindOfSmalls_163 (by decide) ?_
                  subst hAe
                  rw [hQ]
                  exact W.iret (v := 1) hx hb hr (fun t ht hW => ⟨⟨1, _, rfl, ⟨v_a_digits_10, rfl, by first | assumption | omega | (intros; omega) | decide, by first | assumption | omega | (intros; omega) | decide, by first | assumption | omega | (intros; omega) | decide⟩, by rw [ht]; exact hP, va_K.moved hW.alike hK, hD⟩, hS.F ht⟩) hS.2.2 dX1_kindOfSmalls_164
                · skip
                  refine lv_iconst (v := 2) hx hb dX1_kindOfSmalls_159 (by decide) ?_
                  refine lv_goto (tgt := 164) hx hb dX1_kindOfSmalls_160 (by decide) ?_
                  subst hAe
                  rw [hQ]
                  exact W.iret (v := 2) hx hb hr (fun t ht hW => ⟨⟨2, _, rfl, ⟨v_a_digits_10, rfl, by first | assumption | omega | (intros; omega) | decide, by first | assumption | omega | (intros; omega) | decide, by first | assumption | omega | (intros; omega) | decide⟩, by rw [ht]; exact hP, va_K.moved hW.alike hK, hD⟩, hS.F ht⟩) hS.2.2 dX1_kindOfSmalls_164
              · skip
                refine lv_aload_n hx hb dX1_kindOfSmalls_134 rfl (lv_at hl 0 rfl) ?_
                refine va_get (D := D) (ci := 0) (v := .ref (q 1)) (C := RX1) (T := TX1) (N := 7) hx hb hts hinX1 hown hK hP 8 rfl rfl 0 (by decide) k_3_6 (fun _ h9 => h9) rfl dX1_kindOfSmalls_135 ?_
                refine lv_iload_n hx hb dX1_kindOfSmalls_138 rfl (lv_at hl 2 rfl) ?_
                refine m_bald hx hb hK hP 1 2 rfl rfl (ix (by omega) (by omega)) dX1_kindOfSmalls_139 (fun x139 e_x139 => ?_)
                have b_x139 := iB x139
                refine lv_bipush (v := 57) hx hb dX1_kindOfSmalls_140 (by decide) ?_
                refine m_icmp_gt (X := x139.toInt) (Y := 57) (tgt := 147) hx hb dX1_kindOfSmalls_142 (by decide) rfl (by decide) (fun c142 => ?_) (fun c142 => ?_)
                · skip
                  obtain ⟨x147, e_x147⟩ : ∃ z : Int32, z = l2_126 + (1 : Int32) := ⟨_, rfl⟩
                  obtain ⟨k_x147, g_x147⟩ : ∃ k : Int, x147.toInt = l2_126.toInt + (1) + k * 4294967296 := by rw [e_x147]; exact iAdd l2_126 (1)
                  have b_x147 := iB x147
                  try (have q_x147 : x147.toInt = l2_126.toInt + (1) := (by omega); clear g_x147 k_x147)
                  refine lv_iinc (v := x147) (lv' := [(2, .int x147), (0, .ref (q 8)), (1, .int x58)]) hx hb dX1_kindOfSmalls_147 hl (k := 2) rfl (by rw [e_x147]; rfl) (by decide) rfl (fun ls hl => ?_)
                  refine lv_goto (tgt := 126) hx hb dX1_kindOfSmalls_150 (by decide) ?_
                  exact ih126 x147 H locs ls (by first | assumption | omega | (intros; omega) | decide) (by first | assumption | omega | (intros; omega) | decide) (by omega) hP hD hS (lv_sub hl [1, 2, 0] rfl)
                · skip
                  refine lv_iconst (v := 1) hx hb dX1_kindOfSmalls_145 (by decide) ?_
                  subst hAe
                  rw [hQ]
                  exact W.iret (v := 1) hx hb hr (fun t ht hW => ⟨⟨1, _, rfl, ⟨v_a_digits_10, rfl, by first | assumption | omega | (intros; omega) | decide, by first | assumption | omega | (intros; omega) | decide, by first | assumption | omega | (intros; omega) | decide⟩, by rw [ht]; exact hP, va_K.moved hW.alike hK, hD⟩, hS.F ht⟩) hS.2.2 dX1_kindOfSmalls_146
          exact J126 ((v_a_to.toInt - v_a_from.toInt).toNat + 1) v_a_from H locs ls (by first | assumption | omega | (intros; omega) | decide) (by first | assumption | omega | (intros; omega) | decide) (by omega) hP hD hS (lv_sub hl [2, 1, 0] rfl)
        · skip
          refine lv_iload_n hx hb dX1_kindOfSmalls_67 rfl (lv_at hl 0 rfl) ?_
          have J101 : ∀ (s0_101 : Int32) (H : Heap) (locs : List Loc) (ls : Array Slot), (s0_101.toInt = 0 ∨ s0_101.toInt = 1) → va_P D vwCl (tw cs q v_t_tapeSize v_t_textSize v_t_faultKind a_t_tape a_t_text a_g_beyond v_g_size a_g_steps a_h_beyond v_h_size a_h_steps a_r_scratch a_r_now v_r_takes v_r_negative v_r_namePlace v_r_faultKind v_r_faultPlace v_a_size v_a_limit v_a_digits_10 v_a_kind v_a_from v_a_to v_o_size a_o_out v_b_size v_b_limit v_b_digits v_b_kind v_b_from v_b_to a_u_atom a_u_other a_u_hand v_u_marksMade v_u_came v_u_guesses v_u_right v_u_taken a_u_vars a_u_marks a_u_outcomes a_u_indexes v_s_things v_s_looked v_s_lookedTooOften v_s_arraysMade v_s_cellsMade a_s_classes a_s_starts a_s_lengths a_s_cells a_L a_K a_vc a_vd a_si a_sj a_iv a_inn a_ac) H → va_D A (tw cs q v_t_tapeSize v_t_textSize v_t_faultKind a_t_tape a_t_text a_g_beyond v_g_size a_g_steps a_h_beyond v_h_size a_h_steps a_r_scratch a_r_now v_r_takes v_r_negative v_r_namePlace v_r_faultKind v_r_faultPlace v_a_size v_a_limit v_a_digits_10 v_a_kind v_a_from v_a_to v_o_size a_o_out v_b_size v_b_limit v_b_digits v_b_kind v_b_from v_b_to a_u_atom a_u_other a_u_hand v_u_marksMade v_u_came v_u_guesses v_u_right v_u_taken a_u_vars a_u_marks a_u_outcomes a_u_indexes v_s_things v_s_looked v_s_lookedTooOften v_s_arraysMade v_s_cellsMade a_s_classes a_s_starts a_s_lengths a_s_cells a_L a_K a_vc a_vd a_si a_sj a_iv a_inn a_ac) → va_S A s.heap H locs → lv_has ls 3 [(0, .ref (q 8))] → W p l e (headSpec (wG yX1_kindOfSmalls cX1_kindOfSmalls 3 (some .int)) rmX1_kindOfSmalls_qa).room s m ([.ref (q 8)] : List Value).toArray below meth c H locs 0 0 Q (F0 m 101 ls [.int s0_101]) := by
            intro s0_101 H locs ls f101_0 hP hD hS hl
            refine lv_istore_n (lv' := [(2, .int s0_101), (0, .ref (q 8))]) hx hb dX1_kindOfSmalls_101 rfl hl (by decide) rfl (fun ls hl => ?_)
            refine lv_iload_n hx hb dX1_kindOfSmalls_102 rfl (lv_at hl 0 rfl) ?_
            refine m_if_eq (X := s0_101.toInt) (tgt := 119) hx hb dX1_kindOfSmalls_103 (by decide) rfl (fun c103 => ?_) (fun c103 => ?_)
            · skip
              refine lv_iconst (v := 1) hx hb dX1_kindOfSmalls_119 (by decide) ?_
              subst hAe
              rw [hQ]
              exact W.iret (v := 1) hx hb hr (fun t ht hW => ⟨⟨1, _, rfl, ⟨v_a_digits_10, rfl, by first | assumption | omega | (intros; omega) | decide, by first | assumption | omega | (intros; omega) | decide, by first | assumption | omega | (intros; omega) | decide⟩, by rw [ht]; exact hP, va_K.moved hW.alike hK, hD⟩, hS.F ht⟩) hS.2.2 dX1_kindOfSmalls_120
            · skip
              refine lv_aload_n hx hb dX1_kindOfSmalls_106 rfl (lv_at hl 1 rfl) ?_
              refine va_get (D := D) (ci := 0) (v := .int v_a_digits_10) (C := RX1) (T := TX1) (N := 7) hx hb hts hinX1 hown hK hP 8 rfl rfl 3 (by decide) k_10_6 (fun _ h9 => h9) rfl dX1_kindOfSmalls_107 ?_
              refine lv_bipush (v := 19) hx hb dX1_kindOfSmalls_110 (by decide) ?_
              refine m_icmp_gt (X := v_a_digits_10.toInt) (Y := 19) (tgt := 119) hx hb dX1_kindOfSmalls_112 (by decide) rfl (by decide) (fun c112 => ?_) (fun c112 => ?_)
              · skip
                refine lv_iconst (v := 1) hx hb dX1_kindOfSmalls_119 (by decide) ?_
                subst hAe
                rw [hQ]
                exact W.iret (v := 1) hx hb hr (fun t ht hW => ⟨⟨1, _, rfl, ⟨v_a_digits_10, rfl, by first | assumption | omega | (intros; omega) | decide, by first | assumption | omega | (intros; omega) | decide, by first | assumption | omega | (intros; omega) | decide⟩, by rw [ht]; exact hP, va_K.moved hW.alike hK, hD⟩, hS.F ht⟩) hS.2.2 dX1_kindOfSmalls_120
              · skip
                refine lv_iconst (v := 3) hx hb dX1_kindOfSmalls_115 (by decide) ?_
                refine lv_goto (tgt := 120) hx hb dX1_kindOfSmalls_116 (by decide) ?_
                subst hAe
                rw [hQ]
                exact W.iret (v := 3) hx hb hr (fun t ht hW => ⟨⟨3, _, rfl, ⟨v_a_digits_10, rfl, by first | assumption | omega | (intros; omega) | decide, by first | assumption | omega | (intros; omega) | decide, by first | assumption | omega | (intros; omega) | decide⟩, by rw [ht]; exact hP, va_K.moved hW.alike hK, hD⟩, hS.F ht⟩) hS.2.2 dX1_kindOfSmalls_120
          have J96 : ∀ (H : Heap) (locs : List Loc) (ls : Array Slot), va_P D vwCl (tw cs q v_t_tapeSize v_t_textSize v_t_faultKind a_t_tape a_t_text a_g_beyond v_g_size a_g_steps a_h_beyond v_h_size a_h_steps a_r_scratch a_r_now v_r_takes v_r_negative v_r_namePlace v_r_faultKind v_r_faultPlace v_a_size v_a_limit v_a_digits_10 v_a_kind v_a_from v_a_to v_o_size a_o_out v_b_size v_b_limit v_b_digits v_b_kind v_b_from v_b_to a_u_atom a_u_other a_u_hand v_u_marksMade v_u_came v_u_guesses v_u_right v_u_taken a_u_vars a_u_marks a_u_outcomes a_u_indexes v_s_things v_s_looked v_s_lookedTooOften v_s_arraysMade v_s_cellsMade a_s_classes a_s_starts a_s_lengths a_s_cells a_L a_K a_vc a_vd a_si a_sj a_iv a_inn a_ac) H → va_D A (tw cs q v_t_tapeSize v_t_textSize v_t_faultKind a_t_tape a_t_text a_g_beyond v_g_size a_g_steps a_h_beyond v_h_size a_h_steps a_r_scratch a_r_now v_r_takes v_r_negative v_r_namePlace v_r_faultKind v_r_faultPlace v_a_size v_a_limit v_a_digits_10 v_a_kind v_a_from v_a_to v_o_size a_o_out v_b_size v_b_limit v_b_digits v_b_kind v_b_from v_b_to a_u_atom a_u_other a_u_hand v_u_marksMade v_u_came v_u_guesses v_u_right v_u_taken a_u_vars a_u_marks a_u_outcomes a_u_indexes v_s_things v_s_looked v_s_lookedTooOften v_s_arraysMade v_s_cellsMade a_s_classes a_s_starts a_s_lengths a_s_cells a_L a_K a_vc a_vd a_si a_sj a_iv a_inn a_ac) → va_S A s.heap H locs → lv_has ls 3 [(0, .ref (q 8))] → W p l e (headSpec (wG yX1_kindOfSmalls cX1_kindOfSmalls 3 (some .int)) rmX1_kindOfSmalls_qa).room s m ([.ref (q 8)] : List Value).toArray below meth c H locs 0 0 Q (F0 m 96 ls []) := by
            intro H locs ls hP hD hS hl
            refine lv_iconst (v := 1) hx hb dX1_kindOfSmalls_96 (by decide) ?_
            refine lv_goto (tgt := 101) hx hb dX1_kindOfSmalls_97 (by decide) ?_
            exact J101 (1 : Int32) H locs ls (by first | decide | omega) hP hD hS (lv_sub hl [0] rfl)
          refine m_if_eq (X := x58.toInt) (tgt := 96) hx hb dX1_kindOfSmalls_68 (by decide) rfl (fun c68 => ?_) (fun c68 => ?_)
          · skip
            exact J96 H locs ls hP hD hS (lv_sub hl [1] rfl)
          · skip
            refine lv_iload_n hx hb dX1_kindOfSmalls_71 rfl (lv_at hl 0 rfl) ?_
            refine lv_iconst (v := 1) hx hb dX1_kindOfSmalls_72 (by decide) ?_
            have J100 : ∀ (H : Heap) (locs : List Loc) (ls : Array Slot), va_P D vwCl (tw cs q v_t_tapeSize v_t_textSize v_t_faultKind a_t_tape a_t_text a_g_beyond v_g_size a_g_steps a_h_beyond v_h_size a_h_steps a_r_scratch a_r_now v_r_takes v_r_negative v_r_namePlace v_r_faultKind v_r_faultPlace v_a_size v_a_limit v_a_digits_10 v_a_kind v_a_from v_a_to v_o_size a_o_out v_b_size v_b_limit v_b_digits v_b_kind v_b_from v_b_to a_u_atom a_u_other a_u_hand v_u_marksMade v_u_came v_u_guesses v_u_right v_u_taken a_u_vars a_u_marks a_u_outcomes a_u_indexes v_s_things v_s_looked v_s_lookedTooOften v_s_arraysMade v_s_cellsMade a_s_classes a_s_starts a_s_lengths a_s_cells a_L a_K a_vc a_vd a_si a_sj a_iv a_inn a_ac) H → va_D A (tw cs q v_t_tapeSize v_t_textSize v_t_faultKind a_t_tape a_t_text a_g_beyond v_g_size a_g_steps a_h_beyond v_h_size a_h_steps a_r_scratch a_r_now v_r_takes v_r_negative v_r_namePlace v_r_faultKind v_r_faultPlace v_a_size v_a_limit v_a_digits_10 v_a_kind v_a_from v_a_to v_o_size a_o_out v_b_size v_b_limit v_b_digits v_b_kind v_b_from v_b_to a_u_atom a_u_other a_u_hand v_u_marksMade v_u_came v_u_guesses v_u_right v_u_taken a_u_vars a_u_marks a_u_outcomes a_u_indexes v_s_things v_s_looked v_s_lookedTooOften v_s_arraysMade v_s_cellsMade a_s_classes a_s_starts a_s_lengths a_s_cells a_L a_K a_vc a_vd a_si a_sj a_iv a_inn a_ac) → va_S A s.heap H locs → lv_has ls 3 [(0, .ref (q 8))] → W p l e (headSpec (wG yX1_kindOfSmalls cX1_kindOfSmalls 3 (some .int)) rmX1_kindOfSmalls_qa).room s m ([.ref (q 8)] : List Value).toArray below meth c H locs 0 0 Q (F0 m 100 ls []) := by
              intro H locs ls hP hD hS hl
              refine lv_iconst (v := 0) hx hb dX1_kindOfSmalls_100 (by decide) ?_
              exact J101 (0 : Int32) H locs ls (by first | decide | omega) hP hD hS (lv_sub hl [0] rfl)
            refine m_icmp_ne (X := x58.toInt) (Y := 1) (tgt := 100) hx hb dX1_kindOfSmalls_73 (by decide) rfl (by decide) (fun c73 => ?_) (fun c73 => ?_)
            · skip
              exact J100 H locs ls hP hD hS (lv_sub hl [1] rfl)
            · skip
              refine va_ldcS hx hb hown (ld_0 hE) dX1_kindOfSmalls_76 ?_
              refine lv_aload_n hx hb dX1_kindOfSmalls_78 rfl (lv_at hl 1 rfl) ?_
              refine va_get (D := D) (ci := 0) (v := .ref (q 1)) (C := RX1) (T := TX1) (N := 7) hx hb hts hinX1 hown hK hP 8 rfl rfl 0 (by decide) k_3_6 (fun _ h9 => h9) rfl dX1_kindOfSmalls_79 ?_
              refine lv_aload_n hx hb dX1_kindOfSmalls_82 rfl (lv_at hl 1 rfl) ?_
              refine va_get (D := D) (ci := 0) (v := .int v_a_to) (C := RX1) (T := TX1) (N := 7) hx hb hts hinX1 hown hK hP 8 rfl rfl 6 (by decide) k_9_16 (fun _ h9 => h9) rfl dX1_kindOfSmalls_83 ?_
              refine lv_iconst (v := 1) hx hb dX1_kindOfSmalls_86 (by decide) ?_
              refine m_isub (X := v_a_to.toInt) (Y := 1) hx hb dX1_kindOfSmalls_87 rfl (by decide) (fun x87 e_x87 g9 => ?_)
              obtain ⟨k_x87, g_x87⟩ := g9
              have b_x87 := iB x87
              try (have q_x87 : x87.toInt = v_a_to.toInt - 1 := (by omega); clear g_x87 k_x87)
              refine m_bald hx hb hK hP 1 2 rfl rfl (ix (by omega) (by omega)) dX1_kindOfSmalls_88 (fun x88 e_x88 => ?_)
              have b_x88 := iB x88
              refine m_i2c hx hb dX1_kindOfSmalls_89 (fun x89 e_x89 => ?_)
              have b_x89 := iB x89
              refine call_iP (As := [.int x89]) (rest := []) ⟨hx, hb, hml, hown, hts⟩ (tJ0_indexOf_0f7a4 (l := l) 0 so_0 x89) (cwV 1 hts (gV (wr10 _ (List.mem_of_getElem? (i := 7) rfl)) (wr10 _ (List.mem_of_getElem? (i := 8) rfl)) (wr10 _ (List.mem_of_getElem? (i := 9) rfl)) (wr10 _ (List.mem_of_getElem? (i := 10) rfl)) (wr10 _ (List.mem_of_getElem? (i := 11) rfl))) rfl rfl rfl (by decide +kernel) ⟨Nat.le_of_ble_eq_true rfl, Nat.le_of_ble_eq_true rfl⟩) (sRecv (hE.str so_0) hS) (hK.sub [] rfl) hP hD hE hS hA rfl hl.1 rfl (Nat.le_of_ble_eq_true rfl) dX1_kindOfSmalls_90 ⟨Nat.le_of_ble_eq_true rfl, Nat.le_of_ble_eq_true rfl⟩ (fun r90 w9 H locs hw90 hP hD hS => ?_)
              obtain ⟨rfl⟩ := hw90
              have b_r90 := iB r90
              refine m_if_lt (X := r90.toInt) (tgt := 100) hx hb dX1_kindOfSmalls_93 (by decide) rfl (fun c93 => ?_) (fun c93 => ?_)
              · skip
                exact J100 H locs ls hP hD hS (lv_sub hl [1] rfl)
              · skip
                exact J96 H locs ls hP hD hS (lv_sub hl [1] rfl)
      refine m_icmp_ge (X := l1_10.toInt) (Y := v_a_to.toInt) (tgt := 45) hx hb dX1_kindOfSmalls_15 (by decide) rfl rfl (fun c15 => ?_) (fun c15 => ?_)
      · skip
        exact J45 H locs ls (by trivial) hP hD hS (lv_sub hl [0] rfl)
      · skip
        refine lv_aload_n hx hb dX1_kindOfSmalls_18 rfl (lv_at hl 0 rfl) ?_
        refine va_get (D := D) (ci := 0) (v := .ref (q 1)) (C := RX1) (T := TX1) (N := 7) hx hb hts hinX1 hown hK hP 8 rfl rfl 0 (by decide) k_3_6 (fun _ h9 => h9) rfl dX1_kindOfSmalls_19 ?_
        refine lv_iload_n hx hb dX1_kindOfSmalls_22 rfl (lv_at hl 1 rfl) ?_
        refine m_bald hx hb hK hP 1 2 rfl rfl (ix (by omega) (by omega)) dX1_kindOfSmalls_23 (fun x23 e_x23 => ?_)
        have b_x23 := iB x23
        refine lv_bipush (v := 57) hx hb dX1_kindOfSmalls_24 (by decide) ?_
        refine m_icmp_gt (X := x23.toInt) (Y := 57) (tgt := 45) hx hb dX1_kindOfSmalls_26 (by decide) rfl (by decide) (fun c26 => ?_) (fun c26 => ?_)
        · skip
          exact J45 H locs ls (by trivial) hP hD hS (lv_sub hl [0] rfl)
        · skip
          refine lv_aload_n hx hb dX1_kindOfSmalls_29 rfl (lv_at hl 0 rfl) ?_
          refine lv_dup hx hb dX1_kindOfSmalls_30 rfl ?_
          refine va_get (D := D) (ci := 0) (v := .int v_a_digits_10) (C := RX1) (T := TX1) (N := 7) hx hb hts hinX1 hown hK hP 8 rfl rfl 3 (by decide) k_10_6 (fun _ h9 => h9) rfl dX1_kindOfSmalls_31 ?_
          refine lv_iconst (v := 1) hx hb dX1_kindOfSmalls_34 (by decide) ?_
          refine m_iadd (X := v_a_digits_10.toInt) (Y := 1) hx hb dX1_kindOfSmalls_35 rfl (by decide) (fun x35 e_x35 g9 => ?_)
          obtain ⟨k_x35, g_x35⟩ := g9
          have b_x35 := iB x35
          try (have q_x35 : x35.toInt = v_a_digits_10.toInt + 1 := (by omega); clear g_x35 k_x35)
          refine va_put (D := D) (ci := 0) (v := .int x35) (ty := .int) (C := RX1) (T := TX1) (N := 7) hx hb hts hinX1 tyX1 tyX1_ok nmX1 hown hK hP hD hS 8 rfl rfl 3 (by decide) k_10_6 (fun _ h9 => h9) rfl (by decide +kernel) rfl rfl (Nat.le_of_ble_eq_true rfl) dX1_kindOfSmalls_36 (fun H locs hP hD hS => ?_)
          have hP : va_P D vwCl (tw cs q v_t_tapeSize v_t_textSize v_t_faultKind a_t_tape a_t_text a_g_beyond v_g_size a_g_steps a_h_beyond v_h_size a_h_steps a_r_scratch a_r_now v_r_takes v_r_negative v_r_namePlace v_r_faultKind v_r_faultPlace v_a_size v_a_limit x35 v_a_kind v_a_from v_a_to v_o_size a_o_out v_b_size v_b_limit v_b_digits v_b_kind v_b_from v_b_to a_u_atom a_u_other a_u_hand v_u_marksMade v_u_came v_u_guesses v_u_right v_u_taken a_u_vars a_u_marks a_u_outcomes a_u_indexes v_s_things v_s_looked v_s_lookedTooOften v_s_arraysMade v_s_cellsMade a_s_classes a_s_starts a_s_lengths a_s_cells a_L a_K a_vc a_vd a_si a_sj a_iv a_inn a_ac) H := hP
          have hD : va_D A (tw cs q v_t_tapeSize v_t_textSize v_t_faultKind a_t_tape a_t_text a_g_beyond v_g_size a_g_steps a_h_beyond v_h_size a_h_steps a_r_scratch a_r_now v_r_takes v_r_negative v_r_namePlace v_r_faultKind v_r_faultPlace v_a_size v_a_limit x35 v_a_kind v_a_from v_a_to v_o_size a_o_out v_b_size v_b_limit v_b_digits v_b_kind v_b_from v_b_to a_u_atom a_u_other a_u_hand v_u_marksMade v_u_came v_u_guesses v_u_right v_u_taken a_u_vars a_u_marks a_u_outcomes a_u_indexes v_s_things v_s_looked v_s_lookedTooOften v_s_arraysMade v_s_cellsMade a_s_classes a_s_starts a_s_lengths a_s_cells a_L a_K a_vc a_vd a_si a_sj a_iv a_inn a_ac) := hD
          obtain ⟨x39, e_x39⟩ : ∃ z : Int32, z = l1_10 + (1 : Int32) := ⟨_, rfl⟩
          obtain ⟨k_x39, g_x39⟩ : ∃ k : Int, x39.toInt = l1_10.toInt + (1) + k * 4294967296 := by rw [e_x39]; exact iAdd l1_10 (1)
          have b_x39 := iB x39
          try (have q_x39 : x39.toInt = l1_10.toInt + (1) := (by omega); clear g_x39 k_x39)
          refine lv_iinc (v := x39) (lv' := [(1, .int x39), (0, .ref (q 8))]) hx hb dX1_kindOfSmalls_39 hl (k := 1) rfl (by rw [e_x39]; rfl) (by decide) rfl (fun ls hl => ?_)
          refine lv_goto (tgt := 10) hx hb dX1_kindOfSmalls_42 (by decide) ?_
          exact ih10 x39 x35 H locs ls (by first | assumption | omega | (intros; omega) | decide) (by first | assumption | omega | (intros; omega) | decide) (by first | assumption | omega | (intros; omega) | decide) (by omega) hP hD hS (lv_sub hl [1, 0] rfl)
  exact J10 ((v_a_to.toInt - v_a_from.toInt).toNat + 1) v_a_from (0 : Int32) H locs ls (by first | assumption | omega | (intros; omega) | decide) (by first | assumption | omega | (intros; omega) | decide) (by first | assumption | omega | (intros; omega) | decide) (by omega) hP hD hS (lv_sub hl [1, 0] rfl)

def rmX1_kindOfOther_qa : Room := { frames := 100, cells := 0, slots := 0, locals := 2000 }
set_option maxHeartbeats 4000000 in
set_option maxRecDepth 100000 in
theorem tX1_kindOfOther_qa {l : Launch} {D : va_G} {K : Nat → Nat → Nat} {cs : Nat → ClassId} {q : Nat → Nat} {v_t_tapeSize v_t_textSize v_t_faultKind v_g_size v_h_size v_r_takes v_r_negative v_r_namePlace v_r_faultKind v_r_faultPlace v_a_size v_a_limit v_a_digits v_a_kind v_a_from v_a_to v_o_size v_b_size v_b_limit v_b_digits v_b_kind v_b_from v_b_to v_u_marksMade v_u_came v_u_guesses v_u_right v_u_taken v_s_things v_s_looked v_s_lookedTooOften v_s_arraysMade v_s_cellsMade : Int32} {a_t_tape a_t_text a_o_out a_u_outcomes a_u_indexes a_s_classes a_s_starts a_s_lengths a_vc : Nat → Int32} {a_g_beyond a_h_beyond a_r_scratch a_r_now a_u_atom a_u_other a_u_hand : Nat} {a_g_steps a_h_steps a_u_vars a_u_marks : Nat → Option Nat} {a_s_cells a_vd a_sj : Nat → Int64} {a_L : List Nat} {a_K a_iv a_inn : Nat → Nat} {a_si a_ac : Nat → Nat → Int32} (p_0 : 0 ≤ v_a_from.toInt) (p_1 : v_a_from.toInt < v_a_size.toInt) (p_2 : v_a_size.toInt ≤ 3100) : CtI l yX1_kindOfOther (wG yX1_kindOfOther cX1_kindOfOther 1 (some .int)) rmX1_kindOfOther_qa D (twT cs) K [.ref (q 8)] (tw cs q v_t_tapeSize v_t_textSize v_t_faultKind a_t_tape a_t_text a_g_beyond v_g_size a_g_steps a_h_beyond v_h_size a_h_steps a_r_scratch a_r_now v_r_takes v_r_negative v_r_namePlace v_r_faultKind v_r_faultPlace v_a_size v_a_limit v_a_digits v_a_kind v_a_from v_a_to v_o_size a_o_out v_b_size v_b_limit v_b_digits v_b_kind v_b_from v_b_to a_u_atom a_u_other a_u_hand v_u_marksMade v_u_came v_u_guesses v_u_right v_u_taken a_u_vars a_u_marks a_u_outcomes a_u_indexes v_s_things v_s_looked v_s_lookedTooOften v_s_arraysMade v_s_cellsMade a_s_classes a_s_starts a_s_lengths a_s_cells a_L a_K a_vc a_vd a_si a_sj a_iv a_inn a_ac) (fun r w1 => ∃ (v_a_to' : Int32), w1 = (tw cs q v_t_tapeSize v_t_textSize v_t_faultKind a_t_tape a_t_text a_g_beyond v_g_size a_g_steps a_h_beyond v_h_size a_h_steps a_r_scratch a_r_now v_r_takes v_r_negative v_r_namePlace v_r_faultKind v_r_faultPlace v_a_size v_a_limit v_a_digits v_a_kind v_a_from v_a_to' v_o_size a_o_out v_b_size v_b_limit v_b_digits v_b_kind v_b_from v_b_to a_u_atom a_u_other a_u_hand v_u_marksMade v_u_came v_u_guesses v_u_right v_u_taken a_u_vars a_u_marks a_u_outcomes a_u_indexes v_s_things v_s_looked v_s_lookedTooOften v_s_arraysMade v_s_cellsMade a_s_classes a_s_starts a_s_lengths a_s_cells a_L a_K a_vc a_vd a_si a_sj a_iv a_inn a_ac) ∧ (v_a_to'.toInt = v_a_from.toInt + 1) ∧ (r.toInt = 1 ∨ r.toInt = 4)) 0 0 := by
  intro sz
  refine Met.ofW (cc := cX1_kindOfOther) (maxL := 1) (ret := (some .int)) (by decide) rfl ?_
  intro p e s m args below meth c s₁ B hml hv
  obtain ⟨rfl, hsz, hP, hK, hD0, hE⟩ := hv
  have hx := B.exec
  have hb := B.bytes
  have hr := B.returns
  have hts := atoms_spec (ws := (wG yX1_kindOfOther cX1_kindOfOther 1 (some .int))) B.pre
  have hown : s.vm.findClass RX1 = some m.cls := findClass_of_methodNamed B.named
  have hlocks := B.notSynchronized
  subst hsz
  have hD := hD0.self (sz := s.heap.size)
  obtain ⟨A, hAe⟩ : ∃ A : Nat → Prop, A = va_A (tw cs q v_t_tapeSize v_t_textSize v_t_faultKind a_t_tape a_t_text a_g_beyond v_g_size a_g_steps a_h_beyond v_h_size a_h_steps a_r_scratch a_r_now v_r_takes v_r_negative v_r_namePlace v_r_faultKind v_r_faultPlace v_a_size v_a_limit v_a_digits v_a_kind v_a_from v_a_to v_o_size a_o_out v_b_size v_b_limit v_b_digits v_b_kind v_b_from v_b_to a_u_atom a_u_other a_u_hand v_u_marksMade v_u_came v_u_guesses v_u_right v_u_taken a_u_vars a_u_marks a_u_outcomes a_u_indexes v_s_things v_s_looked v_s_lookedTooOften v_s_arraysMade v_s_cellsMade a_s_classes a_s_starts a_s_lengths a_s_cells a_L a_K a_vc a_vd a_si a_sj a_iv a_inn a_ac) s.heap.size := ⟨_, rfl⟩
  rw [← hAe] at hD hE
  have hA : ∀ q : Nat, s.heap.size ≤ q → A q := fun q h => by rw [hAe]; exact Or.inr h
  have hS : va_S A s.heap s.heap [] := va_S.rf
  have hl := lv_entry ([.ref (q 8)]) (n := 1) (Nat.le_of_ble_eq_true rfl)
  rw [lg_entry_eq]
  generalize (lg_sl ([.ref (q 8)]) ++ List.replicate (1 - (lg_sl ([.ref (q 8)])).length) Slot.unset).toArray = ls at hl ⊢
  have hl : lv_has ls 1 [(0, .ref (q 8))] := hl
  refine wq (fun Q hQ => ?_)
  have hinX1 : ∀ w ∈ wsX10, w ∈ (wG yX1_kindOfOther cX1_kindOfOther 1 (some .int)) := fun w h => List.mem_cons_of_mem _ (inlX1 w h)
  have kc0 : (1 : Int32).toInt = 1 := by decide
  have kc1 : (4 : Int32).toInt = 4 := by decide
  have kc2 : (255 : Int32).toInt = 255 := by decide
  have k_9_21 := hts (.fieldLink RX1 34 "ArrayTrainer$Lexer" "from" "I") (List.mem_cons_of_mem _ (wr9 _ (List.mem_of_getElem? (i := 21) rfl)))
  have k_9_16 := hts (.fieldLink RX1 31 "ArrayTrainer$Lexer" "to" "I") (List.mem_cons_of_mem _ (wr9 _ (List.mem_of_getElem? (i := 16) rfl)))
  have k_3_6 := hts (.fieldLink RX1 9 "ArrayTrainer$Lexer" "text" "[B") (List.mem_cons_of_mem _ (wr3 _ (List.mem_of_getElem? (i := 6) rfl)))
  obtain ⟨H, hH⟩ : ∃ H : Heap, H = s.heap := ⟨_, rfl⟩
  obtain ⟨locs, hlc⟩ : ∃ L : List Loc, L = [] := ⟨_, rfl⟩
  have hP : va_P D vwCl (tw cs q v_t_tapeSize v_t_textSize v_t_faultKind a_t_tape a_t_text a_g_beyond v_g_size a_g_steps a_h_beyond v_h_size a_h_steps a_r_scratch a_r_now v_r_takes v_r_negative v_r_namePlace v_r_faultKind v_r_faultPlace v_a_size v_a_limit v_a_digits v_a_kind v_a_from v_a_to v_o_size a_o_out v_b_size v_b_limit v_b_digits v_b_kind v_b_from v_b_to a_u_atom a_u_other a_u_hand v_u_marksMade v_u_came v_u_guesses v_u_right v_u_taken a_u_vars a_u_marks a_u_outcomes a_u_indexes v_s_things v_s_looked v_s_lookedTooOften v_s_arraysMade v_s_cellsMade a_s_classes a_s_starts a_s_lengths a_s_cells a_L a_K a_vc a_vd a_si a_sj a_iv a_inn a_ac) H := by rw [hH]; exact hP
  have hS : va_S A s.heap H locs := by rw [hH, hlc]; exact hS
  refine wHL hH hlc ?_
  refine lv_aload_n hx hb dX1_kindOfOther_0 rfl (lv_at hl 0 rfl) ?_
  refine lv_aload_n hx hb dX1_kindOfOther_1 rfl (lv_at hl 0 rfl) ?_
  refine va_get (D := D) (ci := 0) (v := .int v_a_from) (C := RX1) (T := TX1) (N := 7) hx hb hts hinX1 hown hK hP 8 rfl rfl 5 (by decide) k_9_21 (fun _ h9 => h9) rfl dX1_kindOfOther_2 ?_
  refine lv_iconst (v := 1) hx hb dX1_kindOfOther_5 (by decide) ?_
  refine m_iadd (X := v_a_from.toInt) (Y := 1) hx hb dX1_kindOfOther_6 rfl (by decide) (fun x6 e_x6 g9 => ?_)
  obtain ⟨k_x6, g_x6⟩ := g9
  have b_x6 := iB x6
  try (have q_x6 : x6.toInt = v_a_from.toInt + 1 := (by omega); clear g_x6 k_x6)
  refine va_put (D := D) (ci := 0) (v := .int x6) (ty := .int) (C := RX1) (T := TX1) (N := 7) hx hb hts hinX1 tyX1 tyX1_ok nmX1 hown hK hP hD hS 8 rfl rfl 6 (by decide) k_9_16 (fun _ h9 => h9) rfl (by decide +kernel) rfl rfl (Nat.le_of_ble_eq_true rfl) dX1_kindOfOther_7 (fun H locs hP hD hS => ?_)
  have hP : va_P D vwCl (tw cs q v_t_tapeSize v_t_textSize v_t_faultKind a_t_tape a_t_text a_g_beyond v_g_size a_g_steps a_h_beyond v_h_size a_h_steps a_r_scratch a_r_now v_r_takes v_r_negative v_r_namePlace v_r_faultKind v_r_faultPlace v_a_size v_a_limit v_a_digits v_a_kind v_a_from x6 v_o_size a_o_out v_b_size v_b_limit v_b_digits v_b_kind v_b_from v_b_to a_u_atom a_u_other a_u_hand v_u_marksMade v_u_came v_u_guesses v_u_right v_u_taken a_u_vars a_u_marks a_u_outcomes a_u_indexes v_s_things v_s_looked v_s_lookedTooOften v_s_arraysMade v_s_cellsMade a_s_classes a_s_starts a_s_lengths a_s_cells a_L a_K a_vc a_vd a_si a_sj a_iv a_inn a_ac) H := hP
  have hD : va_D A (tw cs q v_t_tapeSize v_t_textSize v_t_faultKind a_t_tape a_t_text a_g_beyond v_g_size a_g_steps a_h_beyond v_h_size a_h_steps a_r_scratch a_r_now v_r_takes v_r_negative v_r_namePlace v_r_faultKind v_r_faultPlace v_a_size v_a_limit v_a_digits v_a_kind v_a_from x6 v_o_size a_o_out v_b_size v_b_limit v_b_digits v_b_kind v_b_from v_b_to a_u_atom a_u_other a_u_hand v_u_marksMade v_u_came v_u_guesses v_u_right v_u_taken a_u_vars a_u_marks a_u_outcomes a_u_indexes v_s_things v_s_looked v_s_lookedTooOften v_s_arraysMade v_s_cellsMade a_s_classes a_s_starts a_s_lengths a_s_cells a_L a_K a_vc a_vd a_si a_sj a_iv a_inn a_ac) := hD
  refine va_ldcS hx hb hown (ld_1 hE) dX1_kindOfOther_10 ?_
  refine lv_aload_n hx hb dX1_kindOfOther_12 rfl (lv_at hl 0 rfl) ?_
  refine va_get (D := D) (ci := 0) (v := .ref (q 1)) (C := RX1) (T := TX1) (N := 7) hx hb hts hinX1 hown hK hP 8 rfl rfl 0 (by decide) k_3_6 (fun _ h9 => h9) rfl dX1_kindOfOther_13 ?_
  refine lv_aload_n hx hb dX1_kindOfOther_16 rfl (lv_at hl 0 rfl) ?_
  refine va_get (D := D) (ci := 0) (v := .int v_a_from) (C := RX1) (T := TX1) (N := 7) hx hb hts hinX1 hown hK hP 8 rfl rfl 5 (by decide) k_9_21 (fun _ h9 => h9) rfl dX1_kindOfOther_17 ?_
  refine m_bald hx hb hK hP 1 2 rfl rfl (ix (by omega) (by omega)) dX1_kindOfOther_20 (fun x20 e_x20 => ?_)
  have b_x20 := iB x20
  refine lv_sipush (v := 255) hx hb dX1_kindOfOther_21 (by decide) ?_
  refine m_iand hx hb dX1_kindOfOther_24 (fun x24 e_x24 => ?_)
  have b_x24 := iB x24
  refine m_i2c hx hb dX1_kindOfOther_25 (fun x25 e_x25 => ?_)
  have b_x25 := iB x25
  refine call_iP (As := [.int x25]) (rest := []) ⟨hx, hb, hml, hown, hts⟩ (tJ0_indexOf_0f7a4 (l := l) 1 so_1 x25) (cwV 1 hts (gV (wr10 _ (List.mem_of_getElem? (i := 7) rfl)) (wr10 _ (List.mem_of_getElem? (i := 8) rfl)) (wr10 _ (List.mem_of_getElem? (i := 9) rfl)) (wr10 _ (List.mem_of_getElem? (i := 10) rfl)) (wr10 _ (List.mem_of_getElem? (i := 11) rfl))) rfl rfl rfl (by decide +kernel) ⟨Nat.le_of_ble_eq_true rfl, Nat.le_of_ble_eq_true rfl⟩) (sRecv (hE.str so_1) hS) (hK.sub [] rfl) hP hD hE hS hA rfl hl.1 rfl (Nat.le_of_ble_eq_true rfl) dX1_kindOfOther_26 ⟨Nat.le_of_ble_eq_true rfl, Nat.le_of_ble_eq_true rfl⟩ (fun r26 w9 H locs hw26 hP hD hS => ?_)
  obtain ⟨rfl⟩ := hw26
  have b_r26 := iB r26
  refine m_if_lt (X := r26.toInt) (tgt := 36) hx hb dX1_kindOfOther_29 (by decide) rfl (fun c29 => ?_) (fun c29 => ?_)
  · skip
    refine lv_iconst (v := 1) hx hb dX1_kindOfOther_36 (by decide) ?_
    subst hAe
    rw [hQ]
    exact W.iret (v := 1) hx hb hr (fun t ht hW => ⟨⟨1, _, rfl, ⟨x6, rfl, by first | assumption | omega | (intros; omega) | decide, by first | assumption | omega | (intros; omega) | decide⟩, by rw [ht]; exact hP, va_K.moved hW.alike hK, hD⟩, hS.F ht⟩) hS.2.2 dX1_kindOfOther_37
  · skip
    refine lv_iconst (v := 4) hx hb dX1_kindOfOther_32 (by decide) ?_
    refine lv_goto (tgt := 37) hx hb dX1_kindOfOther_33 (by decide) ?_
    subst hAe
    rw [hQ]
    exact W.iret (v := 4) hx hb hr (fun t ht hW => ⟨⟨4, _, rfl, ⟨x6, rfl, by first | assumption | omega | (intros; omega) | decide, by first | assumption | omega | (intros; omega) | decide⟩, by rw [ht]; exact hP, va_K.moved hW.alike hK, hD⟩, hS.F ht⟩) hS.2.2 dX1_kindOfOther_37

def rmX1_next_qa : Room := { frames := 120, cells := 0, slots := 0, locals := 2400 }
set_option maxHeartbeats 4000000 in
set_option maxRecDepth 100000 in
theorem tX1_next_qa {l : Launch} {D : va_G} {K : Nat → Nat → Nat} {cs : Nat → ClassId} {q : Nat → Nat} {v_t_tapeSize v_t_textSize v_t_faultKind v_g_size v_h_size v_r_takes v_r_negative v_r_namePlace v_r_faultKind v_r_faultPlace v_a_size v_a_limit v_a_digits v_a_kind v_a_from v_a_to v_o_size v_b_size v_b_limit v_b_digits v_b_kind v_b_from v_b_to v_u_marksMade v_u_came v_u_guesses v_u_right v_u_taken v_s_things v_s_looked v_s_lookedTooOften v_s_arraysMade v_s_cellsMade : Int32} {a_t_tape a_t_text a_o_out a_u_outcomes a_u_indexes a_s_classes a_s_starts a_s_lengths a_vc : Nat → Int32} {a_g_beyond a_h_beyond a_r_scratch a_r_now a_u_atom a_u_other a_u_hand : Nat} {a_g_steps a_h_steps a_u_vars a_u_marks : Nat → Option Nat} {a_s_cells a_vd a_sj : Nat → Int64} {a_L : List Nat} {a_K a_iv a_inn : Nat → Nat} {a_si a_ac : Nat → Nat → Int32} (p_0 : LI0 3100 v_a_size v_a_limit v_a_digits v_a_to) : CtV l yX1_next (wG yX1_next cX1_next 2 none) rmX1_next_qa D (twT cs) K [.ref (q 8)] (tw cs q v_t_tapeSize v_t_textSize v_t_faultKind a_t_tape a_t_text a_g_beyond v_g_size a_g_steps a_h_beyond v_h_size a_h_steps a_r_scratch a_r_now v_r_takes v_r_negative v_r_namePlace v_r_faultKind v_r_faultPlace v_a_size v_a_limit v_a_digits v_a_kind v_a_from v_a_to v_o_size a_o_out v_b_size v_b_limit v_b_digits v_b_kind v_b_from v_b_to a_u_atom a_u_other a_u_hand v_u_marksMade v_u_came v_u_guesses v_u_right v_u_taken a_u_vars a_u_marks a_u_outcomes a_u_indexes v_s_things v_s_looked v_s_lookedTooOften v_s_arraysMade v_s_cellsMade a_s_classes a_s_starts a_s_lengths a_s_cells a_L a_K a_vc a_vd a_si a_sj a_iv a_inn a_ac) (fun w1 => ∃ (v_a_digits' : Int32) (v_a_kind' : Int32) (v_a_from' : Int32) (v_a_to' : Int32), w1 = (tw cs q v_t_tapeSize v_t_textSize v_t_faultKind a_t_tape a_t_text a_g_beyond v_g_size a_g_steps a_h_beyond v_h_size a_h_steps a_r_scratch a_r_now v_r_takes v_r_negative v_r_namePlace v_r_faultKind v_r_faultPlace v_a_size v_a_limit v_a_digits' v_a_kind' v_a_from' v_a_to' v_o_size a_o_out v_b_size v_b_limit v_b_digits v_b_kind v_b_from v_b_to a_u_atom a_u_other a_u_hand v_u_marksMade v_u_came v_u_guesses v_u_right v_u_taken a_u_vars a_u_marks a_u_outcomes a_u_indexes v_s_things v_s_looked v_s_lookedTooOften v_s_arraysMade v_s_cellsMade a_s_classes a_s_starts a_s_lengths a_s_cells a_L a_K a_vc a_vd a_si a_sj a_iv a_inn a_ac) ∧ (LI 3100 v_a_size v_a_limit v_a_digits' v_a_kind' v_a_from' v_a_to')) 0 0 := by
  intro sz
  refine Met.ofW (cc := cX1_next) (maxL := 2) (ret := none) (by decide) rfl ?_
  intro p e s m args below meth c s₁ B hml hv
  obtain ⟨rfl, hsz, hP, hK, hD0, hE⟩ := hv
  have hx := B.exec
  have hb := B.bytes
  have hr := B.returns
  have hts := atoms_spec (ws := (wG yX1_next cX1_next 2 none)) B.pre
  have hown : s.vm.findClass RX1 = some m.cls := findClass_of_methodNamed B.named
  have hlocks := B.notSynchronized
  subst hsz
  have hD := hD0.self (sz := s.heap.size)
  obtain ⟨A, hAe⟩ : ∃ A : Nat → Prop, A = va_A (tw cs q v_t_tapeSize v_t_textSize v_t_faultKind a_t_tape a_t_text a_g_beyond v_g_size a_g_steps a_h_beyond v_h_size a_h_steps a_r_scratch a_r_now v_r_takes v_r_negative v_r_namePlace v_r_faultKind v_r_faultPlace v_a_size v_a_limit v_a_digits v_a_kind v_a_from v_a_to v_o_size a_o_out v_b_size v_b_limit v_b_digits v_b_kind v_b_from v_b_to a_u_atom a_u_other a_u_hand v_u_marksMade v_u_came v_u_guesses v_u_right v_u_taken a_u_vars a_u_marks a_u_outcomes a_u_indexes v_s_things v_s_looked v_s_lookedTooOften v_s_arraysMade v_s_cellsMade a_s_classes a_s_starts a_s_lengths a_s_cells a_L a_K a_vc a_vd a_si a_sj a_iv a_inn a_ac) s.heap.size := ⟨_, rfl⟩
  rw [← hAe] at hD hE
  have hA : ∀ q : Nat, s.heap.size ≤ q → A q := fun q h => by rw [hAe]; exact Or.inr h
  have hS : va_S A s.heap s.heap [] := va_S.rf
  have hl := lv_entry ([.ref (q 8)]) (n := 2) (Nat.le_of_ble_eq_true rfl)
  rw [lg_entry_eq]
  generalize (lg_sl ([.ref (q 8)]) ++ List.replicate (2 - (lg_sl ([.ref (q 8)])).length) Slot.unset).toArray = ls at hl ⊢
  have hl : lv_has ls 2 [(0, .ref (q 8))] := hl
  refine wq (fun Q hQ => ?_)
  have hinX1 : ∀ w ∈ wsX10, w ∈ (wG yX1_next cX1_next 2 none) := fun w h => List.mem_cons_of_mem _ (inlX1 w h)
  have kc0 : (0 : Int32).toInt = 0 := by decide
  have kc1 : (1 : Int32).toInt = 1 := by decide
  have kc2 : (10 : Int32).toInt = 10 := by decide
  have kc3 : (32 : Int32).toInt = 32 := by decide
  have k_9_16 := hts (.fieldLink RX1 31 "ArrayTrainer$Lexer" "to" "I") (List.mem_cons_of_mem _ (wr9 _ (List.mem_of_getElem? (i := 16) rfl)))
  have k_9_14 := hts (.fieldLink RX1 24 "ArrayTrainer$Lexer" "size" "I") (List.mem_cons_of_mem _ (wr9 _ (List.mem_of_getElem? (i := 14) rfl)))
  have k_9_21 := hts (.fieldLink RX1 34 "ArrayTrainer$Lexer" "from" "I") (List.mem_cons_of_mem _ (wr9 _ (List.mem_of_getElem? (i := 21) rfl)))
  have k_9_15 := hts (.fieldLink RX1 28 "ArrayTrainer$Lexer" "limit" "I") (List.mem_cons_of_mem _ (wr9 _ (List.mem_of_getElem? (i := 15) rfl)))
  have k_9_22 := hts (.fieldLink RX1 37 "ArrayTrainer$Lexer" "kind" "I") (List.mem_cons_of_mem _ (wr9 _ (List.mem_of_getElem? (i := 22) rfl)))
  have k_3_6 := hts (.fieldLink RX1 9 "ArrayTrainer$Lexer" "text" "[B") (List.mem_cons_of_mem _ (wr3 _ (List.mem_of_getElem? (i := 6) rfl)))
  obtain ⟨H, hH⟩ : ∃ H : Heap, H = s.heap := ⟨_, rfl⟩
  obtain ⟨locs, hlc⟩ : ∃ L : List Loc, L = [] := ⟨_, rfl⟩
  have hP : va_P D vwCl (tw cs q v_t_tapeSize v_t_textSize v_t_faultKind a_t_tape a_t_text a_g_beyond v_g_size a_g_steps a_h_beyond v_h_size a_h_steps a_r_scratch a_r_now v_r_takes v_r_negative v_r_namePlace v_r_faultKind v_r_faultPlace v_a_size v_a_limit v_a_digits v_a_kind v_a_from v_a_to v_o_size a_o_out v_b_size v_b_limit v_b_digits v_b_kind v_b_from v_b_to a_u_atom a_u_other a_u_hand v_u_marksMade v_u_came v_u_guesses v_u_right v_u_taken a_u_vars a_u_marks a_u_outcomes a_u_indexes v_s_things v_s_looked v_s_lookedTooOften v_s_arraysMade v_s_cellsMade a_s_classes a_s_starts a_s_lengths a_s_cells a_L a_K a_vc a_vd a_si a_sj a_iv a_inn a_ac) H := by rw [hH]; exact hP
  have hS : va_S A s.heap H locs := by rw [hH, hlc]; exact hS
  refine wHL hH hlc ?_
  obtain ⟨⟨h1, h2⟩, ⟨h3, h4⟩, ⟨h5, h6⟩, h9⟩ := id p_0
  have bto := iB v_a_to
  refine lv_aload_n hx hb dX1_next_0 rfl (lv_at hl 0 rfl) ?_
  refine va_get (D := D) (ci := 0) (v := .int v_a_to) (C := RX1) (T := TX1) (N := 7) hx hb hts hinX1 hown hK hP 8 rfl rfl 6 (by decide) k_9_16 (fun _ h9 => h9) rfl dX1_next_1 ?_
  refine lv_istore_n (lv' := [(1, .int v_a_to), (0, .ref (q 8))]) hx hb dX1_next_4 rfl hl (by decide) rfl (fun ls hl => ?_)
  have J5 : ∀ (n5 : Nat) (l1_5 : Int32) (H : Heap) (locs : List Loc) (ls : Array Slot), (0 ≤ l1_5.toInt) → (l1_5.toInt ≤ 2147483647) → (2147483647 - l1_5.toInt < (n5 : Int)) → va_P D vwCl (tw cs q v_t_tapeSize v_t_textSize v_t_faultKind a_t_tape a_t_text a_g_beyond v_g_size a_g_steps a_h_beyond v_h_size a_h_steps a_r_scratch a_r_now v_r_takes v_r_negative v_r_namePlace v_r_faultKind v_r_faultPlace v_a_size v_a_limit v_a_digits v_a_kind v_a_from v_a_to v_o_size a_o_out v_b_size v_b_limit v_b_digits v_b_kind v_b_from v_b_to a_u_atom a_u_other a_u_hand v_u_marksMade v_u_came v_u_guesses v_u_right v_u_taken a_u_vars a_u_marks a_u_outcomes a_u_indexes v_s_things v_s_looked v_s_lookedTooOften v_s_arraysMade v_s_cellsMade a_s_classes a_s_starts a_s_lengths a_s_cells a_L a_K a_vc a_vd a_si a_sj a_iv a_inn a_ac) H → va_D A (tw cs q v_t_tapeSize v_t_textSize v_t_faultKind a_t_tape a_t_text a_g_beyond v_g_size a_g_steps a_h_beyond v_h_size a_h_steps a_r_scratch a_r_now v_r_takes v_r_negative v_r_namePlace v_r_faultKind v_r_faultPlace v_a_size v_a_limit v_a_digits v_a_kind v_a_from v_a_to v_o_size a_o_out v_b_size v_b_limit v_b_digits v_b_kind v_b_from v_b_to a_u_atom a_u_other a_u_hand v_u_marksMade v_u_came v_u_guesses v_u_right v_u_taken a_u_vars a_u_marks a_u_outcomes a_u_indexes v_s_things v_s_looked v_s_lookedTooOften v_s_arraysMade v_s_cellsMade a_s_classes a_s_starts a_s_lengths a_s_cells a_L a_K a_vc a_vd a_si a_sj a_iv a_inn a_ac) → va_S A s.heap H locs → lv_has ls 2 [(0, .ref (q 8)), (1, .int l1_5)] → W p l e (headSpec (wG yX1_next cX1_next 2 none) rmX1_next_qa).room s m ([.ref (q 8)] : List Value).toArray below meth c H locs 0 0 Q (F0 m 5 ls []) := by
    intro n5
    induction n5 with
    | zero =>
      intro l1_5 H locs ls f5_0 f5_1 hm5
      exfalso
      omega
    | succ n5 ih5 =>
      intro l1_5 H locs ls f5_0 f5_1 hm5 hP hD hS hl
      refine lv_iload_n hx hb dX1_next_5 rfl (lv_at hl 1 rfl) ?_
      refine lv_aload_n hx hb dX1_next_6 rfl (lv_at hl 0 rfl) ?_
      refine va_get (D := D) (ci := 0) (v := .int v_a_size) (C := RX1) (T := TX1) (N := 7) hx hb hts hinX1 hown hK hP 8 rfl rfl 1 (by decide) k_9_14 (fun _ h9 => h9) rfl dX1_next_7 ?_
      have J41 : ∀ (H : Heap) (locs : List Loc) (ls : Array Slot), va_P D vwCl (tw cs q v_t_tapeSize v_t_textSize v_t_faultKind a_t_tape a_t_text a_g_beyond v_g_size a_g_steps a_h_beyond v_h_size a_h_steps a_r_scratch a_r_now v_r_takes v_r_negative v_r_namePlace v_r_faultKind v_r_faultPlace v_a_size v_a_limit v_a_digits v_a_kind v_a_from v_a_to v_o_size a_o_out v_b_size v_b_limit v_b_digits v_b_kind v_b_from v_b_to a_u_atom a_u_other a_u_hand v_u_marksMade v_u_came v_u_guesses v_u_right v_u_taken a_u_vars a_u_marks a_u_outcomes a_u_indexes v_s_things v_s_looked v_s_lookedTooOften v_s_arraysMade v_s_cellsMade a_s_classes a_s_starts a_s_lengths a_s_cells a_L a_K a_vc a_vd a_si a_sj a_iv a_inn a_ac) H → va_D A (tw cs q v_t_tapeSize v_t_textSize v_t_faultKind a_t_tape a_t_text a_g_beyond v_g_size a_g_steps a_h_beyond v_h_size a_h_steps a_r_scratch a_r_now v_r_takes v_r_negative v_r_namePlace v_r_faultKind v_r_faultPlace v_a_size v_a_limit v_a_digits v_a_kind v_a_from v_a_to v_o_size a_o_out v_b_size v_b_limit v_b_digits v_b_kind v_b_from v_b_to a_u_atom a_u_other a_u_hand v_u_marksMade v_u_came v_u_guesses v_u_right v_u_taken a_u_vars a_u_marks a_u_outcomes a_u_indexes v_s_things v_s_looked v_s_lookedTooOften v_s_arraysMade v_s_cellsMade a_s_classes a_s_starts a_s_lengths a_s_cells a_L a_K a_vc a_vd a_si a_sj a_iv a_inn a_ac) → va_S A s.heap H locs → lv_has ls 2 [(0, .ref (q 8)), (1, .int l1_5)] → W p l e (headSpec (wG yX1_next cX1_next 2 none) rmX1_next_qa).room s m ([.ref (q 8)] : List Value).toArray below meth c H locs 0 0 Q (F0 m 41 ls []) := by
        intro H locs ls hP hD hS hl
        refine lv_aload_n hx hb dX1_next_41 rfl (lv_at hl 0 rfl) ?_
        refine lv_iload_n hx hb dX1_next_42 rfl (lv_at hl 1 rfl) ?_
        refine va_put (D := D) (ci := 0) (v := .int l1_5) (ty := .int) (C := RX1) (T := TX1) (N := 7) hx hb hts hinX1 tyX1 tyX1_ok nmX1 hown hK hP hD hS 8 rfl rfl 5 (by decide) k_9_21 (fun _ h9 => h9) rfl (by decide +kernel) rfl rfl (Nat.le_of_ble_eq_true rfl) dX1_next_43 (fun H locs hP hD hS => ?_)
        have hP : va_P D vwCl (tw cs q v_t_tapeSize v_t_textSize v_t_faultKind a_t_tape a_t_text a_g_beyond v_g_size a_g_steps a_h_beyond v_h_size a_h_steps a_r_scratch a_r_now v_r_takes v_r_negative v_r_namePlace v_r_faultKind v_r_faultPlace v_a_size v_a_limit v_a_digits v_a_kind l1_5 v_a_to v_o_size a_o_out v_b_size v_b_limit v_b_digits v_b_kind v_b_from v_b_to a_u_atom a_u_other a_u_hand v_u_marksMade v_u_came v_u_guesses v_u_right v_u_taken a_u_vars a_u_marks a_u_outcomes a_u_indexes v_s_things v_s_looked v_s_lookedTooOften v_s_arraysMade v_s_cellsMade a_s_classes a_s_starts a_s_lengths a_s_cells a_L a_K a_vc a_vd a_si a_sj a_iv a_inn a_ac) H := hP
        have hD : va_D A (tw cs q v_t_tapeSize v_t_textSize v_t_faultKind a_t_tape a_t_text a_g_beyond v_g_size a_g_steps a_h_beyond v_h_size a_h_steps a_r_scratch a_r_now v_r_takes v_r_negative v_r_namePlace v_r_faultKind v_r_faultPlace v_a_size v_a_limit v_a_digits v_a_kind l1_5 v_a_to v_o_size a_o_out v_b_size v_b_limit v_b_digits v_b_kind v_b_from v_b_to a_u_atom a_u_other a_u_hand v_u_marksMade v_u_came v_u_guesses v_u_right v_u_taken a_u_vars a_u_marks a_u_outcomes a_u_indexes v_s_things v_s_looked v_s_lookedTooOften v_s_arraysMade v_s_cellsMade a_s_classes a_s_starts a_s_lengths a_s_cells a_L a_K a_vc a_vd a_si a_sj a_iv a_inn a_ac) := hD
        refine lv_aload_n hx hb dX1_next_46 rfl (lv_at hl 0 rfl) ?_
        refine lv_iload_n hx hb dX1_next_47 rfl (lv_at hl 1 rfl) ?_
        refine va_put (D := D) (ci := 0) (v := .int l1_5) (ty := .int) (C := RX1) (T := TX1) (N := 7) hx hb hts hinX1 tyX1 tyX1_ok nmX1 hown hK hP hD hS 8 rfl rfl 6 (by decide) k_9_16 (fun _ h9 => h9) rfl (by decide +kernel) rfl rfl (Nat.le_of_ble_eq_true rfl) dX1_next_48 (fun H locs hP hD hS => ?_)
        have hP : va_P D vwCl (tw cs q v_t_tapeSize v_t_textSize v_t_faultKind a_t_tape a_t_text a_g_beyond v_g_size a_g_steps a_h_beyond v_h_size a_h_steps a_r_scratch a_r_now v_r_takes v_r_negative v_r_namePlace v_r_faultKind v_r_faultPlace v_a_size v_a_limit v_a_digits v_a_kind l1_5 l1_5 v_o_size a_o_out v_b_size v_b_limit v_b_digits v_b_kind v_b_from v_b_to a_u_atom a_u_other a_u_hand v_u_marksMade v_u_came v_u_guesses v_u_right v_u_taken a_u_vars a_u_marks a_u_outcomes a_u_indexes v_s_things v_s_looked v_s_lookedTooOften v_s_arraysMade v_s_cellsMade a_s_classes a_s_starts a_s_lengths a_s_cells a_L a_K a_vc a_vd a_si a_sj a_iv a_inn a_ac) H := hP
        have hD : va_D A (tw cs q v_t_tapeSize v_t_textSize v_t_faultKind a_t_tape a_t_text a_g_beyond v_g_size a_g_steps a_h_beyond v_h_size a_h_steps a_r_scratch a_r_now v_r_takes v_r_negative v_r_namePlace v_r_faultKind v_r_faultPlace v_a_size v_a_limit v_a_digits v_a_kind l1_5 l1_5 v_o_size a_o_out v_b_size v_b_limit v_b_digits v_b_kind v_b_from v_b_to a_u_atom a_u_other a_u_hand v_u_marksMade v_u_came v_u_guesses v_u_right v_u_taken a_u_vars a_u_marks a_u_outcomes a_u_indexes v_s_things v_s_looked v_s_lookedTooOften v_s_arraysMade v_s_cellsMade a_s_classes a_s_starts a_s_lengths a_s_cells a_L a_K a_vc a_vd a_si a_sj a_iv a_inn a_ac) := hD
        refine lv_aload_n hx hb dX1_next_51 rfl (lv_at hl 0 rfl) ?_
        refine va_get (D := D) (ci := 0) (v := .int v_a_size) (C := RX1) (T := TX1) (N := 7) hx hb hts hinX1 hown hK hP 8 rfl rfl 1 (by decide) k_9_14 (fun _ h9 => h9) rfl dX1_next_52 ?_
        refine lv_aload_n hx hb dX1_next_55 rfl (lv_at hl 0 rfl) ?_
        refine va_get (D := D) (ci := 0) (v := .int v_a_limit) (C := RX1) (T := TX1) (N := 7) hx hb hts hinX1 hown hK hP 8 rfl rfl 2 (by decide) k_9_15 (fun _ h9 => h9) rfl dX1_next_56 ?_
        have J86 : ∀ (H : Heap) (locs : List Loc) (ls : Array Slot), va_P D vwCl (tw cs q v_t_tapeSize v_t_textSize v_t_faultKind a_t_tape a_t_text a_g_beyond v_g_size a_g_steps a_h_beyond v_h_size a_h_steps a_r_scratch a_r_now v_r_takes v_r_negative v_r_namePlace v_r_faultKind v_r_faultPlace v_a_size v_a_limit v_a_digits v_a_kind l1_5 l1_5 v_o_size a_o_out v_b_size v_b_limit v_b_digits v_b_kind v_b_from v_b_to a_u_atom a_u_other a_u_hand v_u_marksMade v_u_came v_u_guesses v_u_right v_u_taken a_u_vars a_u_marks a_u_outcomes a_u_indexes v_s_things v_s_looked v_s_lookedTooOften v_s_arraysMade v_s_cellsMade a_s_classes a_s_starts a_s_lengths a_s_cells a_L a_K a_vc a_vd a_si a_sj a_iv a_inn a_ac) H → va_D A (tw cs q v_t_tapeSize v_t_textSize v_t_faultKind a_t_tape a_t_text a_g_beyond v_g_size a_g_steps a_h_beyond v_h_size a_h_steps a_r_scratch a_r_now v_r_takes v_r_negative v_r_namePlace v_r_faultKind v_r_faultPlace v_a_size v_a_limit v_a_digits v_a_kind l1_5 l1_5 v_o_size a_o_out v_b_size v_b_limit v_b_digits v_b_kind v_b_from v_b_to a_u_atom a_u_other a_u_hand v_u_marksMade v_u_came v_u_guesses v_u_right v_u_taken a_u_vars a_u_marks a_u_outcomes a_u_indexes v_s_things v_s_looked v_s_lookedTooOften v_s_arraysMade v_s_cellsMade a_s_classes a_s_starts a_s_lengths a_s_cells a_L a_K a_vc a_vd a_si a_sj a_iv a_inn a_ac) → va_S A s.heap H locs → lv_has ls 2 [(0, .ref (q 8)), (1, .int l1_5)] → W p l e (headSpec (wG yX1_next cX1_next 2 none) rmX1_next_qa).room s m ([.ref (q 8)] : List Value).toArray below meth c H locs 0 0 Q (F0 m 86 ls []) := by
          intro H locs ls hP hD hS hl
          refine lv_iload_n hx hb dX1_next_86 rfl (lv_at hl 1 rfl) ?_
          refine lv_aload_n hx hb dX1_next_87 rfl (lv_at hl 0 rfl) ?_
          refine va_get (D := D) (ci := 0) (v := .int v_a_size) (C := RX1) (T := TX1) (N := 7) hx hb hts hinX1 hown hK hP 8 rfl rfl 1 (by decide) k_9_14 (fun _ h9 => h9) rfl dX1_next_88 ?_
          have J110 : ∀ (n110 : Nat) (v_a_to_110 : Int32) (H : Heap) (locs : List Loc) (ls : Array Slot), (l1_5.toInt < v_a_size.toInt) → (l1_5.toInt ≤ v_a_to_110.toInt) → (v_a_to_110.toInt ≤ v_a_size.toInt) → (v_a_size.toInt - v_a_to_110.toInt < (n110 : Int)) → va_P D vwCl (tw cs q v_t_tapeSize v_t_textSize v_t_faultKind a_t_tape a_t_text a_g_beyond v_g_size a_g_steps a_h_beyond v_h_size a_h_steps a_r_scratch a_r_now v_r_takes v_r_negative v_r_namePlace v_r_faultKind v_r_faultPlace v_a_size v_a_limit v_a_digits v_a_kind l1_5 v_a_to_110 v_o_size a_o_out v_b_size v_b_limit v_b_digits v_b_kind v_b_from v_b_to a_u_atom a_u_other a_u_hand v_u_marksMade v_u_came v_u_guesses v_u_right v_u_taken a_u_vars a_u_marks a_u_outcomes a_u_indexes v_s_things v_s_looked v_s_lookedTooOften v_s_arraysMade v_s_cellsMade a_s_classes a_s_starts a_s_lengths a_s_cells a_L a_K a_vc a_vd a_si a_sj a_iv a_inn a_ac) H → va_D A (tw cs q v_t_tapeSize v_t_textSize v_t_faultKind a_t_tape a_t_text a_g_beyond v_g_size a_g_steps a_h_beyond v_h_size a_h_steps a_r_scratch a_r_now v_r_takes v_r_negative v_r_namePlace v_r_faultKind v_r_faultPlace v_a_size v_a_limit v_a_digits v_a_kind l1_5 v_a_to_110 v_o_size a_o_out v_b_size v_b_limit v_b_digits v_b_kind v_b_from v_b_to a_u_atom a_u_other a_u_hand v_u_marksMade v_u_came v_u_guesses v_u_right v_u_taken a_u_vars a_u_marks a_u_outcomes a_u_indexes v_s_things v_s_looked v_s_lookedTooOften v_s_arraysMade v_s_cellsMade a_s_classes a_s_starts a_s_lengths a_s_cells a_L a_K a_vc a_vd a_si a_sj a_iv a_inn a_ac) → va_S A s.heap H locs → lv_has ls 2 [(0, .ref (q 8)), (1, .int l1_5)] → W p l e (headSpec (wG yX1_next cX1_next 2 none) rmX1_next_qa).room s m ([.ref (q 8)] : List Value).toArray below meth c H locs 0 0 Q (F0 m 110 ls []) := by
            intro n110
            induction n110 with
            | zero =>
              intro v_a_to_110 H locs ls f110_0 f110_1 f110_2 hm110
              exfalso
              omega
            | succ n110 ih110 =>
              intro v_a_to_110 H locs ls f110_0 f110_1 f110_2 hm110 hP hD hS hl
              refine lv_aload_n hx hb dX1_next_110 rfl (lv_at hl 0 rfl) ?_
              refine va_get (D := D) (ci := 0) (v := .int v_a_to_110) (C := RX1) (T := TX1) (N := 7) hx hb hts hinX1 hown hK hP 8 rfl rfl 6 (by decide) k_9_16 (fun _ h9 => h9) rfl dX1_next_111 ?_
              refine lv_aload_n hx hb dX1_next_114 rfl (lv_at hl 0 rfl) ?_
              refine va_get (D := D) (ci := 0) (v := .int v_a_size) (C := RX1) (T := TX1) (N := 7) hx hb hts hinX1 hown hK hP 8 rfl rfl 1 (by decide) k_9_14 (fun _ h9 => h9) rfl dX1_next_115 ?_
              have J149 : ∀ (H : Heap) (locs : List Loc) (ls : Array Slot), va_P D vwCl (tw cs q v_t_tapeSize v_t_textSize v_t_faultKind a_t_tape a_t_text a_g_beyond v_g_size a_g_steps a_h_beyond v_h_size a_h_steps a_r_scratch a_r_now v_r_takes v_r_negative v_r_namePlace v_r_faultKind v_r_faultPlace v_a_size v_a_limit v_a_digits v_a_kind l1_5 v_a_to_110 v_o_size a_o_out v_b_size v_b_limit v_b_digits v_b_kind v_b_from v_b_to a_u_atom a_u_other a_u_hand v_u_marksMade v_u_came v_u_guesses v_u_right v_u_taken a_u_vars a_u_marks a_u_outcomes a_u_indexes v_s_things v_s_looked v_s_lookedTooOften v_s_arraysMade v_s_cellsMade a_s_classes a_s_starts a_s_lengths a_s_cells a_L a_K a_vc a_vd a_si a_sj a_iv a_inn a_ac) H → va_D A (tw cs q v_t_tapeSize v_t_textSize v_t_faultKind a_t_tape a_t_text a_g_beyond v_g_size a_g_steps a_h_beyond v_h_size a_h_steps a_r_scratch a_r_now v_r_takes v_r_negative v_r_namePlace v_r_faultKind v_r_faultPlace v_a_size v_a_limit v_a_digits v_a_kind l1_5 v_a_to_110 v_o_size a_o_out v_b_size v_b_limit v_b_digits v_b_kind v_b_from v_b_to a_u_atom a_u_other a_u_hand v_u_marksMade v_u_came v_u_guesses v_u_right v_u_taken a_u_vars a_u_marks a_u_outcomes a_u_indexes v_s_things v_s_looked v_s_lookedTooOften v_s_arraysMade v_s_cellsMade a_s_classes a_s_starts a_s_lengths a_s_cells a_L a_K a_vc a_vd a_si a_sj a_iv a_inn a_ac) → va_S A s.heap H locs → lv_has ls 2 [(0, .ref (q 8)), (1, .int l1_5)] → W p l e (headSpec (wG yX1_next cX1_next 2 none) rmX1_next_qa).room s m ([.ref (q 8)] : List Value).toArray below meth c H locs 0 0 Q (F0 m 149 ls []) := by
                intro H locs ls hP hD hS hl
                refine lv_aload_n hx hb dX1_next_149 rfl (lv_at hl 0 rfl) ?_
                refine lv_aload_n hx hb dX1_next_150 rfl (lv_at hl 0 rfl) ?_
                refine va_get (D := D) (ci := 0) (v := .int v_a_to_110) (C := RX1) (T := TX1) (N := 7) hx hb hts hinX1 hown hK hP 8 rfl rfl 6 (by decide) k_9_16 (fun _ h9 => h9) rfl dX1_next_151 ?_
                refine lv_iload_n hx hb dX1_next_154 rfl (lv_at hl 1 rfl) ?_
                refine m_icmp_le (X := v_a_to_110.toInt) (Y := l1_5.toInt) (tgt := 165) hx hb dX1_next_155 (by decide) rfl rfl (fun c155 => ?_) (fun c155 => ?_)
                · skip
                  refine lv_aload_n hx hb dX1_next_165 rfl (lv_at hl 0 rfl) ?_
                  refine call_i (As := []) (rest := [.ref (q 8)]) ⟨hx, hb, hml, hown, hts⟩ (tX1_kindOfOther_qa (l := l)  (by first | assumption | omega | (intros; omega) | decide) (by first | assumption | omega | (intros; omega) | decide) (by first | assumption | omega | (intros; omega) | decide)) (cwV 0 hts (gV (wr13 _ (List.mem_of_getElem? (i := 19) rfl)) (wr13 _ (List.mem_of_getElem? (i := 20) rfl)) (wr13 _ (List.mem_of_getElem? (i := 21) rfl)) (wr2 _ (List.mem_of_getElem? (i := 2) rfl)) (wr13 _ (List.mem_of_getElem? (i := 22) rfl))) rfl rfl rfl (by decide +kernel) ⟨Nat.le_of_ble_eq_true rfl, Nat.le_of_ble_eq_true rfl⟩) (va_recv hK hP (ci := 0) (q0 := 8) rfl rfl) hK hP hD hE hS hA rfl hl.1 rfl (Nat.le_of_ble_eq_true rfl) dX1_next_166 ⟨Nat.le_of_ble_eq_true rfl, Nat.le_of_ble_eq_true rfl⟩ (fun r166 w9 H locs hw166 hP hD hS => ?_)
                  obtain ⟨v_a_to_166, rfl, hw166_0, hw166_1⟩ := hw166
                  have b_v_a_to_166 := iB v_a_to_166
                  have b_r166 := iB r166
                  refine va_put (D := D) (ci := 0) (v := .int r166) (ty := .int) (C := RX1) (T := TX1) (N := 7) hx hb hts hinX1 tyX1 tyX1_ok nmX1 hown hK hP hD hS 8 rfl rfl 4 (by decide) k_9_22 (fun _ h9 => h9) rfl (by decide +kernel) rfl rfl (Nat.le_of_ble_eq_true rfl) dX1_next_169 (fun H locs hP hD hS => ?_)
                  have hP : va_P D vwCl (tw cs q v_t_tapeSize v_t_textSize v_t_faultKind a_t_tape a_t_text a_g_beyond v_g_size a_g_steps a_h_beyond v_h_size a_h_steps a_r_scratch a_r_now v_r_takes v_r_negative v_r_namePlace v_r_faultKind v_r_faultPlace v_a_size v_a_limit v_a_digits r166 l1_5 v_a_to_166 v_o_size a_o_out v_b_size v_b_limit v_b_digits v_b_kind v_b_from v_b_to a_u_atom a_u_other a_u_hand v_u_marksMade v_u_came v_u_guesses v_u_right v_u_taken a_u_vars a_u_marks a_u_outcomes a_u_indexes v_s_things v_s_looked v_s_lookedTooOften v_s_arraysMade v_s_cellsMade a_s_classes a_s_starts a_s_lengths a_s_cells a_L a_K a_vc a_vd a_si a_sj a_iv a_inn a_ac) H := hP
                  have hD : va_D A (tw cs q v_t_tapeSize v_t_textSize v_t_faultKind a_t_tape a_t_text a_g_beyond v_g_size a_g_steps a_h_beyond v_h_size a_h_steps a_r_scratch a_r_now v_r_takes v_r_negative v_r_namePlace v_r_faultKind v_r_faultPlace v_a_size v_a_limit v_a_digits r166 l1_5 v_a_to_166 v_o_size a_o_out v_b_size v_b_limit v_b_digits v_b_kind v_b_from v_b_to a_u_atom a_u_other a_u_hand v_u_marksMade v_u_came v_u_guesses v_u_right v_u_taken a_u_vars a_u_marks a_u_outcomes a_u_indexes v_s_things v_s_looked v_s_lookedTooOften v_s_arraysMade v_s_cellsMade a_s_classes a_s_starts a_s_lengths a_s_cells a_L a_K a_vc a_vd a_si a_sj a_iv a_inn a_ac) := hD
                  subst hAe
                  rw [hQ]
                  exact W.vret hx hb hr (fun t ht hW => ⟨⟨_, rfl, ⟨v_a_digits, r166, l1_5, v_a_to_166, rfl, by exact ⟨⟨by omega, by omega⟩, ⟨by omega, by omega⟩, ⟨by omega, by omega⟩, ⟨by omega, by omega⟩, by omega, fun q => by omega⟩⟩, by rw [ht]; exact hP, va_K.moved hW.alike hK, hD⟩, hS.F ht⟩) hS.2.2 dX1_next_172
                · skip
                  refine lv_aload_n hx hb dX1_next_158 rfl (lv_at hl 0 rfl) ?_
                  refine call_i (As := []) (rest := [.ref (q 8)]) ⟨hx, hb, hml, hown, hts⟩ (tX1_kindOfSmalls_qa (l := l)  (by first | assumption | omega | (intros; omega) | decide) (by first | assumption | omega | (intros; omega) | decide) (by first | assumption | omega | (intros; omega) | decide) (by first | assumption | omega | (intros; omega) | decide)) (cwV 0 hts (gV (wr10 _ (List.mem_of_getElem? (i := 2) rfl)) (wr10 _ (List.mem_of_getElem? (i := 3) rfl)) (wr10 _ (List.mem_of_getElem? (i := 4) rfl)) (wr2 _ (List.mem_of_getElem? (i := 2) rfl)) (wr10 _ (List.mem_of_getElem? (i := 5) rfl))) rfl rfl rfl (by decide +kernel) ⟨Nat.le_of_ble_eq_true rfl, Nat.le_of_ble_eq_true rfl⟩) (va_recv hK hP (ci := 0) (q0 := 8) rfl rfl) hK hP hD hE hS hA rfl hl.1 rfl (Nat.le_of_ble_eq_true rfl) dX1_next_159 ⟨Nat.le_of_ble_eq_true rfl, Nat.le_of_ble_eq_true rfl⟩ (fun r159 w9 H locs hw159 hP hD hS => ?_)
                  obtain ⟨v_a_digits_159, rfl, hw159_0, hw159_1, hw159_2⟩ := hw159
                  have b_v_a_digits_159 := iB v_a_digits_159
                  have b_r159 := iB r159
                  refine lv_goto (tgt := 169) hx hb dX1_next_162 (by decide) ?_
                  refine va_put (D := D) (ci := 0) (v := .int r159) (ty := .int) (C := RX1) (T := TX1) (N := 7) hx hb hts hinX1 tyX1 tyX1_ok nmX1 hown hK hP hD hS 8 rfl rfl 4 (by decide) k_9_22 (fun _ h9 => h9) rfl (by decide +kernel) rfl rfl (Nat.le_of_ble_eq_true rfl) dX1_next_169 (fun H locs hP hD hS => ?_)
                  have hP : va_P D vwCl (tw cs q v_t_tapeSize v_t_textSize v_t_faultKind a_t_tape a_t_text a_g_beyond v_g_size a_g_steps a_h_beyond v_h_size a_h_steps a_r_scratch a_r_now v_r_takes v_r_negative v_r_namePlace v_r_faultKind v_r_faultPlace v_a_size v_a_limit v_a_digits_159 r159 l1_5 v_a_to_110 v_o_size a_o_out v_b_size v_b_limit v_b_digits v_b_kind v_b_from v_b_to a_u_atom a_u_other a_u_hand v_u_marksMade v_u_came v_u_guesses v_u_right v_u_taken a_u_vars a_u_marks a_u_outcomes a_u_indexes v_s_things v_s_looked v_s_lookedTooOften v_s_arraysMade v_s_cellsMade a_s_classes a_s_starts a_s_lengths a_s_cells a_L a_K a_vc a_vd a_si a_sj a_iv a_inn a_ac) H := hP
                  have hD : va_D A (tw cs q v_t_tapeSize v_t_textSize v_t_faultKind a_t_tape a_t_text a_g_beyond v_g_size a_g_steps a_h_beyond v_h_size a_h_steps a_r_scratch a_r_now v_r_takes v_r_negative v_r_namePlace v_r_faultKind v_r_faultPlace v_a_size v_a_limit v_a_digits_159 r159 l1_5 v_a_to_110 v_o_size a_o_out v_b_size v_b_limit v_b_digits v_b_kind v_b_from v_b_to a_u_atom a_u_other a_u_hand v_u_marksMade v_u_came v_u_guesses v_u_right v_u_taken a_u_vars a_u_marks a_u_outcomes a_u_indexes v_s_things v_s_looked v_s_lookedTooOften v_s_arraysMade v_s_cellsMade a_s_classes a_s_starts a_s_lengths a_s_cells a_L a_K a_vc a_vd a_si a_sj a_iv a_inn a_ac) := hD
                  subst hAe
                  rw [hQ]
                  exact W.vret hx hb hr (fun t ht hW => ⟨⟨_, rfl, ⟨v_a_digits_159, r159, l1_5, v_a_to_110, rfl, by exact ⟨⟨by omega, by omega⟩, ⟨by omega, by omega⟩, ⟨by omega, by omega⟩, ⟨by omega, by omega⟩, by omega, fun q => by omega⟩⟩, by rw [ht]; exact hP, va_K.moved hW.alike hK, hD⟩, hS.F ht⟩) hS.2.2 dX1_next_172
              refine m_icmp_ge (X := v_a_to_110.toInt) (Y := v_a_size.toInt) (tgt := 149) hx hb dX1_next_118 (by decide) rfl rfl (fun c118 => ?_) (fun c118 => ?_)
              · skip
                exact J149 H locs ls hP hD hS (lv_sub hl [0, 1] rfl)
              · skip
                refine lv_aload_n hx hb dX1_next_121 rfl (lv_at hl 0 rfl) ?_
                refine va_get (D := D) (ci := 0) (v := .ref (q 1)) (C := RX1) (T := TX1) (N := 7) hx hb hts hinX1 hown hK hP 8 rfl rfl 0 (by decide) k_3_6 (fun _ h9 => h9) rfl dX1_next_122 ?_
                refine lv_aload_n hx hb dX1_next_125 rfl (lv_at hl 0 rfl) ?_
                refine va_get (D := D) (ci := 0) (v := .int v_a_to_110) (C := RX1) (T := TX1) (N := 7) hx hb hts hinX1 hown hK hP 8 rfl rfl 6 (by decide) k_9_16 (fun _ h9 => h9) rfl dX1_next_126 ?_
                refine m_bald hx hb hK hP 1 2 rfl rfl (ix (by omega) (by omega)) dX1_next_129 (fun x129 e_x129 => ?_)
                have b_x129 := iB x129
                refine call_iSP (As := [.int x129]) (rest := []) ⟨hx, hb, hml, hown, hts⟩ (tX1_isSmall (l := l) x129) (va_cwS 1 hts (gS (wr9 _ (List.mem_of_getElem? (i := 23) rfl)) (wr10 _ (List.mem_of_getElem? (i := 0) rfl)) (wr2 _ (List.mem_of_getElem? (i := 2) rfl)) (wr10 _ (List.mem_of_getElem? (i := 1) rfl))) rfl rfl rfl (by decide +kernel) ⟨Nat.le_of_ble_eq_true rfl, Nat.le_of_ble_eq_true rfl⟩) (hK.sub [] rfl) hP hD hE hS hA rfl hl.1 rfl (Nat.le_of_ble_eq_true rfl) dX1_next_130 ⟨Nat.le_of_ble_eq_true rfl, Nat.le_of_ble_eq_true rfl⟩ (fun r130 w9 H locs hw130 hP hD hS => ?_)
                obtain ⟨rfl, hw130_0⟩ := hw130
                have b_r130 := iB r130
                refine m_if_eq (X := r130.toInt) (tgt := 149) hx hb dX1_next_133 (by decide) rfl (fun c133 => ?_) (fun c133 => ?_)
                · skip
                  exact J149 H locs ls hP hD hS (lv_sub hl [0, 1] rfl)
                · skip
                  refine lv_aload_n hx hb dX1_next_136 rfl (lv_at hl 0 rfl) ?_
                  refine lv_dup hx hb dX1_next_137 rfl ?_
                  refine va_get (D := D) (ci := 0) (v := .int v_a_to_110) (C := RX1) (T := TX1) (N := 7) hx hb hts hinX1 hown hK hP 8 rfl rfl 6 (by decide) k_9_16 (fun _ h9 => h9) rfl dX1_next_138 ?_
                  refine lv_iconst (v := 1) hx hb dX1_next_141 (by decide) ?_
                  refine m_iadd (X := v_a_to_110.toInt) (Y := 1) hx hb dX1_next_142 rfl (by decide) (fun x142 e_x142 g9 => ?_)
                  obtain ⟨k_x142, g_x142⟩ := g9
                  have b_x142 := iB x142
                  try (have q_x142 : x142.toInt = v_a_to_110.toInt + 1 := (by omega); clear g_x142 k_x142)
                  refine va_put (D := D) (ci := 0) (v := .int x142) (ty := .int) (C := RX1) (T := TX1) (N := 7) hx hb hts hinX1 tyX1 tyX1_ok nmX1 hown hK hP hD hS 8 rfl rfl 6 (by decide) k_9_16 (fun _ h9 => h9) rfl (by decide +kernel) rfl rfl (Nat.le_of_ble_eq_true rfl) dX1_next_143 (fun H locs hP hD hS => ?_)
                  have hP : va_P D vwCl (tw cs q v_t_tapeSize v_t_textSize v_t_faultKind a_t_tape a_t_text a_g_beyond v_g_size a_g_steps a_h_beyond v_h_size a_h_steps a_r_scratch a_r_now v_r_takes v_r_negative v_r_namePlace v_r_faultKind v_r_faultPlace v_a_size v_a_limit v_a_digits v_a_kind l1_5 x142 v_o_size a_o_out v_b_size v_b_limit v_b_digits v_b_kind v_b_from v_b_to a_u_atom a_u_other a_u_hand v_u_marksMade v_u_came v_u_guesses v_u_right v_u_taken a_u_vars a_u_marks a_u_outcomes a_u_indexes v_s_things v_s_looked v_s_lookedTooOften v_s_arraysMade v_s_cellsMade a_s_classes a_s_starts a_s_lengths a_s_cells a_L a_K a_vc a_vd a_si a_sj a_iv a_inn a_ac) H := hP
                  have hD : va_D A (tw cs q v_t_tapeSize v_t_textSize v_t_faultKind a_t_tape a_t_text a_g_beyond v_g_size a_g_steps a_h_beyond v_h_size a_h_steps a_r_scratch a_r_now v_r_takes v_r_negative v_r_namePlace v_r_faultKind v_r_faultPlace v_a_size v_a_limit v_a_digits v_a_kind l1_5 x142 v_o_size a_o_out v_b_size v_b_limit v_b_digits v_b_kind v_b_from v_b_to a_u_atom a_u_other a_u_hand v_u_marksMade v_u_came v_u_guesses v_u_right v_u_taken a_u_vars a_u_marks a_u_outcomes a_u_indexes v_s_things v_s_looked v_s_lookedTooOften v_s_arraysMade v_s_cellsMade a_s_classes a_s_starts a_s_lengths a_s_cells a_L a_K a_vc a_vd a_si a_sj a_iv a_inn a_ac) := hD
                  refine lv_goto (tgt := 110) hx hb dX1_next_146 (by decide) ?_
                  exact ih110 x142 H locs ls (by first | assumption | omega | (intros; omega) | decide) (by first | assumption | omega | (intros; omega) | decide) (by first | assumption | omega | (intros; omega) | decide) (by omega) hP hD hS (lv_sub hl [0, 1] rfl)
          refine m_icmp_lt (X := l1_5.toInt) (Y := v_a_size.toInt) (tgt := 110) hx hb dX1_next_91 (by decide) rfl rfl (fun c91 => ?_) (fun c91 => ?_)
          · skip
            exact J110 ((v_a_size.toInt - l1_5.toInt).toNat + 1) l1_5 H locs ls (by first | assumption | omega | (intros; omega) | decide) (by first | assumption | omega | (intros; omega) | decide) (by first | assumption | omega | (intros; omega) | decide) (by omega) hP hD hS (lv_sub hl [0, 1] rfl)
          · skip
            refine lv_aload_n hx hb dX1_next_94 rfl (lv_at hl 0 rfl) ?_
            refine lv_iconst (v := 0) hx hb dX1_next_95 (by decide) ?_
            refine va_put (D := D) (ci := 0) (v := .int 0) (ty := .int) (C := RX1) (T := TX1) (N := 7) hx hb hts hinX1 tyX1 tyX1_ok nmX1 hown hK hP hD hS 8 rfl rfl 4 (by decide) k_9_22 (fun _ h9 => h9) rfl (by decide +kernel) rfl rfl (Nat.le_of_ble_eq_true rfl) dX1_next_96 (fun H locs hP hD hS => ?_)
            have hP : va_P D vwCl (tw cs q v_t_tapeSize v_t_textSize v_t_faultKind a_t_tape a_t_text a_g_beyond v_g_size a_g_steps a_h_beyond v_h_size a_h_steps a_r_scratch a_r_now v_r_takes v_r_negative v_r_namePlace v_r_faultKind v_r_faultPlace v_a_size v_a_limit v_a_digits (0 : Int32) l1_5 l1_5 v_o_size a_o_out v_b_size v_b_limit v_b_digits v_b_kind v_b_from v_b_to a_u_atom a_u_other a_u_hand v_u_marksMade v_u_came v_u_guesses v_u_right v_u_taken a_u_vars a_u_marks a_u_outcomes a_u_indexes v_s_things v_s_looked v_s_lookedTooOften v_s_arraysMade v_s_cellsMade a_s_classes a_s_starts a_s_lengths a_s_cells a_L a_K a_vc a_vd a_si a_sj a_iv a_inn a_ac) H := hP
            have hD : va_D A (tw cs q v_t_tapeSize v_t_textSize v_t_faultKind a_t_tape a_t_text a_g_beyond v_g_size a_g_steps a_h_beyond v_h_size a_h_steps a_r_scratch a_r_now v_r_takes v_r_negative v_r_namePlace v_r_faultKind v_r_faultPlace v_a_size v_a_limit v_a_digits (0 : Int32) l1_5 l1_5 v_o_size a_o_out v_b_size v_b_limit v_b_digits v_b_kind v_b_from v_b_to a_u_atom a_u_other a_u_hand v_u_marksMade v_u_came v_u_guesses v_u_right v_u_taken a_u_vars a_u_marks a_u_outcomes a_u_indexes v_s_things v_s_looked v_s_lookedTooOften v_s_arraysMade v_s_cellsMade a_s_classes a_s_starts a_s_lengths a_s_cells a_L a_K a_vc a_vd a_si a_sj a_iv a_inn a_ac) := hD
            refine lv_aload_n hx hb dX1_next_99 rfl (lv_at hl 0 rfl) ?_
            refine lv_aload_n hx hb dX1_next_100 rfl (lv_at hl 0 rfl) ?_
            refine va_get (D := D) (ci := 0) (v := .int v_a_size) (C := RX1) (T := TX1) (N := 7) hx hb hts hinX1 hown hK hP 8 rfl rfl 1 (by decide) k_9_14 (fun _ h9 => h9) rfl dX1_next_101 ?_
            refine va_put (D := D) (ci := 0) (v := .int v_a_size) (ty := .int) (C := RX1) (T := TX1) (N := 7) hx hb hts hinX1 tyX1 tyX1_ok nmX1 hown hK hP hD hS 8 rfl rfl 5 (by decide) k_9_21 (fun _ h9 => h9) rfl (by decide +kernel) rfl rfl (Nat.le_of_ble_eq_true rfl) dX1_next_104 (fun H locs hP hD hS => ?_)
            have hP : va_P D vwCl (tw cs q v_t_tapeSize v_t_textSize v_t_faultKind a_t_tape a_t_text a_g_beyond v_g_size a_g_steps a_h_beyond v_h_size a_h_steps a_r_scratch a_r_now v_r_takes v_r_negative v_r_namePlace v_r_faultKind v_r_faultPlace v_a_size v_a_limit v_a_digits (0 : Int32) v_a_size l1_5 v_o_size a_o_out v_b_size v_b_limit v_b_digits v_b_kind v_b_from v_b_to a_u_atom a_u_other a_u_hand v_u_marksMade v_u_came v_u_guesses v_u_right v_u_taken a_u_vars a_u_marks a_u_outcomes a_u_indexes v_s_things v_s_looked v_s_lookedTooOften v_s_arraysMade v_s_cellsMade a_s_classes a_s_starts a_s_lengths a_s_cells a_L a_K a_vc a_vd a_si a_sj a_iv a_inn a_ac) H := hP
            have hD : va_D A (tw cs q v_t_tapeSize v_t_textSize v_t_faultKind a_t_tape a_t_text a_g_beyond v_g_size a_g_steps a_h_beyond v_h_size a_h_steps a_r_scratch a_r_now v_r_takes v_r_negative v_r_namePlace v_r_faultKind v_r_faultPlace v_a_size v_a_limit v_a_digits (0 : Int32) v_a_size l1_5 v_o_size a_o_out v_b_size v_b_limit v_b_digits v_b_kind v_b_from v_b_to a_u_atom a_u_other a_u_hand v_u_marksMade v_u_came v_u_guesses v_u_right v_u_taken a_u_vars a_u_marks a_u_outcomes a_u_indexes v_s_things v_s_looked v_s_lookedTooOften v_s_arraysMade v_s_cellsMade a_s_classes a_s_starts a_s_lengths a_s_cells a_L a_K a_vc a_vd a_si a_sj a_iv a_inn a_ac) := hD
            refine lv_goto (tgt := 172) hx hb dX1_next_107 (by decide) ?_
            subst hAe
            rw [hQ]
            exact W.vret hx hb hr (fun t ht hW => ⟨⟨_, rfl, ⟨v_a_digits, (0 : Int32), v_a_size, l1_5, rfl, by exact ⟨⟨by omega, by omega⟩, ⟨by omega, by omega⟩, ⟨by omega, by omega⟩, ⟨by omega, by omega⟩, by omega, fun q => by omega⟩⟩, by rw [ht]; exact hP, va_K.moved hW.alike hK, hD⟩, hS.F ht⟩) hS.2.2 dX1_next_172
        refine m_icmp_le (X := v_a_size.toInt) (Y := v_a_limit.toInt) (tgt := 86) hx hb dX1_next_59 (by decide) rfl rfl (fun c59 => ?_) (fun c59 => ?_)
        · skip
          exact J86 H locs ls hP hD hS (lv_sub hl [0, 1] rfl)
        · skip
          refine lv_iload_n hx hb dX1_next_62 rfl (lv_at hl 1 rfl) ?_
          refine lv_aload_n hx hb dX1_next_63 rfl (lv_at hl 0 rfl) ?_
          refine va_get (D := D) (ci := 0) (v := .int v_a_limit) (C := RX1) (T := TX1) (N := 7) hx hb hts hinX1 hown hK hP 8 rfl rfl 2 (by decide) k_9_15 (fun _ h9 => h9) rfl dX1_next_64 ?_
          refine m_icmp_lt (X := l1_5.toInt) (Y := v_a_limit.toInt) (tgt := 86) hx hb dX1_next_67 (by decide) rfl rfl (fun c67 => ?_) (fun c67 => ?_)
          · skip
            exact J86 H locs ls hP hD hS (lv_sub hl [0, 1] rfl)
          · skip
            refine lv_aload_n hx hb dX1_next_70 rfl (lv_at hl 0 rfl) ?_
            refine lv_iconst (v := 1) hx hb dX1_next_71 (by decide) ?_
            refine va_put (D := D) (ci := 0) (v := .int 1) (ty := .int) (C := RX1) (T := TX1) (N := 7) hx hb hts hinX1 tyX1 tyX1_ok nmX1 hown hK hP hD hS 8 rfl rfl 4 (by decide) k_9_22 (fun _ h9 => h9) rfl (by decide +kernel) rfl rfl (Nat.le_of_ble_eq_true rfl) dX1_next_72 (fun H locs hP hD hS => ?_)
            have hP : va_P D vwCl (tw cs q v_t_tapeSize v_t_textSize v_t_faultKind a_t_tape a_t_text a_g_beyond v_g_size a_g_steps a_h_beyond v_h_size a_h_steps a_r_scratch a_r_now v_r_takes v_r_negative v_r_namePlace v_r_faultKind v_r_faultPlace v_a_size v_a_limit v_a_digits (1 : Int32) l1_5 l1_5 v_o_size a_o_out v_b_size v_b_limit v_b_digits v_b_kind v_b_from v_b_to a_u_atom a_u_other a_u_hand v_u_marksMade v_u_came v_u_guesses v_u_right v_u_taken a_u_vars a_u_marks a_u_outcomes a_u_indexes v_s_things v_s_looked v_s_lookedTooOften v_s_arraysMade v_s_cellsMade a_s_classes a_s_starts a_s_lengths a_s_cells a_L a_K a_vc a_vd a_si a_sj a_iv a_inn a_ac) H := hP
            have hD : va_D A (tw cs q v_t_tapeSize v_t_textSize v_t_faultKind a_t_tape a_t_text a_g_beyond v_g_size a_g_steps a_h_beyond v_h_size a_h_steps a_r_scratch a_r_now v_r_takes v_r_negative v_r_namePlace v_r_faultKind v_r_faultPlace v_a_size v_a_limit v_a_digits (1 : Int32) l1_5 l1_5 v_o_size a_o_out v_b_size v_b_limit v_b_digits v_b_kind v_b_from v_b_to a_u_atom a_u_other a_u_hand v_u_marksMade v_u_came v_u_guesses v_u_right v_u_taken a_u_vars a_u_marks a_u_outcomes a_u_indexes v_s_things v_s_looked v_s_lookedTooOften v_s_arraysMade v_s_cellsMade a_s_classes a_s_starts a_s_lengths a_s_cells a_L a_K a_vc a_vd a_si a_sj a_iv a_inn a_ac) := hD
            refine lv_aload_n hx hb dX1_next_75 rfl (lv_at hl 0 rfl) ?_
            refine lv_aload_n hx hb dX1_next_76 rfl (lv_at hl 0 rfl) ?_
            refine va_get (D := D) (ci := 0) (v := .int v_a_limit) (C := RX1) (T := TX1) (N := 7) hx hb hts hinX1 hown hK hP 8 rfl rfl 2 (by decide) k_9_15 (fun _ h9 => h9) rfl dX1_next_77 ?_
            refine va_put (D := D) (ci := 0) (v := .int v_a_limit) (ty := .int) (C := RX1) (T := TX1) (N := 7) hx hb hts hinX1 tyX1 tyX1_ok nmX1 hown hK hP hD hS 8 rfl rfl 5 (by decide) k_9_21 (fun _ h9 => h9) rfl (by decide +kernel) rfl rfl (Nat.le_of_ble_eq_true rfl) dX1_next_80 (fun H locs hP hD hS => ?_)
            have hP : va_P D vwCl (tw cs q v_t_tapeSize v_t_textSize v_t_faultKind a_t_tape a_t_text a_g_beyond v_g_size a_g_steps a_h_beyond v_h_size a_h_steps a_r_scratch a_r_now v_r_takes v_r_negative v_r_namePlace v_r_faultKind v_r_faultPlace v_a_size v_a_limit v_a_digits (1 : Int32) v_a_limit l1_5 v_o_size a_o_out v_b_size v_b_limit v_b_digits v_b_kind v_b_from v_b_to a_u_atom a_u_other a_u_hand v_u_marksMade v_u_came v_u_guesses v_u_right v_u_taken a_u_vars a_u_marks a_u_outcomes a_u_indexes v_s_things v_s_looked v_s_lookedTooOften v_s_arraysMade v_s_cellsMade a_s_classes a_s_starts a_s_lengths a_s_cells a_L a_K a_vc a_vd a_si a_sj a_iv a_inn a_ac) H := hP
            have hD : va_D A (tw cs q v_t_tapeSize v_t_textSize v_t_faultKind a_t_tape a_t_text a_g_beyond v_g_size a_g_steps a_h_beyond v_h_size a_h_steps a_r_scratch a_r_now v_r_takes v_r_negative v_r_namePlace v_r_faultKind v_r_faultPlace v_a_size v_a_limit v_a_digits (1 : Int32) v_a_limit l1_5 v_o_size a_o_out v_b_size v_b_limit v_b_digits v_b_kind v_b_from v_b_to a_u_atom a_u_other a_u_hand v_u_marksMade v_u_came v_u_guesses v_u_right v_u_taken a_u_vars a_u_marks a_u_outcomes a_u_indexes v_s_things v_s_looked v_s_lookedTooOften v_s_arraysMade v_s_cellsMade a_s_classes a_s_starts a_s_lengths a_s_cells a_L a_K a_vc a_vd a_si a_sj a_iv a_inn a_ac) := hD
            refine lv_goto (tgt := 172) hx hb dX1_next_83 (by decide) ?_
            subst hAe
            rw [hQ]
            exact W.vret hx hb hr (fun t ht hW => ⟨⟨_, rfl, ⟨v_a_digits, (1 : Int32), v_a_limit, l1_5, rfl, by exact ⟨⟨by omega, by omega⟩, ⟨by omega, by omega⟩, ⟨by omega, by omega⟩, ⟨by omega, by omega⟩, by omega, fun q => by omega⟩⟩, by rw [ht]; exact hP, va_K.moved hW.alike hK, hD⟩, hS.F ht⟩) hS.2.2 dX1_next_172
      refine m_icmp_ge (X := l1_5.toInt) (Y := v_a_size.toInt) (tgt := 41) hx hb dX1_next_10 (by decide) rfl rfl (fun c10 => ?_) (fun c10 => ?_)
      · skip
        exact J41 H locs ls hP hD hS (lv_sub hl [0, 1] rfl)
      · skip
        refine lv_aload_n hx hb dX1_next_13 rfl (lv_at hl 0 rfl) ?_
        refine va_get (D := D) (ci := 0) (v := .ref (q 1)) (C := RX1) (T := TX1) (N := 7) hx hb hts hinX1 hown hK hP 8 rfl rfl 0 (by decide) k_3_6 (fun _ h9 => h9) rfl dX1_next_14 ?_
        refine lv_iload_n hx hb dX1_next_17 rfl (lv_at hl 1 rfl) ?_
        refine m_bald hx hb hK hP 1 2 rfl rfl (ix (by omega) (by omega)) dX1_next_18 (fun x18 e_x18 => ?_)
        have b_x18 := iB x18
        refine lv_bipush (v := 32) hx hb dX1_next_19 (by decide) ?_
        have J35 : ∀ (H : Heap) (locs : List Loc) (ls : Array Slot), (l1_5.toInt < v_a_size.toInt) → va_P D vwCl (tw cs q v_t_tapeSize v_t_textSize v_t_faultKind a_t_tape a_t_text a_g_beyond v_g_size a_g_steps a_h_beyond v_h_size a_h_steps a_r_scratch a_r_now v_r_takes v_r_negative v_r_namePlace v_r_faultKind v_r_faultPlace v_a_size v_a_limit v_a_digits v_a_kind v_a_from v_a_to v_o_size a_o_out v_b_size v_b_limit v_b_digits v_b_kind v_b_from v_b_to a_u_atom a_u_other a_u_hand v_u_marksMade v_u_came v_u_guesses v_u_right v_u_taken a_u_vars a_u_marks a_u_outcomes a_u_indexes v_s_things v_s_looked v_s_lookedTooOften v_s_arraysMade v_s_cellsMade a_s_classes a_s_starts a_s_lengths a_s_cells a_L a_K a_vc a_vd a_si a_sj a_iv a_inn a_ac) H → va_D A (tw cs q v_t_tapeSize v_t_textSize v_t_faultKind a_t_tape a_t_text a_g_beyond v_g_size a_g_steps a_h_beyond v_h_size a_h_steps a_r_scratch a_r_now v_r_takes v_r_negative v_r_namePlace v_r_faultKind v_r_faultPlace v_a_size v_a_limit v_a_digits v_a_kind v_a_from v_a_to v_o_size a_o_out v_b_size v_b_limit v_b_digits v_b_kind v_b_from v_b_to a_u_atom a_u_other a_u_hand v_u_marksMade v_u_came v_u_guesses v_u_right v_u_taken a_u_vars a_u_marks a_u_outcomes a_u_indexes v_s_things v_s_looked v_s_lookedTooOften v_s_arraysMade v_s_cellsMade a_s_classes a_s_starts a_s_lengths a_s_cells a_L a_K a_vc a_vd a_si a_sj a_iv a_inn a_ac) → va_S A s.heap H locs → lv_has ls 2 [(0, .ref (q 8)), (1, .int l1_5)] → W p l e (headSpec (wG yX1_next cX1_next 2 none) rmX1_next_qa).room s m ([.ref (q 8)] : List Value).toArray below meth c H locs 0 0 Q (F0 m 35 ls []) := by
          intro H locs ls f35_0 hP hD hS hl
          obtain ⟨x35, e_x35⟩ : ∃ z : Int32, z = l1_5 + (1 : Int32) := ⟨_, rfl⟩
          obtain ⟨k_x35, g_x35⟩ : ∃ k : Int, x35.toInt = l1_5.toInt + (1) + k * 4294967296 := by rw [e_x35]; exact iAdd l1_5 (1)
          have b_x35 := iB x35
          try (have q_x35 : x35.toInt = l1_5.toInt + (1) := (by omega); clear g_x35 k_x35)
          refine lv_iinc (v := x35) (lv' := [(1, .int x35), (0, .ref (q 8))]) hx hb dX1_next_35 hl (k := 1) rfl (by rw [e_x35]; rfl) (by decide) rfl (fun ls hl => ?_)
          refine lv_goto (tgt := 5) hx hb dX1_next_38 (by decide) ?_
          exact ih5 x35 H locs ls (by first | assumption | omega | (intros; omega) | decide) (by first | assumption | omega | (intros; omega) | decide) (by omega) hP hD hS (lv_sub hl [1, 0] rfl)
        refine m_icmp_eq (X := x18.toInt) (Y := 32) (tgt := 35) hx hb dX1_next_21 (by decide) rfl (by decide) (fun c21 => ?_) (fun c21 => ?_)
        · skip
          exact J35 H locs ls (by first | assumption | omega | (intros; omega) | decide) hP hD hS (lv_sub hl [0, 1] rfl)
        · skip
          refine lv_aload_n hx hb dX1_next_24 rfl (lv_at hl 0 rfl) ?_
          refine va_get (D := D) (ci := 0) (v := .ref (q 1)) (C := RX1) (T := TX1) (N := 7) hx hb hts hinX1 hown hK hP 8 rfl rfl 0 (by decide) k_3_6 (fun _ h9 => h9) rfl dX1_next_25 ?_
          refine lv_iload_n hx hb dX1_next_28 rfl (lv_at hl 1 rfl) ?_
          refine m_bald hx hb hK hP 1 2 rfl rfl (ix (by omega) (by omega)) dX1_next_29 (fun x29 e_x29 => ?_)
          have b_x29 := iB x29
          refine lv_bipush (v := 10) hx hb dX1_next_30 (by decide) ?_
          refine m_icmp_ne (X := x29.toInt) (Y := 10) (tgt := 41) hx hb dX1_next_32 (by decide) rfl (by decide) (fun c32 => ?_) (fun c32 => ?_)
          · skip
            exact J41 H locs ls hP hD hS (lv_sub hl [0, 1] rfl)
          · skip
            exact J35 H locs ls (by first | assumption | omega | (intros; omega) | decide) hP hD hS (lv_sub hl [0, 1] rfl)
  exact J5 ((2147483647 - v_a_to.toInt).toNat + 1) v_a_to H locs ls (by first | assumption | omega | (intros; omega) | decide) (by first | assumption | omega | (intros; omega) | decide) (by omega) hP hD hS (lv_sub hl [1, 0] rfl)

def rmX1_isSign_qa : Room := { frames := 20, cells := 0, slots := 0, locals := 400 }
set_option maxHeartbeats 4000000 in
set_option maxRecDepth 100000 in
theorem tX1_isSign_qa {l : Launch} {D : va_G} {K : Nat → Nat → Nat} {cs : Nat → ClassId} {q : Nat → Nat} {v_t_tapeSize v_t_textSize v_t_faultKind v_g_size v_h_size v_r_takes v_r_negative v_r_namePlace v_r_faultKind v_r_faultPlace v_a_size v_a_limit v_a_digits v_a_kind v_a_from v_a_to v_o_size v_b_size v_b_limit v_b_digits v_b_kind v_b_from v_b_to v_u_marksMade v_u_came v_u_guesses v_u_right v_u_taken v_s_things v_s_looked v_s_lookedTooOften v_s_arraysMade v_s_cellsMade : Int32} {a_t_tape a_t_text a_o_out a_u_outcomes a_u_indexes a_s_classes a_s_starts a_s_lengths a_vc : Nat → Int32} {a_g_beyond a_h_beyond a_r_scratch a_r_now a_u_atom a_u_other a_u_hand : Nat} {a_g_steps a_h_steps a_u_vars a_u_marks : Nat → Option Nat} {a_s_cells a_vd a_sj : Nat → Int64} {a_L : List Nat} {a_K a_iv a_inn : Nat → Nat} {a_si a_ac : Nat → Nat → Int32} (g9 : Int32) (p_0 : LI 3100 v_a_size v_a_limit v_a_digits v_a_kind v_a_from v_a_to) : CtI l yX1_isSign (wG yX1_isSign cX1_isSign 2 (some .boolean)) rmX1_isSign_qa D (twT cs) K [.ref (q 8), .int g9] (tw cs q v_t_tapeSize v_t_textSize v_t_faultKind a_t_tape a_t_text a_g_beyond v_g_size a_g_steps a_h_beyond v_h_size a_h_steps a_r_scratch a_r_now v_r_takes v_r_negative v_r_namePlace v_r_faultKind v_r_faultPlace v_a_size v_a_limit v_a_digits v_a_kind v_a_from v_a_to v_o_size a_o_out v_b_size v_b_limit v_b_digits v_b_kind v_b_from v_b_to a_u_atom a_u_other a_u_hand v_u_marksMade v_u_came v_u_guesses v_u_right v_u_taken a_u_vars a_u_marks a_u_outcomes a_u_indexes v_s_things v_s_looked v_s_lookedTooOften v_s_arraysMade v_s_cellsMade a_s_classes a_s_starts a_s_lengths a_s_cells a_L a_K a_vc a_vd a_si a_sj a_iv a_inn a_ac) (fun r w1 => w1 = (tw cs q v_t_tapeSize v_t_textSize v_t_faultKind a_t_tape a_t_text a_g_beyond v_g_size a_g_steps a_h_beyond v_h_size a_h_steps a_r_scratch a_r_now v_r_takes v_r_negative v_r_namePlace v_r_faultKind v_r_faultPlace v_a_size v_a_limit v_a_digits v_a_kind v_a_from v_a_to v_o_size a_o_out v_b_size v_b_limit v_b_digits v_b_kind v_b_from v_b_to a_u_atom a_u_other a_u_hand v_u_marksMade v_u_came v_u_guesses v_u_right v_u_taken a_u_vars a_u_marks a_u_outcomes a_u_indexes v_s_things v_s_looked v_s_lookedTooOften v_s_arraysMade v_s_cellsMade a_s_classes a_s_starts a_s_lengths a_s_cells a_L a_K a_vc a_vd a_si a_sj a_iv a_inn a_ac) ∧ (r.toInt = 0 ∨ r.toInt = 1)) 0 0 := by
  intro sz
  refine Met.ofW (cc := cX1_isSign) (maxL := 2) (ret := (some .boolean)) (by decide) rfl ?_
  intro p e s m args below meth c s₁ B hml hv
  obtain ⟨rfl, hsz, hP, hK, hD0, hE⟩ := hv
  have hx := B.exec
  have hb := B.bytes
  have hr := B.returns
  have hts := atoms_spec (ws := (wG yX1_isSign cX1_isSign 2 (some .boolean))) B.pre
  have hown : s.vm.findClass RX1 = some m.cls := findClass_of_methodNamed B.named
  have hlocks := B.notSynchronized
  subst hsz
  have hD := hD0.self (sz := s.heap.size)
  obtain ⟨A, hAe⟩ : ∃ A : Nat → Prop, A = va_A (tw cs q v_t_tapeSize v_t_textSize v_t_faultKind a_t_tape a_t_text a_g_beyond v_g_size a_g_steps a_h_beyond v_h_size a_h_steps a_r_scratch a_r_now v_r_takes v_r_negative v_r_namePlace v_r_faultKind v_r_faultPlace v_a_size v_a_limit v_a_digits v_a_kind v_a_from v_a_to v_o_size a_o_out v_b_size v_b_limit v_b_digits v_b_kind v_b_from v_b_to a_u_atom a_u_other a_u_hand v_u_marksMade v_u_came v_u_guesses v_u_right v_u_taken a_u_vars a_u_marks a_u_outcomes a_u_indexes v_s_things v_s_looked v_s_lookedTooOften v_s_arraysMade v_s_cellsMade a_s_classes a_s_starts a_s_lengths a_s_cells a_L a_K a_vc a_vd a_si a_sj a_iv a_inn a_ac) s.heap.size := ⟨_, rfl⟩
  rw [← hAe] at hD hE
  have hA : ∀ q : Nat, s.heap.size ≤ q → A q := fun q h => by rw [hAe]; exact Or.inr h
  have hS : va_S A s.heap s.heap [] := va_S.rf
  have hl := lv_entry ([.ref (q 8), .int g9]) (n := 2) (Nat.le_of_ble_eq_true rfl)
  rw [lg_entry_eq]
  generalize (lg_sl ([.ref (q 8), .int g9]) ++ List.replicate (2 - (lg_sl ([.ref (q 8), .int g9])).length) Slot.unset).toArray = ls at hl ⊢
  have hl : lv_has ls 2 [(0, .ref (q 8)), (1, .int g9)] := hl
  refine wq (fun Q hQ => ?_)
  have hinX1 : ∀ w ∈ wsX10, w ∈ (wG yX1_isSign cX1_isSign 2 (some .boolean)) := fun w h => List.mem_cons_of_mem _ (inlX1 w h)
  have kc0 : (0 : Int32).toInt = 0 := by decide
  have kc1 : (1 : Int32).toInt = 1 := by decide
  have kc2 : (4 : Int32).toInt = 4 := by decide
  have k_9_22 := hts (.fieldLink RX1 37 "ArrayTrainer$Lexer" "kind" "I") (List.mem_cons_of_mem _ (wr9 _ (List.mem_of_getElem? (i := 22) rfl)))
  have k_9_21 := hts (.fieldLink RX1 34 "ArrayTrainer$Lexer" "from" "I") (List.mem_cons_of_mem _ (wr9 _ (List.mem_of_getElem? (i := 21) rfl)))
  have k_9_14 := hts (.fieldLink RX1 24 "ArrayTrainer$Lexer" "size" "I") (List.mem_cons_of_mem _ (wr9 _ (List.mem_of_getElem? (i := 14) rfl)))
  have k_3_6 := hts (.fieldLink RX1 9 "ArrayTrainer$Lexer" "text" "[B") (List.mem_cons_of_mem _ (wr3 _ (List.mem_of_getElem? (i := 6) rfl)))
  obtain ⟨H, hH⟩ : ∃ H : Heap, H = s.heap := ⟨_, rfl⟩
  obtain ⟨locs, hlc⟩ : ∃ L : List Loc, L = [] := ⟨_, rfl⟩
  have hP : va_P D vwCl (tw cs q v_t_tapeSize v_t_textSize v_t_faultKind a_t_tape a_t_text a_g_beyond v_g_size a_g_steps a_h_beyond v_h_size a_h_steps a_r_scratch a_r_now v_r_takes v_r_negative v_r_namePlace v_r_faultKind v_r_faultPlace v_a_size v_a_limit v_a_digits v_a_kind v_a_from v_a_to v_o_size a_o_out v_b_size v_b_limit v_b_digits v_b_kind v_b_from v_b_to a_u_atom a_u_other a_u_hand v_u_marksMade v_u_came v_u_guesses v_u_right v_u_taken a_u_vars a_u_marks a_u_outcomes a_u_indexes v_s_things v_s_looked v_s_lookedTooOften v_s_arraysMade v_s_cellsMade a_s_classes a_s_starts a_s_lengths a_s_cells a_L a_K a_vc a_vd a_si a_sj a_iv a_inn a_ac) H := by rw [hH]; exact hP
  have hS : va_S A s.heap H locs := by rw [hH, hlc]; exact hS
  refine wHL hH hlc ?_
  have b_g9 := iB g9
  obtain ⟨⟨h1, h2⟩, ⟨h3, h4⟩, ⟨h5, h6⟩, ⟨h7, h8⟩, h9, h10⟩ := id p_0
  refine lv_aload_n hx hb dX1_isSign_0 rfl (lv_at hl 0 rfl) ?_
  refine va_get (D := D) (ci := 0) (v := .int v_a_kind) (C := RX1) (T := TX1) (N := 7) hx hb hts hinX1 hown hK hP 8 rfl rfl 4 (by decide) k_9_22 (fun _ h9 => h9) rfl dX1_isSign_1 ?_
  refine lv_iconst (v := 4) hx hb dX1_isSign_4 (by decide) ?_
  refine m_icmp_ne (X := v_a_kind.toInt) (Y := 4) (tgt := 36) hx hb dX1_isSign_5 (by decide) rfl (by decide) (fun c5 => ?_) (fun c5 => ?_)
  · skip
    refine lv_iconst (v := 0) hx hb dX1_isSign_36 (by decide) ?_
    subst hAe
    rw [hQ]
    exact W.zret (v := 0) hx hb hr (by decide) (fun t ht hW => ⟨⟨0, _, rfl, ⟨rfl, by first | assumption | omega | (intros; omega) | decide⟩, by rw [ht]; exact hP, va_K.moved hW.alike hK, hD⟩, hS.F ht⟩) hS.2.2 dX1_isSign_37
  · skip
    refine lv_aload_n hx hb dX1_isSign_8 rfl (lv_at hl 0 rfl) ?_
    refine va_get (D := D) (ci := 0) (v := .int v_a_from) (C := RX1) (T := TX1) (N := 7) hx hb hts hinX1 hown hK hP 8 rfl rfl 5 (by decide) k_9_21 (fun _ h9 => h9) rfl dX1_isSign_9 ?_
    refine lv_aload_n hx hb dX1_isSign_12 rfl (lv_at hl 0 rfl) ?_
    refine va_get (D := D) (ci := 0) (v := .int v_a_size) (C := RX1) (T := TX1) (N := 7) hx hb hts hinX1 hown hK hP 8 rfl rfl 1 (by decide) k_9_14 (fun _ h9 => h9) rfl dX1_isSign_13 ?_
    refine m_icmp_ge (X := v_a_from.toInt) (Y := v_a_size.toInt) (tgt := 36) hx hb dX1_isSign_16 (by decide) rfl rfl (fun c16 => ?_) (fun c16 => ?_)
    · skip
      refine lv_iconst (v := 0) hx hb dX1_isSign_36 (by decide) ?_
      subst hAe
      rw [hQ]
      exact W.zret (v := 0) hx hb hr (by decide) (fun t ht hW => ⟨⟨0, _, rfl, ⟨rfl, by first | assumption | omega | (intros; omega) | decide⟩, by rw [ht]; exact hP, va_K.moved hW.alike hK, hD⟩, hS.F ht⟩) hS.2.2 dX1_isSign_37
    · skip
      refine lv_aload_n hx hb dX1_isSign_19 rfl (lv_at hl 0 rfl) ?_
      refine va_get (D := D) (ci := 0) (v := .ref (q 1)) (C := RX1) (T := TX1) (N := 7) hx hb hts hinX1 hown hK hP 8 rfl rfl 0 (by decide) k_3_6 (fun _ h9 => h9) rfl dX1_isSign_20 ?_
      refine lv_aload_n hx hb dX1_isSign_23 rfl (lv_at hl 0 rfl) ?_
      refine va_get (D := D) (ci := 0) (v := .int v_a_from) (C := RX1) (T := TX1) (N := 7) hx hb hts hinX1 hown hK hP 8 rfl rfl 5 (by decide) k_9_21 (fun _ h9 => h9) rfl dX1_isSign_24 ?_
      refine m_bald hx hb hK hP 1 2 rfl rfl (ix (by omega) (by omega)) dX1_isSign_27 (fun x27 e_x27 => ?_)
      have b_x27 := iB x27
      refine lv_iload_n hx hb dX1_isSign_28 rfl (lv_at hl 1 rfl) ?_
      refine m_icmp_ne (X := x27.toInt) (Y := g9.toInt) (tgt := 36) hx hb dX1_isSign_29 (by decide) rfl rfl (fun c29 => ?_) (fun c29 => ?_)
      · skip
        refine lv_iconst (v := 0) hx hb dX1_isSign_36 (by decide) ?_
        subst hAe
        rw [hQ]
        exact W.zret (v := 0) hx hb hr (by decide) (fun t ht hW => ⟨⟨0, _, rfl, ⟨rfl, by first | assumption | omega | (intros; omega) | decide⟩, by rw [ht]; exact hP, va_K.moved hW.alike hK, hD⟩, hS.F ht⟩) hS.2.2 dX1_isSign_37
      · skip
        refine lv_iconst (v := 1) hx hb dX1_isSign_32 (by decide) ?_
        refine lv_goto (tgt := 37) hx hb dX1_isSign_33 (by decide) ?_
        subst hAe
        rw [hQ]
        exact W.zret (v := 1) hx hb hr (by decide) (fun t ht hW => ⟨⟨1, _, rfl, ⟨rfl, by first | assumption | omega | (intros; omega) | decide⟩, by rw [ht]; exact hP, va_K.moved hW.alike hK, hD⟩, hS.F ht⟩) hS.2.2 dX1_isSign_37

def rmX1_variable_qa : Room := { frames := 20, cells := 0, slots := 0, locals := 400 }
set_option maxHeartbeats 4000000 in
set_option maxRecDepth 100000 in
theorem tX1_variable_qa {l : Launch} {D : va_G} {K : Nat → Nat → Nat} {cs : Nat → ClassId} {q : Nat → Nat} {v_t_tapeSize v_t_textSize v_t_faultKind v_g_size v_h_size v_r_takes v_r_negative v_r_namePlace v_r_faultKind v_r_faultPlace v_a_size v_a_limit v_a_digits v_a_kind v_a_from v_a_to v_o_size v_b_size v_b_limit v_b_digits v_b_kind v_b_from v_b_to v_u_marksMade v_u_came v_u_guesses v_u_right v_u_taken v_s_things v_s_looked v_s_lookedTooOften v_s_arraysMade v_s_cellsMade : Int32} {a_t_tape a_t_text a_o_out a_u_outcomes a_u_indexes a_s_classes a_s_starts a_s_lengths a_vc : Nat → Int32} {a_g_beyond a_h_beyond a_r_scratch a_r_now a_u_atom a_u_other a_u_hand : Nat} {a_g_steps a_h_steps a_u_vars a_u_marks : Nat → Option Nat} {a_s_cells a_vd a_sj : Nat → Int64} {a_L : List Nat} {a_K a_iv a_inn : Nat → Nat} {a_si a_ac : Nat → Nat → Int32} (p_0 : LI 3100 v_a_size v_a_limit v_a_digits v_a_kind v_a_from v_a_to) : CtI l yX1_variable (wG yX1_variable cX1_variable 1 (some .int)) rmX1_variable_qa D (twT cs) K [.ref (q 8)] (tw cs q v_t_tapeSize v_t_textSize v_t_faultKind a_t_tape a_t_text a_g_beyond v_g_size a_g_steps a_h_beyond v_h_size a_h_steps a_r_scratch a_r_now v_r_takes v_r_negative v_r_namePlace v_r_faultKind v_r_faultPlace v_a_size v_a_limit v_a_digits v_a_kind v_a_from v_a_to v_o_size a_o_out v_b_size v_b_limit v_b_digits v_b_kind v_b_from v_b_to a_u_atom a_u_other a_u_hand v_u_marksMade v_u_came v_u_guesses v_u_right v_u_taken a_u_vars a_u_marks a_u_outcomes a_u_indexes v_s_things v_s_looked v_s_lookedTooOften v_s_arraysMade v_s_cellsMade a_s_classes a_s_starts a_s_lengths a_s_cells a_L a_K a_vc a_vd a_si a_sj a_iv a_inn a_ac) (fun r w1 => w1 = (tw cs q v_t_tapeSize v_t_textSize v_t_faultKind a_t_tape a_t_text a_g_beyond v_g_size a_g_steps a_h_beyond v_h_size a_h_steps a_r_scratch a_r_now v_r_takes v_r_negative v_r_namePlace v_r_faultKind v_r_faultPlace v_a_size v_a_limit v_a_digits v_a_kind v_a_from v_a_to v_o_size a_o_out v_b_size v_b_limit v_b_digits v_b_kind v_b_from v_b_to a_u_atom a_u_other a_u_hand v_u_marksMade v_u_came v_u_guesses v_u_right v_u_taken a_u_vars a_u_marks a_u_outcomes a_u_indexes v_s_things v_s_looked v_s_lookedTooOften v_s_arraysMade v_s_cellsMade a_s_classes a_s_starts a_s_lengths a_s_cells a_L a_K a_vc a_vd a_si a_sj a_iv a_inn a_ac)) 0 0 := by
  intro sz
  refine Met.ofW (cc := cX1_variable) (maxL := 1) (ret := (some .int)) (by decide) rfl ?_
  intro p e s m args below meth c s₁ B hml hv
  obtain ⟨rfl, hsz, hP, hK, hD0, hE⟩ := hv
  have hx := B.exec
  have hb := B.bytes
  have hr := B.returns
  have hts := atoms_spec (ws := (wG yX1_variable cX1_variable 1 (some .int))) B.pre
  have hown : s.vm.findClass RX1 = some m.cls := findClass_of_methodNamed B.named
  have hlocks := B.notSynchronized
  subst hsz
  have hD := hD0.self (sz := s.heap.size)
  obtain ⟨A, hAe⟩ : ∃ A : Nat → Prop, A = va_A (tw cs q v_t_tapeSize v_t_textSize v_t_faultKind a_t_tape a_t_text a_g_beyond v_g_size a_g_steps a_h_beyond v_h_size a_h_steps a_r_scratch a_r_now v_r_takes v_r_negative v_r_namePlace v_r_faultKind v_r_faultPlace v_a_size v_a_limit v_a_digits v_a_kind v_a_from v_a_to v_o_size a_o_out v_b_size v_b_limit v_b_digits v_b_kind v_b_from v_b_to a_u_atom a_u_other a_u_hand v_u_marksMade v_u_came v_u_guesses v_u_right v_u_taken a_u_vars a_u_marks a_u_outcomes a_u_indexes v_s_things v_s_looked v_s_lookedTooOften v_s_arraysMade v_s_cellsMade a_s_classes a_s_starts a_s_lengths a_s_cells a_L a_K a_vc a_vd a_si a_sj a_iv a_inn a_ac) s.heap.size := ⟨_, rfl⟩
  rw [← hAe] at hD hE
  have hA : ∀ q : Nat, s.heap.size ≤ q → A q := fun q h => by rw [hAe]; exact Or.inr h
  have hS : va_S A s.heap s.heap [] := va_S.rf
  have hl := lv_entry ([.ref (q 8)]) (n := 1) (Nat.le_of_ble_eq_true rfl)
  rw [lg_entry_eq]
  generalize (lg_sl ([.ref (q 8)]) ++ List.replicate (1 - (lg_sl ([.ref (q 8)])).length) Slot.unset).toArray = ls at hl ⊢
  have hl : lv_has ls 1 [(0, .ref (q 8))] := hl
  refine wq (fun Q hQ => ?_)
  have hinX1 : ∀ w ∈ wsX10, w ∈ (wG yX1_variable cX1_variable 1 (some .int)) := fun w h => List.mem_cons_of_mem _ (inlX1 w h)
  have kc0 : (-1 : Int32).toInt = -1 := by decide
  have kc1 : (1 : Int32).toInt = 1 := by decide
  have kc2 : (2 : Int32).toInt = 2 := by decide
  have kc3 : (97 : Int32).toInt = 97 := by decide
  have k_9_22 := hts (.fieldLink RX1 37 "ArrayTrainer$Lexer" "kind" "I") (List.mem_cons_of_mem _ (wr9 _ (List.mem_of_getElem? (i := 22) rfl)))
  have k_9_16 := hts (.fieldLink RX1 31 "ArrayTrainer$Lexer" "to" "I") (List.mem_cons_of_mem _ (wr9 _ (List.mem_of_getElem? (i := 16) rfl)))
  have k_9_21 := hts (.fieldLink RX1 34 "ArrayTrainer$Lexer" "from" "I") (List.mem_cons_of_mem _ (wr9 _ (List.mem_of_getElem? (i := 21) rfl)))
  have k_9_14 := hts (.fieldLink RX1 24 "ArrayTrainer$Lexer" "size" "I") (List.mem_cons_of_mem _ (wr9 _ (List.mem_of_getElem? (i := 14) rfl)))
  have k_3_6 := hts (.fieldLink RX1 9 "ArrayTrainer$Lexer" "text" "[B") (List.mem_cons_of_mem _ (wr3 _ (List.mem_of_getElem? (i := 6) rfl)))
  obtain ⟨H, hH⟩ : ∃ H : Heap, H = s.heap := ⟨_, rfl⟩
  obtain ⟨locs, hlc⟩ : ∃ L : List Loc, L = [] := ⟨_, rfl⟩
  have hP : va_P D vwCl (tw cs q v_t_tapeSize v_t_textSize v_t_faultKind a_t_tape a_t_text a_g_beyond v_g_size a_g_steps a_h_beyond v_h_size a_h_steps a_r_scratch a_r_now v_r_takes v_r_negative v_r_namePlace v_r_faultKind v_r_faultPlace v_a_size v_a_limit v_a_digits v_a_kind v_a_from v_a_to v_o_size a_o_out v_b_size v_b_limit v_b_digits v_b_kind v_b_from v_b_to a_u_atom a_u_other a_u_hand v_u_marksMade v_u_came v_u_guesses v_u_right v_u_taken a_u_vars a_u_marks a_u_outcomes a_u_indexes v_s_things v_s_looked v_s_lookedTooOften v_s_arraysMade v_s_cellsMade a_s_classes a_s_starts a_s_lengths a_s_cells a_L a_K a_vc a_vd a_si a_sj a_iv a_inn a_ac) H := by rw [hH]; exact hP
  have hS : va_S A s.heap H locs := by rw [hH, hlc]; exact hS
  refine wHL hH hlc ?_
  obtain ⟨⟨h1, h2⟩, ⟨h3, h4⟩, ⟨h5, h6⟩, ⟨h7, h8⟩, h9, h10⟩ := id p_0
  refine lv_aload_n hx hb dX1_variable_0 rfl (lv_at hl 0 rfl) ?_
  refine va_get (D := D) (ci := 0) (v := .int v_a_kind) (C := RX1) (T := TX1) (N := 7) hx hb hts hinX1 hown hK hP 8 rfl rfl 4 (by decide) k_9_22 (fun _ h9 => h9) rfl dX1_variable_1 ?_
  refine lv_iconst (v := 2) hx hb dX1_variable_4 (by decide) ?_
  refine m_icmp_ne (X := v_a_kind.toInt) (Y := 2) (tgt := 47) hx hb dX1_variable_5 (by decide) rfl (by decide) (fun c5 => ?_) (fun c5 => ?_)
  · skip
    refine lv_iconst (v := (-1)) hx hb dX1_variable_47 (by decide) ?_
    subst hAe
    rw [hQ]
    exact W.iret (v := (-1)) hx hb hr (fun t ht hW => ⟨⟨(-1), _, rfl, rfl, by rw [ht]; exact hP, va_K.moved hW.alike hK, hD⟩, hS.F ht⟩) hS.2.2 dX1_variable_48
  · skip
    refine lv_aload_n hx hb dX1_variable_8 rfl (lv_at hl 0 rfl) ?_
    refine va_get (D := D) (ci := 0) (v := .int v_a_to) (C := RX1) (T := TX1) (N := 7) hx hb hts hinX1 hown hK hP 8 rfl rfl 6 (by decide) k_9_16 (fun _ h9 => h9) rfl dX1_variable_9 ?_
    refine lv_aload_n hx hb dX1_variable_12 rfl (lv_at hl 0 rfl) ?_
    refine va_get (D := D) (ci := 0) (v := .int v_a_from) (C := RX1) (T := TX1) (N := 7) hx hb hts hinX1 hown hK hP 8 rfl rfl 5 (by decide) k_9_21 (fun _ h9 => h9) rfl dX1_variable_13 ?_
    refine m_isub (X := v_a_to.toInt) (Y := v_a_from.toInt) hx hb dX1_variable_16 rfl rfl (fun x16 e_x16 g9 => ?_)
    obtain ⟨k_x16, g_x16⟩ := g9
    have b_x16 := iB x16
    try (have q_x16 : x16.toInt = v_a_to.toInt - v_a_from.toInt := (by omega); clear g_x16 k_x16)
    refine lv_iconst (v := 1) hx hb dX1_variable_17 (by decide) ?_
    refine m_icmp_ne (X := x16.toInt) (Y := 1) (tgt := 47) hx hb dX1_variable_18 (by decide) rfl (by decide) (fun c18 => ?_) (fun c18 => ?_)
    · skip
      refine lv_iconst (v := (-1)) hx hb dX1_variable_47 (by decide) ?_
      subst hAe
      rw [hQ]
      exact W.iret (v := (-1)) hx hb hr (fun t ht hW => ⟨⟨(-1), _, rfl, rfl, by rw [ht]; exact hP, va_K.moved hW.alike hK, hD⟩, hS.F ht⟩) hS.2.2 dX1_variable_48
    · skip
      refine lv_aload_n hx hb dX1_variable_21 rfl (lv_at hl 0 rfl) ?_
      refine va_get (D := D) (ci := 0) (v := .int v_a_from) (C := RX1) (T := TX1) (N := 7) hx hb hts hinX1 hown hK hP 8 rfl rfl 5 (by decide) k_9_21 (fun _ h9 => h9) rfl dX1_variable_22 ?_
      refine lv_aload_n hx hb dX1_variable_25 rfl (lv_at hl 0 rfl) ?_
      refine va_get (D := D) (ci := 0) (v := .int v_a_size) (C := RX1) (T := TX1) (N := 7) hx hb hts hinX1 hown hK hP 8 rfl rfl 1 (by decide) k_9_14 (fun _ h9 => h9) rfl dX1_variable_26 ?_
      refine m_icmp_ge (X := v_a_from.toInt) (Y := v_a_size.toInt) (tgt := 47) hx hb dX1_variable_29 (by decide) rfl rfl (fun c29 => ?_) (fun c29 => ?_)
      · skip
        refine lv_iconst (v := (-1)) hx hb dX1_variable_47 (by decide) ?_
        subst hAe
        rw [hQ]
        exact W.iret (v := (-1)) hx hb hr (fun t ht hW => ⟨⟨(-1), _, rfl, rfl, by rw [ht]; exact hP, va_K.moved hW.alike hK, hD⟩, hS.F ht⟩) hS.2.2 dX1_variable_48
      · skip
        refine lv_aload_n hx hb dX1_variable_32 rfl (lv_at hl 0 rfl) ?_
        refine va_get (D := D) (ci := 0) (v := .ref (q 1)) (C := RX1) (T := TX1) (N := 7) hx hb hts hinX1 hown hK hP 8 rfl rfl 0 (by decide) k_3_6 (fun _ h9 => h9) rfl dX1_variable_33 ?_
        refine lv_aload_n hx hb dX1_variable_36 rfl (lv_at hl 0 rfl) ?_
        refine va_get (D := D) (ci := 0) (v := .int v_a_from) (C := RX1) (T := TX1) (N := 7) hx hb hts hinX1 hown hK hP 8 rfl rfl 5 (by decide) k_9_21 (fun _ h9 => h9) rfl dX1_variable_37 ?_
        refine m_bald hx hb hK hP 1 2 rfl rfl (ix (by omega) (by omega)) dX1_variable_40 (fun x40 e_x40 => ?_)
        have b_x40 := iB x40
        refine lv_bipush (v := 97) hx hb dX1_variable_41 (by decide) ?_
        refine m_isub (X := x40.toInt) (Y := 97) hx hb dX1_variable_43 rfl (by decide) (fun x43 e_x43 g9 => ?_)
        obtain ⟨k_x43, g_x43⟩ := g9
        have b_x43 := iB x43
        try (have q_x43 : x43.toInt = x40.toInt - 97 := (by omega); clear g_x43 k_x43)
        refine lv_goto (tgt := 48) hx hb dX1_variable_44 (by decide) ?_
        subst hAe
        rw [hQ]
        exact W.iret (v := x43) hx hb hr (fun t ht hW => ⟨⟨x43, _, rfl, rfl, by rw [ht]; exact hP, va_K.moved hW.alike hK, hD⟩, hS.F ht⟩) hS.2.2 dX1_variable_48

def rmX1_isPart_qa : Room := { frames := 100, cells := 0, slots := 0, locals := 2000 }
set_option maxHeartbeats 4000000 in
set_option maxRecDepth 100000 in
theorem tX1_isPart_qa {l : Launch} {D : va_G} {K : Nat → Nat → Nat} {cs : Nat → ClassId} {q : Nat → Nat} {v_t_tapeSize v_t_textSize v_t_faultKind v_g_size v_h_size v_r_takes v_r_negative v_r_namePlace v_r_faultKind v_r_faultPlace v_a_size v_a_limit v_a_digits v_a_kind v_a_from v_a_to v_o_size v_b_size v_b_limit v_b_digits v_b_kind v_b_from v_b_to v_u_marksMade v_u_came v_u_guesses v_u_right v_u_taken v_s_things v_s_looked v_s_lookedTooOften v_s_arraysMade v_s_cellsMade : Int32} {a_t_tape a_t_text a_o_out a_u_outcomes a_u_indexes a_s_classes a_s_starts a_s_lengths a_vc : Nat → Int32} {a_g_beyond a_h_beyond a_r_scratch a_r_now a_u_atom a_u_other a_u_hand : Nat} {a_g_steps a_h_steps a_u_vars a_u_marks : Nat → Option Nat} {a_s_cells a_vd a_sj : Nat → Int64} {a_L : List Nat} {a_K a_iv a_inn : Nat → Nat} {a_si a_ac : Nat → Nat → Int32} (s9 : Nat) {tx_s9 : List Int32} (hs_s9 : sOf s9 tx_s9) (b9 : Int32) (e9 : Int32) (p_0 : LI 3100 v_a_size v_a_limit v_a_digits v_a_kind v_a_from v_a_to) (p_1 : 0 ≤ b9.toInt) (p_2 : b9.toInt ≤ e9.toInt) (p_3 : e9.toInt ≤ (tx_s9.length : Int)) : CtI l yX1_isPart (wG yX1_isPart cX1_isPart 5 (some .boolean)) rmX1_isPart_qa D (twT cs) K [.ref (q 8), .ref (K 0 s9), .int b9, .int e9] (tw cs q v_t_tapeSize v_t_textSize v_t_faultKind a_t_tape a_t_text a_g_beyond v_g_size a_g_steps a_h_beyond v_h_size a_h_steps a_r_scratch a_r_now v_r_takes v_r_negative v_r_namePlace v_r_faultKind v_r_faultPlace v_a_size v_a_limit v_a_digits v_a_kind v_a_from v_a_to v_o_size a_o_out v_b_size v_b_limit v_b_digits v_b_kind v_b_from v_b_to a_u_atom a_u_other a_u_hand v_u_marksMade v_u_came v_u_guesses v_u_right v_u_taken a_u_vars a_u_marks a_u_outcomes a_u_indexes v_s_things v_s_looked v_s_lookedTooOften v_s_arraysMade v_s_cellsMade a_s_classes a_s_starts a_s_lengths a_s_cells a_L a_K a_vc a_vd a_si a_sj a_iv a_inn a_ac) (fun r w1 => w1 = (tw cs q v_t_tapeSize v_t_textSize v_t_faultKind a_t_tape a_t_text a_g_beyond v_g_size a_g_steps a_h_beyond v_h_size a_h_steps a_r_scratch a_r_now v_r_takes v_r_negative v_r_namePlace v_r_faultKind v_r_faultPlace v_a_size v_a_limit v_a_digits v_a_kind v_a_from v_a_to v_o_size a_o_out v_b_size v_b_limit v_b_digits v_b_kind v_b_from v_b_to a_u_atom a_u_other a_u_hand v_u_marksMade v_u_came v_u_guesses v_u_right v_u_taken a_u_vars a_u_marks a_u_outcomes a_u_indexes v_s_things v_s_looked v_s_lookedTooOften v_s_arraysMade v_s_cellsMade a_s_classes a_s_starts a_s_lengths a_s_cells a_L a_K a_vc a_vd a_si a_sj a_iv a_inn a_ac) ∧ (r.toInt = 0 ∨ r.toInt = 1)) 0 0 := by
  intro sz
  refine Met.ofW (cc := cX1_isPart) (maxL := 5) (ret := (some .boolean)) (by decide) rfl ?_
  intro p e s m args below meth c s₁ B hml hv
  obtain ⟨rfl, hsz, hP, hK, hD0, hE⟩ := hv
  have hx := B.exec
  have hb := B.bytes
  have hr := B.returns
  have hts := atoms_spec (ws := (wG yX1_isPart cX1_isPart 5 (some .boolean))) B.pre
  have hown : s.vm.findClass RX1 = some m.cls := findClass_of_methodNamed B.named
  have hlocks := B.notSynchronized
  subst hsz
  have hD := hD0.self (sz := s.heap.size)
  obtain ⟨A, hAe⟩ : ∃ A : Nat → Prop, A = va_A (tw cs q v_t_tapeSize v_t_textSize v_t_faultKind a_t_tape a_t_text a_g_beyond v_g_size a_g_steps a_h_beyond v_h_size a_h_steps a_r_scratch a_r_now v_r_takes v_r_negative v_r_namePlace v_r_faultKind v_r_faultPlace v_a_size v_a_limit v_a_digits v_a_kind v_a_from v_a_to v_o_size a_o_out v_b_size v_b_limit v_b_digits v_b_kind v_b_from v_b_to a_u_atom a_u_other a_u_hand v_u_marksMade v_u_came v_u_guesses v_u_right v_u_taken a_u_vars a_u_marks a_u_outcomes a_u_indexes v_s_things v_s_looked v_s_lookedTooOften v_s_arraysMade v_s_cellsMade a_s_classes a_s_starts a_s_lengths a_s_cells a_L a_K a_vc a_vd a_si a_sj a_iv a_inn a_ac) s.heap.size := ⟨_, rfl⟩
  rw [← hAe] at hD hE
  have hA : ∀ q : Nat, s.heap.size ≤ q → A q := fun q h => by rw [hAe]; exact Or.inr h
  have hS : va_S A s.heap s.heap [] := va_S.rf
  have hl := lv_entry ([.ref (q 8), .ref (K 0 s9), .int b9, .int e9]) (n := 5) (Nat.le_of_ble_eq_true rfl)
  rw [lg_entry_eq]
  generalize (lg_sl ([.ref (q 8), .ref (K 0 s9), .int b9, .int e9]) ++ List.replicate (5 - (lg_sl ([.ref (q 8), .ref (K 0 s9), .int b9, .int e9])).length) Slot.unset).toArray = ls at hl ⊢
  have hl : lv_has ls 5 [(0, .ref (q 8)), (1, .ref (K 0 s9)), (2, .int b9), (3, .int e9)] := hl
  refine wq (fun Q hQ => ?_)
  have hinX1 : ∀ w ∈ wsX10, w ∈ (wG yX1_isPart cX1_isPart 5 (some .boolean)) := fun w h => List.mem_cons_of_mem _ (inlX1 w h)
  have kc0 : (0 : Int32).toInt = 0 := by decide
  have kc1 : (1 : Int32).toInt = 1 := by decide
  have k_9_16 := hts (.fieldLink RX1 31 "ArrayTrainer$Lexer" "to" "I") (List.mem_cons_of_mem _ (wr9 _ (List.mem_of_getElem? (i := 16) rfl)))
  have k_9_21 := hts (.fieldLink RX1 34 "ArrayTrainer$Lexer" "from" "I") (List.mem_cons_of_mem _ (wr9 _ (List.mem_of_getElem? (i := 21) rfl)))
  have k_9_14 := hts (.fieldLink RX1 24 "ArrayTrainer$Lexer" "size" "I") (List.mem_cons_of_mem _ (wr9 _ (List.mem_of_getElem? (i := 14) rfl)))
  have k_3_6 := hts (.fieldLink RX1 9 "ArrayTrainer$Lexer" "text" "[B") (List.mem_cons_of_mem _ (wr3 _ (List.mem_of_getElem? (i := 6) rfl)))
  obtain ⟨H, hH⟩ : ∃ H : Heap, H = s.heap := ⟨_, rfl⟩
  obtain ⟨locs, hlc⟩ : ∃ L : List Loc, L = [] := ⟨_, rfl⟩
  have hP : va_P D vwCl (tw cs q v_t_tapeSize v_t_textSize v_t_faultKind a_t_tape a_t_text a_g_beyond v_g_size a_g_steps a_h_beyond v_h_size a_h_steps a_r_scratch a_r_now v_r_takes v_r_negative v_r_namePlace v_r_faultKind v_r_faultPlace v_a_size v_a_limit v_a_digits v_a_kind v_a_from v_a_to v_o_size a_o_out v_b_size v_b_limit v_b_digits v_b_kind v_b_from v_b_to a_u_atom a_u_other a_u_hand v_u_marksMade v_u_came v_u_guesses v_u_right v_u_taken a_u_vars a_u_marks a_u_outcomes a_u_indexes v_s_things v_s_looked v_s_lookedTooOften v_s_arraysMade v_s_cellsMade a_s_classes a_s_starts a_s_lengths a_s_cells a_L a_K a_vc a_vd a_si a_sj a_iv a_inn a_ac) H := by rw [hH]; exact hP
  have hS : va_S A s.heap H locs := by rw [hH, hlc]; exact hS
  refine wHL hH hlc ?_
  have st_s9 := hE.str hs_s9
  have ln_s9 := sOf_len hs_s9
  have b_b9 := iB b9
  have b_e9 := iB e9
  obtain ⟨⟨h1, h2⟩, ⟨h3, h4⟩, ⟨h5, h6⟩, ⟨h7, h8⟩, h9, h10⟩ := id p_0
  refine lv_iload_n hx hb dX1_isPart_0 rfl (lv_at hl 3 rfl) ?_
  refine lv_iload_n hx hb dX1_isPart_1 rfl (lv_at hl 2 rfl) ?_
  refine m_isub (X := e9.toInt) (Y := b9.toInt) hx hb dX1_isPart_2 rfl rfl (fun x2 e_x2 g9 => ?_)
  obtain ⟨k_x2, g_x2⟩ := g9
  have b_x2 := iB x2
  try (have q_x2 : x2.toInt = e9.toInt - b9.toInt := (by omega); clear g_x2 k_x2)
  refine lv_aload_n hx hb dX1_isPart_3 rfl (lv_at hl 0 rfl) ?_
  refine va_get (D := D) (ci := 0) (v := .int v_a_to) (C := RX1) (T := TX1) (N := 7) hx hb hts hinX1 hown hK hP 8 rfl rfl 6 (by decide) k_9_16 (fun _ h9 => h9) rfl dX1_isPart_4 ?_
  refine lv_aload_n hx hb dX1_isPart_7 rfl (lv_at hl 0 rfl) ?_
  refine va_get (D := D) (ci := 0) (v := .int v_a_from) (C := RX1) (T := TX1) (N := 7) hx hb hts hinX1 hown hK hP 8 rfl rfl 5 (by decide) k_9_21 (fun _ h9 => h9) rfl dX1_isPart_8 ?_
  refine m_isub (X := v_a_to.toInt) (Y := v_a_from.toInt) hx hb dX1_isPart_11 rfl rfl (fun x11 e_x11 g9 => ?_)
  obtain ⟨k_x11, g_x11⟩ := g9
  have b_x11 := iB x11
  try (have q_x11 : x11.toInt = v_a_to.toInt - v_a_from.toInt := (by omega); clear g_x11 k_x11)
  refine m_icmp_ne (X := x2.toInt) (Y := x11.toInt) (tgt := 26) hx hb dX1_isPart_12 (by decide) rfl rfl (fun c12 => ?_) (fun c12 => ?_)
  · skip
    refine lv_iconst (v := 0) hx hb dX1_isPart_26 (by decide) ?_
    subst hAe
    rw [hQ]
    exact W.zret (v := 0) hx hb hr (by decide) (fun t ht hW => ⟨⟨0, _, rfl, ⟨rfl, by first | assumption | omega | (intros; omega) | decide⟩, by rw [ht]; exact hP, va_K.moved hW.alike hK, hD⟩, hS.F ht⟩) hS.2.2 dX1_isPart_27
  · skip
    refine lv_aload_n hx hb dX1_isPart_15 rfl (lv_at hl 0 rfl) ?_
    refine va_get (D := D) (ci := 0) (v := .int v_a_to) (C := RX1) (T := TX1) (N := 7) hx hb hts hinX1 hown hK hP 8 rfl rfl 6 (by decide) k_9_16 (fun _ h9 => h9) rfl dX1_isPart_16 ?_
    refine lv_aload_n hx hb dX1_isPart_19 rfl (lv_at hl 0 rfl) ?_
    refine va_get (D := D) (ci := 0) (v := .int v_a_size) (C := RX1) (T := TX1) (N := 7) hx hb hts hinX1 hown hK hP 8 rfl rfl 1 (by decide) k_9_14 (fun _ h9 => h9) rfl dX1_isPart_20 ?_
    refine m_icmp_le (X := v_a_to.toInt) (Y := v_a_size.toInt) (tgt := 28) hx hb dX1_isPart_23 (by decide) rfl rfl (fun c23 => ?_) (fun c23 => ?_)
    · skip
      refine lv_iconst (v := 0) hx hb dX1_isPart_28 (by decide) ?_
      refine lv_istore (lv' := [(4, .int 0), (0, .ref (q 8)), (1, .ref (K 0 s9)), (2, .int b9), (3, .int e9)]) hx hb dX1_isPart_29 hl (by decide) rfl (fun ls hl => ?_)
      have J31 : ∀ (n31 : Nat) (l4_31 : Int32) (H : Heap) (locs : List Loc) (ls : Array Slot), (0 ≤ l4_31.toInt) → (b9.toInt + l4_31.toInt ≤ e9.toInt) → (e9.toInt - b9.toInt - l4_31.toInt < (n31 : Int)) → va_P D vwCl (tw cs q v_t_tapeSize v_t_textSize v_t_faultKind a_t_tape a_t_text a_g_beyond v_g_size a_g_steps a_h_beyond v_h_size a_h_steps a_r_scratch a_r_now v_r_takes v_r_negative v_r_namePlace v_r_faultKind v_r_faultPlace v_a_size v_a_limit v_a_digits v_a_kind v_a_from v_a_to v_o_size a_o_out v_b_size v_b_limit v_b_digits v_b_kind v_b_from v_b_to a_u_atom a_u_other a_u_hand v_u_marksMade v_u_came v_u_guesses v_u_right v_u_taken a_u_vars a_u_marks a_u_outcomes a_u_indexes v_s_things v_s_looked v_s_lookedTooOften v_s_arraysMade v_s_cellsMade a_s_classes a_s_starts a_s_lengths a_s_cells a_L a_K a_vc a_vd a_si a_sj a_iv a_inn a_ac) H → va_D A (tw cs q v_t_tapeSize v_t_textSize v_t_faultKind a_t_tape a_t_text a_g_beyond v_g_size a_g_steps a_h_beyond v_h_size a_h_steps a_r_scratch a_r_now v_r_takes v_r_negative v_r_namePlace v_r_faultKind v_r_faultPlace v_a_size v_a_limit v_a_digits v_a_kind v_a_from v_a_to v_o_size a_o_out v_b_size v_b_limit v_b_digits v_b_kind v_b_from v_b_to a_u_atom a_u_other a_u_hand v_u_marksMade v_u_came v_u_guesses v_u_right v_u_taken a_u_vars a_u_marks a_u_outcomes a_u_indexes v_s_things v_s_looked v_s_lookedTooOften v_s_arraysMade v_s_cellsMade a_s_classes a_s_starts a_s_lengths a_s_cells a_L a_K a_vc a_vd a_si a_sj a_iv a_inn a_ac) → va_S A s.heap H locs → lv_has ls 5 [(0, .ref (q 8)), (1, .ref (K 0 s9)), (2, .int b9), (3, .int e9), (4, .int l4_31)] → W p l e (headSpec (wG yX1_isPart cX1_isPart 5 (some .boolean)) rmX1_isPart_qa).room s m ([.ref (q 8), .ref (K 0 s9), .int b9, .int e9] : List Value).toArray below meth c H locs 0 0 Q (F0 m 31 ls []) := by
        intro n31
        induction n31 with
        | zero =>
          intro l4_31 H locs ls f31_0 f31_1 hm31
          exfalso
          omega
        | succ n31 ih31 =>
          intro l4_31 H locs ls f31_0 f31_1 hm31 hP hD hS hl
          refine lv_iload_n hx hb dX1_isPart_31 rfl (lv_at hl 2 rfl) ?_
          refine lv_iload hx hb dX1_isPart_32 (lv_at hl 4 rfl) ?_
          refine m_iadd (X := b9.toInt) (Y := l4_31.toInt) hx hb dX1_isPart_34 rfl rfl (fun x34 e_x34 g9 => ?_)
          obtain ⟨k_x34, g_x34⟩ := g9
          have b_x34 := iB x34
          try (have q_x34 : x34.toInt = b9.toInt + l4_31.toInt := (by omega); clear g_x34 k_x34)
          refine lv_iload_n hx hb dX1_isPart_35 rfl (lv_at hl 3 rfl) ?_
          refine m_icmp_ge (X := x34.toInt) (Y := e9.toInt) (tgt := 70) hx hb dX1_isPart_36 (by decide) rfl rfl (fun c36 => ?_) (fun c36 => ?_)
          · skip
            refine lv_iconst (v := 1) hx hb dX1_isPart_70 (by decide) ?_
            subst hAe
            rw [hQ]
            exact W.zret (v := 1) hx hb hr (by decide) (fun t ht hW => ⟨⟨1, _, rfl, ⟨rfl, by first | assumption | omega | (intros; omega) | decide⟩, by rw [ht]; exact hP, va_K.moved hW.alike hK, hD⟩, hS.F ht⟩) hS.2.2 dX1_isPart_71
          · skip
            refine lv_aload_n hx hb dX1_isPart_39 rfl (lv_at hl 1 rfl) ?_
            refine lv_iload_n hx hb dX1_isPart_40 rfl (lv_at hl 2 rfl) ?_
            refine lv_iload hx hb dX1_isPart_41 (lv_at hl 4 rfl) ?_
            refine m_iadd (X := b9.toInt) (Y := l4_31.toInt) hx hb dX1_isPart_43 rfl rfl (fun x43 e_x43 g9 => ?_)
            obtain ⟨k_x43, g_x43⟩ := g9
            have b_x43 := iB x43
            try (have q_x43 : x43.toInt = b9.toInt + l4_31.toInt := (by omega); clear g_x43 k_x43)
            refine call_iP (As := [.int x43]) (rest := []) ⟨hx, hb, hml, hown, hts⟩ (tJ0_charAt_5068e (l := l) s9 hs_s9 x43 (by first | assumption | omega | (intros; omega) | decide) (by first | assumption | omega | (intros; omega) | decide)) (cwV 1 hts (gV (wr14 _ (List.mem_of_getElem? (i := 16) rfl)) (wr14 _ (List.mem_of_getElem? (i := 17) rfl)) (wr14 _ (List.mem_of_getElem? (i := 18) rfl)) (wr10 _ (List.mem_of_getElem? (i := 10) rfl)) (wr14 _ (List.mem_of_getElem? (i := 19) rfl))) rfl rfl rfl (by decide +kernel) ⟨Nat.le_of_ble_eq_true rfl, Nat.le_of_ble_eq_true rfl⟩) (sRecv st_s9 hS) (hK.sub [] rfl) hP hD hE hS hA rfl hl.1 rfl (Nat.le_of_ble_eq_true rfl) dX1_isPart_44 ⟨Nat.le_of_ble_eq_true rfl, Nat.le_of_ble_eq_true rfl⟩ (fun r44 w9 H locs hw44 hP hD hS => ?_)
            obtain ⟨rfl, hw44_0⟩ := hw44
            have b_r44 := iB r44
            refine lv_aload_n hx hb dX1_isPart_47 rfl (lv_at hl 0 rfl) ?_
            refine va_get (D := D) (ci := 0) (v := .ref (q 1)) (C := RX1) (T := TX1) (N := 7) hx hb hts hinX1 hown hK hP 8 rfl rfl 0 (by decide) k_3_6 (fun _ h9 => h9) rfl dX1_isPart_48 ?_
            refine lv_aload_n hx hb dX1_isPart_51 rfl (lv_at hl 0 rfl) ?_
            refine va_get (D := D) (ci := 0) (v := .int v_a_from) (C := RX1) (T := TX1) (N := 7) hx hb hts hinX1 hown hK hP 8 rfl rfl 5 (by decide) k_9_21 (fun _ h9 => h9) rfl dX1_isPart_52 ?_
            refine lv_iload hx hb dX1_isPart_55 (lv_at hl 4 rfl) ?_
            refine m_iadd (X := v_a_from.toInt) (Y := l4_31.toInt) hx hb dX1_isPart_57 rfl rfl (fun x57 e_x57 g9 => ?_)
            obtain ⟨k_x57, g_x57⟩ := g9
            have b_x57 := iB x57
            try (have q_x57 : x57.toInt = v_a_from.toInt + l4_31.toInt := (by omega); clear g_x57 k_x57)
            refine m_bald hx hb hK hP 1 2 rfl rfl (ix (by omega) (by omega)) dX1_isPart_58 (fun x58 e_x58 => ?_)
            have b_x58 := iB x58
            refine m_icmp_eq (X := r44.toInt) (Y := x58.toInt) (tgt := 64) hx hb dX1_isPart_59 (by decide) rfl rfl (fun c59 => ?_) (fun c59 => ?_)
            · skip
              obtain ⟨x64, e_x64⟩ : ∃ z : Int32, z = l4_31 + (1 : Int32) := ⟨_, rfl⟩
              obtain ⟨k_x64, g_x64⟩ : ∃ k : Int, x64.toInt = l4_31.toInt + (1) + k * 4294967296 := by rw [e_x64]; exact iAdd l4_31 (1)
              have b_x64 := iB x64
              try (have q_x64 : x64.toInt = l4_31.toInt + (1) := (by omega); clear g_x64 k_x64)
              refine lv_iinc (v := x64) (lv' := [(4, .int x64), (0, .ref (q 8)), (1, .ref (K 0 s9)), (2, .int b9), (3, .int e9)]) hx hb dX1_isPart_64 hl (k := 4) rfl (by rw [e_x64]; rfl) (by decide) rfl (fun ls hl => ?_)
              refine lv_goto (tgt := 31) hx hb dX1_isPart_67 (by decide) ?_
              exact ih31 x64 H locs ls (by first | assumption | omega | (intros; omega) | decide) (by first | assumption | omega | (intros; omega) | decide) (by omega) hP hD hS (lv_sub hl [1, 2, 3, 4, 0] rfl)
            · skip
              refine lv_iconst (v := 0) hx hb dX1_isPart_62 (by decide) ?_
              subst hAe
              rw [hQ]
              exact W.zret (v := 0) hx hb hr (by decide) (fun t ht hW => ⟨⟨0, _, rfl, ⟨rfl, by first | assumption | omega | (intros; omega) | decide⟩, by rw [ht]; exact hP, va_K.moved hW.alike hK, hD⟩, hS.F ht⟩) hS.2.2 dX1_isPart_63
      exact J31 ((e9.toInt - b9.toInt - (0 : Int32).toInt).toNat + 1) (0 : Int32) H locs ls (by first | assumption | omega | (intros; omega) | decide) (by first | assumption | omega | (intros; omega) | decide) (by omega) hP hD hS (lv_sub hl [1, 2, 3, 4, 0] rfl)
    · skip
      refine lv_iconst (v := 0) hx hb dX1_isPart_26 (by decide) ?_
      subst hAe
      rw [hQ]
      exact W.zret (v := 0) hx hb hr (by decide) (fun t ht hW => ⟨⟨0, _, rfl, ⟨rfl, by first | assumption | omega | (intros; omega) | decide⟩, by rw [ht]; exact hP, va_K.moved hW.alike hK, hD⟩, hS.F ht⟩) hS.2.2 dX1_isPart_27

def rmX1_wordIn_qa : Room := { frames := 120, cells := 0, slots := 0, locals := 2400 }
set_option maxHeartbeats 4000000 in
set_option maxRecDepth 100000 in
theorem tX1_wordIn_qa {l : Launch} {D : va_G} {K : Nat → Nat → Nat} {cs : Nat → ClassId} {q : Nat → Nat} {v_t_tapeSize v_t_textSize v_t_faultKind v_g_size v_h_size v_r_takes v_r_negative v_r_namePlace v_r_faultKind v_r_faultPlace v_a_size v_a_limit v_a_digits v_a_kind v_a_from v_a_to v_o_size v_b_size v_b_limit v_b_digits v_b_kind v_b_from v_b_to v_u_marksMade v_u_came v_u_guesses v_u_right v_u_taken v_s_things v_s_looked v_s_lookedTooOften v_s_arraysMade v_s_cellsMade : Int32} {a_t_tape a_t_text a_o_out a_u_outcomes a_u_indexes a_s_classes a_s_starts a_s_lengths a_vc : Nat → Int32} {a_g_beyond a_h_beyond a_r_scratch a_r_now a_u_atom a_u_other a_u_hand : Nat} {a_g_steps a_h_steps a_u_vars a_u_marks : Nat → Option Nat} {a_s_cells a_vd a_sj : Nat → Int64} {a_L : List Nat} {a_K a_iv a_inn : Nat → Nat} {a_si a_ac : Nat → Nat → Int32} (s9 : Nat) {tx_s9 : List Int32} (hs_s9 : sOf s9 tx_s9) (p_0 : LI 3100 v_a_size v_a_limit v_a_digits v_a_kind v_a_from v_a_to) : CtI l yX1_wordIn (wG yX1_wordIn cX1_wordIn 5 (some .int)) rmX1_wordIn_qa D (twT cs) K [.ref (q 8), .ref (K 0 s9)] (tw cs q v_t_tapeSize v_t_textSize v_t_faultKind a_t_tape a_t_text a_g_beyond v_g_size a_g_steps a_h_beyond v_h_size a_h_steps a_r_scratch a_r_now v_r_takes v_r_negative v_r_namePlace v_r_faultKind v_r_faultPlace v_a_size v_a_limit v_a_digits v_a_kind v_a_from v_a_to v_o_size a_o_out v_b_size v_b_limit v_b_digits v_b_kind v_b_from v_b_to a_u_atom a_u_other a_u_hand v_u_marksMade v_u_came v_u_guesses v_u_right v_u_taken a_u_vars a_u_marks a_u_outcomes a_u_indexes v_s_things v_s_looked v_s_lookedTooOften v_s_arraysMade v_s_cellsMade a_s_classes a_s_starts a_s_lengths a_s_cells a_L a_K a_vc a_vd a_si a_sj a_iv a_inn a_ac) (fun r w1 => w1 = (tw cs q v_t_tapeSize v_t_textSize v_t_faultKind a_t_tape a_t_text a_g_beyond v_g_size a_g_steps a_h_beyond v_h_size a_h_steps a_r_scratch a_r_now v_r_takes v_r_negative v_r_namePlace v_r_faultKind v_r_faultPlace v_a_size v_a_limit v_a_digits v_a_kind v_a_from v_a_to v_o_size a_o_out v_b_size v_b_limit v_b_digits v_b_kind v_b_from v_b_to a_u_atom a_u_other a_u_hand v_u_marksMade v_u_came v_u_guesses v_u_right v_u_taken a_u_vars a_u_marks a_u_outcomes a_u_indexes v_s_things v_s_looked v_s_lookedTooOften v_s_arraysMade v_s_cellsMade a_s_classes a_s_starts a_s_lengths a_s_cells a_L a_K a_vc a_vd a_si a_sj a_iv a_inn a_ac) ∧ (-1 ≤ r.toInt) ∧ (r.toInt ≤ 121)) 0 0 := by
  intro sz
  refine Met.ofW (cc := cX1_wordIn) (maxL := 5) (ret := (some .int)) (by decide) rfl ?_
  intro p e s m args below meth c s₁ B hml hv
  obtain ⟨rfl, hsz, hP, hK, hD0, hE⟩ := hv
  have hx := B.exec
  have hb := B.bytes
  have hr := B.returns
  have hts := atoms_spec (ws := (wG yX1_wordIn cX1_wordIn 5 (some .int))) B.pre
  have hown : s.vm.findClass RX1 = some m.cls := findClass_of_methodNamed B.named
  have hlocks := B.notSynchronized
  subst hsz
  have hD := hD0.self (sz := s.heap.size)
  obtain ⟨A, hAe⟩ : ∃ A : Nat → Prop, A = va_A (tw cs q v_t_tapeSize v_t_textSize v_t_faultKind a_t_tape a_t_text a_g_beyond v_g_size a_g_steps a_h_beyond v_h_size a_h_steps a_r_scratch a_r_now v_r_takes v_r_negative v_r_namePlace v_r_faultKind v_r_faultPlace v_a_size v_a_limit v_a_digits v_a_kind v_a_from v_a_to v_o_size a_o_out v_b_size v_b_limit v_b_digits v_b_kind v_b_from v_b_to a_u_atom a_u_other a_u_hand v_u_marksMade v_u_came v_u_guesses v_u_right v_u_taken a_u_vars a_u_marks a_u_outcomes a_u_indexes v_s_things v_s_looked v_s_lookedTooOften v_s_arraysMade v_s_cellsMade a_s_classes a_s_starts a_s_lengths a_s_cells a_L a_K a_vc a_vd a_si a_sj a_iv a_inn a_ac) s.heap.size := ⟨_, rfl⟩
  rw [← hAe] at hD hE
  have hA : ∀ q : Nat, s.heap.size ≤ q → A q := fun q h => by rw [hAe]; exact Or.inr h
  have hS : va_S A s.heap s.heap [] := va_S.rf
  have hl := lv_entry ([.ref (q 8), .ref (K 0 s9)]) (n := 5) (Nat.le_of_ble_eq_true rfl)
  rw [lg_entry_eq]
  generalize (lg_sl ([.ref (q 8), .ref (K 0 s9)]) ++ List.replicate (5 - (lg_sl ([.ref (q 8), .ref (K 0 s9)])).length) Slot.unset).toArray = ls at hl ⊢
  have hl : lv_has ls 5 [(0, .ref (q 8)), (1, .ref (K 0 s9))] := hl
  refine wq (fun Q hQ => ?_)
  have hinX1 : ∀ w ∈ wsX10, w ∈ (wG yX1_wordIn cX1_wordIn 5 (some .int)) := fun w h => List.mem_cons_of_mem _ (inlX1 w h)
  have kc0 : (-1 : Int32).toInt = -1 := by decide
  have kc1 : (0 : Int32).toInt = 0 := by decide
  have kc2 : (1 : Int32).toInt = 1 := by decide
  have kc3 : (2 : Int32).toInt = 2 := by decide
  have kc4 : (32 : Int32).toInt = 32 := by decide
  have k_9_22 := hts (.fieldLink RX1 37 "ArrayTrainer$Lexer" "kind" "I") (List.mem_cons_of_mem _ (wr9 _ (List.mem_of_getElem? (i := 22) rfl)))
  obtain ⟨H, hH⟩ : ∃ H : Heap, H = s.heap := ⟨_, rfl⟩
  obtain ⟨locs, hlc⟩ : ∃ L : List Loc, L = [] := ⟨_, rfl⟩
  have hP : va_P D vwCl (tw cs q v_t_tapeSize v_t_textSize v_t_faultKind a_t_tape a_t_text a_g_beyond v_g_size a_g_steps a_h_beyond v_h_size a_h_steps a_r_scratch a_r_now v_r_takes v_r_negative v_r_namePlace v_r_faultKind v_r_faultPlace v_a_size v_a_limit v_a_digits v_a_kind v_a_from v_a_to v_o_size a_o_out v_b_size v_b_limit v_b_digits v_b_kind v_b_from v_b_to a_u_atom a_u_other a_u_hand v_u_marksMade v_u_came v_u_guesses v_u_right v_u_taken a_u_vars a_u_marks a_u_outcomes a_u_indexes v_s_things v_s_looked v_s_lookedTooOften v_s_arraysMade v_s_cellsMade a_s_classes a_s_starts a_s_lengths a_s_cells a_L a_K a_vc a_vd a_si a_sj a_iv a_inn a_ac) H := by rw [hH]; exact hP
  have hS : va_S A s.heap H locs := by rw [hH, hlc]; exact hS
  refine wHL hH hlc ?_
  have st_s9 := hE.str hs_s9
  have ln_s9 := sOf_len hs_s9
  refine lv_aload_n hx hb dX1_wordIn_0 rfl (lv_at hl 0 rfl) ?_
  refine va_get (D := D) (ci := 0) (v := .int v_a_kind) (C := RX1) (T := TX1) (N := 7) hx hb hts hinX1 hown hK hP 8 rfl rfl 4 (by decide) k_9_22 (fun _ h9 => h9) rfl dX1_wordIn_1 ?_
  refine lv_iconst (v := 2) hx hb dX1_wordIn_4 (by decide) ?_
  refine m_icmp_eq (X := v_a_kind.toInt) (Y := 2) (tgt := 10) hx hb dX1_wordIn_5 (by decide) rfl (by decide) (fun c5 => ?_) (fun c5 => ?_)
  · skip
    refine lv_iconst (v := 0) hx hb dX1_wordIn_10 (by decide) ?_
    refine lv_istore_n (lv' := [(2, .int 0), (0, .ref (q 8)), (1, .ref (K 0 s9))]) hx hb dX1_wordIn_11 rfl hl (by decide) rfl (fun ls hl => ?_)
    refine lv_iconst (v := 0) hx hb dX1_wordIn_12 (by decide) ?_
    refine lv_istore_n (lv' := [(3, .int 0), (2, .int 0), (0, .ref (q 8)), (1, .ref (K 0 s9))]) hx hb dX1_wordIn_13 rfl hl (by decide) rfl (fun ls hl => ?_)
    refine lv_iconst (v := 0) hx hb dX1_wordIn_14 (by decide) ?_
    refine lv_istore (lv' := [(4, .int 0), (3, .int 0), (2, .int 0), (0, .ref (q 8)), (1, .ref (K 0 s9))]) hx hb dX1_wordIn_15 hl (by decide) rfl (fun ls hl => ?_)
    have J17 : ∀ (n17 : Nat) (l2_17 : Int32) (l3_17 : Int32) (l4_17 : Int32) (H : Heap) (locs : List Loc) (ls : Array Slot), (0 ≤ l3_17.toInt) → (l3_17.toInt ≤ l4_17.toInt) → (l4_17.toInt ≤ (tx_s9.length : Int) + 1) → (0 ≤ l2_17.toInt) → (l2_17.toInt ≤ l4_17.toInt) → ((tx_s9.length : Int) + 1 - l4_17.toInt < (n17 : Int)) → va_P D vwCl (tw cs q v_t_tapeSize v_t_textSize v_t_faultKind a_t_tape a_t_text a_g_beyond v_g_size a_g_steps a_h_beyond v_h_size a_h_steps a_r_scratch a_r_now v_r_takes v_r_negative v_r_namePlace v_r_faultKind v_r_faultPlace v_a_size v_a_limit v_a_digits v_a_kind v_a_from v_a_to v_o_size a_o_out v_b_size v_b_limit v_b_digits v_b_kind v_b_from v_b_to a_u_atom a_u_other a_u_hand v_u_marksMade v_u_came v_u_guesses v_u_right v_u_taken a_u_vars a_u_marks a_u_outcomes a_u_indexes v_s_things v_s_looked v_s_lookedTooOften v_s_arraysMade v_s_cellsMade a_s_classes a_s_starts a_s_lengths a_s_cells a_L a_K a_vc a_vd a_si a_sj a_iv a_inn a_ac) H → va_D A (tw cs q v_t_tapeSize v_t_textSize v_t_faultKind a_t_tape a_t_text a_g_beyond v_g_size a_g_steps a_h_beyond v_h_size a_h_steps a_r_scratch a_r_now v_r_takes v_r_negative v_r_namePlace v_r_faultKind v_r_faultPlace v_a_size v_a_limit v_a_digits v_a_kind v_a_from v_a_to v_o_size a_o_out v_b_size v_b_limit v_b_digits v_b_kind v_b_from v_b_to a_u_atom a_u_other a_u_hand v_u_marksMade v_u_came v_u_guesses v_u_right v_u_taken a_u_vars a_u_marks a_u_outcomes a_u_indexes v_s_things v_s_looked v_s_lookedTooOften v_s_arraysMade v_s_cellsMade a_s_classes a_s_starts a_s_lengths a_s_cells a_L a_K a_vc a_vd a_si a_sj a_iv a_inn a_ac) → va_S A s.heap H locs → lv_has ls 5 [(0, .ref (q 8)), (1, .ref (K 0 s9)), (2, .int l2_17), (3, .int l3_17), (4, .int l4_17)] → W p l e (headSpec (wG yX1_wordIn cX1_wordIn 5 (some .int)) rmX1_wordIn_qa).room s m ([.ref (q 8), .ref (K 0 s9)] : List Value).toArray below meth c H locs 0 0 Q (F0 m 17 ls []) := by
      intro n17
      induction n17 with
      | zero =>
        intro l2_17 l3_17 l4_17 H locs ls f17_0 f17_1 f17_2 f17_3 f17_4 hm17
        exfalso
        omega
      | succ n17 ih17 =>
        intro l2_17 l3_17 l4_17 H locs ls f17_0 f17_1 f17_2 f17_3 f17_4 hm17 hP hD hS hl
        refine lv_iload hx hb dX1_wordIn_17 (lv_at hl 4 rfl) ?_
        refine lv_aload_n hx hb dX1_wordIn_19 rfl (lv_at hl 1 rfl) ?_
        refine call_iP (As := []) (rest := [.int l4_17]) ⟨hx, hb, hml, hown, hts⟩ (tJ0_length_8abf5 (l := l) s9 hs_s9 ) (cwV 0 hts (gV (wr14 _ (List.mem_of_getElem? (i := 15) rfl)) (wr11 _ (List.mem_of_getElem? (i := 0) rfl)) (wr11 _ (List.mem_of_getElem? (i := 1) rfl)) (wr10 _ (List.mem_of_getElem? (i := 10) rfl)) (wr11 _ (List.mem_of_getElem? (i := 2) rfl))) rfl rfl rfl (by decide +kernel) ⟨Nat.le_of_ble_eq_true rfl, Nat.le_of_ble_eq_true rfl⟩) (sRecv st_s9 hS) (hK.sub [] rfl) hP hD hE hS hA rfl hl.1 rfl (Nat.le_of_ble_eq_true rfl) dX1_wordIn_20 ⟨Nat.le_of_ble_eq_true rfl, Nat.le_of_ble_eq_true rfl⟩ (fun r20 w9 H locs hw20 hP hD hS => ?_)
        obtain ⟨rfl, hw20_0⟩ := hw20
        have b_r20 := iB r20
        refine m_icmp_gt (X := l4_17.toInt) (Y := r20.toInt) (tgt := 73) hx hb dX1_wordIn_23 (by decide) rfl rfl (fun c23 => ?_) (fun c23 => ?_)
        · skip
          refine lv_iconst (v := (-1)) hx hb dX1_wordIn_73 (by decide) ?_
          subst hAe
          rw [hQ]
          exact W.iret (v := (-1)) hx hb hr (fun t ht hW => ⟨⟨(-1), _, rfl, ⟨rfl, by first | assumption | omega | (intros; omega) | decide, by first | assumption | omega | (intros; omega) | decide⟩, by rw [ht]; exact hP, va_K.moved hW.alike hK, hD⟩, hS.F ht⟩) hS.2.2 dX1_wordIn_74
        · skip
          refine lv_iload hx hb dX1_wordIn_26 (lv_at hl 4 rfl) ?_
          refine lv_aload_n hx hb dX1_wordIn_28 rfl (lv_at hl 1 rfl) ?_
          refine call_iP (As := []) (rest := [.int l4_17]) ⟨hx, hb, hml, hown, hts⟩ (tJ0_length_8abf5 (l := l) s9 hs_s9 ) (cwV 0 hts (gV (wr14 _ (List.mem_of_getElem? (i := 15) rfl)) (wr11 _ (List.mem_of_getElem? (i := 0) rfl)) (wr11 _ (List.mem_of_getElem? (i := 1) rfl)) (wr10 _ (List.mem_of_getElem? (i := 10) rfl)) (wr11 _ (List.mem_of_getElem? (i := 2) rfl))) rfl rfl rfl (by decide +kernel) ⟨Nat.le_of_ble_eq_true rfl, Nat.le_of_ble_eq_true rfl⟩) (sRecv st_s9 hS) (hK.sub [] rfl) hP hD hE hS hA rfl hl.1 rfl (Nat.le_of_ble_eq_true rfl) dX1_wordIn_29 ⟨Nat.le_of_ble_eq_true rfl, Nat.le_of_ble_eq_true rfl⟩ (fun r29 w9 H locs hw29 hP hD hS => ?_)
          obtain ⟨rfl, hw29_0⟩ := hw29
          have b_r29 := iB r29
          have J67 : ∀ (l2_67 : Int32) (l3_67 : Int32) (H : Heap) (locs : List Loc) (ls : Array Slot), (0 ≤ l3_67.toInt) → (l3_67.toInt ≤ l4_17.toInt + 1) → (0 ≤ l2_67.toInt) → (l2_67.toInt ≤ l4_17.toInt + 1) → va_P D vwCl (tw cs q v_t_tapeSize v_t_textSize v_t_faultKind a_t_tape a_t_text a_g_beyond v_g_size a_g_steps a_h_beyond v_h_size a_h_steps a_r_scratch a_r_now v_r_takes v_r_negative v_r_namePlace v_r_faultKind v_r_faultPlace v_a_size v_a_limit v_a_digits v_a_kind v_a_from v_a_to v_o_size a_o_out v_b_size v_b_limit v_b_digits v_b_kind v_b_from v_b_to a_u_atom a_u_other a_u_hand v_u_marksMade v_u_came v_u_guesses v_u_right v_u_taken a_u_vars a_u_marks a_u_outcomes a_u_indexes v_s_things v_s_looked v_s_lookedTooOften v_s_arraysMade v_s_cellsMade a_s_classes a_s_starts a_s_lengths a_s_cells a_L a_K a_vc a_vd a_si a_sj a_iv a_inn a_ac) H → va_D A (tw cs q v_t_tapeSize v_t_textSize v_t_faultKind a_t_tape a_t_text a_g_beyond v_g_size a_g_steps a_h_beyond v_h_size a_h_steps a_r_scratch a_r_now v_r_takes v_r_negative v_r_namePlace v_r_faultKind v_r_faultPlace v_a_size v_a_limit v_a_digits v_a_kind v_a_from v_a_to v_o_size a_o_out v_b_size v_b_limit v_b_digits v_b_kind v_b_from v_b_to a_u_atom a_u_other a_u_hand v_u_marksMade v_u_came v_u_guesses v_u_right v_u_taken a_u_vars a_u_marks a_u_outcomes a_u_indexes v_s_things v_s_looked v_s_lookedTooOften v_s_arraysMade v_s_cellsMade a_s_classes a_s_starts a_s_lengths a_s_cells a_L a_K a_vc a_vd a_si a_sj a_iv a_inn a_ac) → va_S A s.heap H locs → lv_has ls 5 [(0, .ref (q 8)), (1, .ref (K 0 s9)), (2, .int l2_67), (3, .int l3_67), (4, .int l4_17)] → W p l e (headSpec (wG yX1_wordIn cX1_wordIn 5 (some .int)) rmX1_wordIn_qa).room s m ([.ref (q 8), .ref (K 0 s9)] : List Value).toArray below meth c H locs 0 0 Q (F0 m 67 ls []) := by
            intro l2_67 l3_67 H locs ls f67_0 f67_1 f67_2 f67_3 hP hD hS hl
            obtain ⟨x67, e_x67⟩ : ∃ z : Int32, z = l4_17 + (1 : Int32) := ⟨_, rfl⟩
            obtain ⟨k_x67, g_x67⟩ : ∃ k : Int, x67.toInt = l4_17.toInt + (1) + k * 4294967296 := by rw [e_x67]; exact iAdd l4_17 (1)
            have b_x67 := iB x67
            try (have q_x67 : x67.toInt = l4_17.toInt + (1) := (by omega); clear g_x67 k_x67)
            refine lv_iinc (v := x67) (lv' := [(4, .int x67), (0, .ref (q 8)), (1, .ref (K 0 s9)), (2, .int l2_67), (3, .int l3_67)]) hx hb dX1_wordIn_67 hl (k := 4) rfl (by rw [e_x67]; rfl) (by decide) rfl (fun ls hl => ?_)
            refine lv_goto (tgt := 17) hx hb dX1_wordIn_70 (by decide) ?_
            exact ih17 l2_67 l3_67 x67 H locs ls (by first | assumption | omega | (intros; omega) | decide) (by first | assumption | omega | (intros; omega) | decide) (by first | assumption | omega | (intros; omega) | decide) (by first | assumption | omega | (intros; omega) | decide) (by first | assumption | omega | (intros; omega) | decide) (by omega) hP hD hS (lv_sub hl [1, 2, 3, 4, 0] rfl)
          have J46 : ∀ (H : Heap) (locs : List Loc) (ls : Array Slot), (l4_17.toInt ≤ (tx_s9.length : Int)) → va_P D vwCl (tw cs q v_t_tapeSize v_t_textSize v_t_faultKind a_t_tape a_t_text a_g_beyond v_g_size a_g_steps a_h_beyond v_h_size a_h_steps a_r_scratch a_r_now v_r_takes v_r_negative v_r_namePlace v_r_faultKind v_r_faultPlace v_a_size v_a_limit v_a_digits v_a_kind v_a_from v_a_to v_o_size a_o_out v_b_size v_b_limit v_b_digits v_b_kind v_b_from v_b_to a_u_atom a_u_other a_u_hand v_u_marksMade v_u_came v_u_guesses v_u_right v_u_taken a_u_vars a_u_marks a_u_outcomes a_u_indexes v_s_things v_s_looked v_s_lookedTooOften v_s_arraysMade v_s_cellsMade a_s_classes a_s_starts a_s_lengths a_s_cells a_L a_K a_vc a_vd a_si a_sj a_iv a_inn a_ac) H → va_D A (tw cs q v_t_tapeSize v_t_textSize v_t_faultKind a_t_tape a_t_text a_g_beyond v_g_size a_g_steps a_h_beyond v_h_size a_h_steps a_r_scratch a_r_now v_r_takes v_r_negative v_r_namePlace v_r_faultKind v_r_faultPlace v_a_size v_a_limit v_a_digits v_a_kind v_a_from v_a_to v_o_size a_o_out v_b_size v_b_limit v_b_digits v_b_kind v_b_from v_b_to a_u_atom a_u_other a_u_hand v_u_marksMade v_u_came v_u_guesses v_u_right v_u_taken a_u_vars a_u_marks a_u_outcomes a_u_indexes v_s_things v_s_looked v_s_lookedTooOften v_s_arraysMade v_s_cellsMade a_s_classes a_s_starts a_s_lengths a_s_cells a_L a_K a_vc a_vd a_si a_sj a_iv a_inn a_ac) → va_S A s.heap H locs → lv_has ls 5 [(0, .ref (q 8)), (1, .ref (K 0 s9)), (2, .int l2_17), (3, .int l3_17), (4, .int l4_17)] → W p l e (headSpec (wG yX1_wordIn cX1_wordIn 5 (some .int)) rmX1_wordIn_qa).room s m ([.ref (q 8), .ref (K 0 s9)] : List Value).toArray below meth c H locs 0 0 Q (F0 m 46 ls []) := by
            intro H locs ls f46_0 hP hD hS hl
            refine lv_aload_n hx hb dX1_wordIn_46 rfl (lv_at hl 0 rfl) ?_
            refine lv_aload_n hx hb dX1_wordIn_47 rfl (lv_at hl 1 rfl) ?_
            refine lv_iload_n hx hb dX1_wordIn_48 rfl (lv_at hl 3 rfl) ?_
            refine lv_iload hx hb dX1_wordIn_49 (lv_at hl 4 rfl) ?_
            refine call_i (As := [.ref (K 0 s9), .int l3_17, .int l4_17]) (rest := []) ⟨hx, hb, hml, hown, hts⟩ (tX1_isPart_qa (l := l) s9 hs_s9 l3_17 l4_17 (by first | assumption | omega | (intros; omega) | decide) (by first | assumption | omega | (intros; omega) | decide) (by first | assumption | omega | (intros; omega) | decide) (by first | assumption | omega | (intros; omega) | decide)) (cwV 3 hts (gV (wr15 _ (List.mem_of_getElem? (i := 12) rfl)) (wr15 _ (List.mem_of_getElem? (i := 13) rfl)) (wr15 _ (List.mem_of_getElem? (i := 14) rfl)) (wr2 _ (List.mem_of_getElem? (i := 2) rfl)) (wr15 _ (List.mem_of_getElem? (i := 15) rfl))) rfl rfl rfl (by decide +kernel) ⟨Nat.le_of_ble_eq_true rfl, Nat.le_of_ble_eq_true rfl⟩) (va_recv hK hP (ci := 0) (q0 := 8) rfl rfl) hK hP hD hE hS hA rfl hl.1 rfl (Nat.le_of_ble_eq_true rfl) dX1_wordIn_51 ⟨Nat.le_of_ble_eq_true rfl, Nat.le_of_ble_eq_true rfl⟩ (fun r51 w9 H locs hw51 hP hD hS => ?_)
            obtain ⟨rfl, hw51_0⟩ := hw51
            have b_r51 := iB r51
            refine m_if_eq (X := r51.toInt) (tgt := 59) hx hb dX1_wordIn_54 (by decide) rfl (fun c54 => ?_) (fun c54 => ?_)
            · skip
              obtain ⟨x59, e_x59⟩ : ∃ z : Int32, z = l2_17 + (1 : Int32) := ⟨_, rfl⟩
              obtain ⟨k_x59, g_x59⟩ : ∃ k : Int, x59.toInt = l2_17.toInt + (1) + k * 4294967296 := by rw [e_x59]; exact iAdd l2_17 (1)
              have b_x59 := iB x59
              try (have q_x59 : x59.toInt = l2_17.toInt + (1) := (by omega); clear g_x59 k_x59)
              refine lv_iinc (v := x59) (lv' := [(2, .int x59), (0, .ref (q 8)), (1, .ref (K 0 s9)), (3, .int l3_17), (4, .int l4_17)]) hx hb dX1_wordIn_59 hl (k := 2) rfl (by rw [e_x59]; rfl) (by decide) rfl (fun ls hl => ?_)
              refine lv_iload hx hb dX1_wordIn_62 (lv_at hl 4 rfl) ?_
              refine lv_iconst (v := 1) hx hb dX1_wordIn_64 (by decide) ?_
              refine m_iadd (X := l4_17.toInt) (Y := 1) hx hb dX1_wordIn_65 rfl (by decide) (fun x65 e_x65 g9 => ?_)
              obtain ⟨k_x65, g_x65⟩ := g9
              have b_x65 := iB x65
              try (have q_x65 : x65.toInt = l4_17.toInt + 1 := (by omega); clear g_x65 k_x65)
              refine lv_istore_n (lv' := [(3, .int x65), (2, .int x59), (0, .ref (q 8)), (1, .ref (K 0 s9)), (4, .int l4_17)]) hx hb dX1_wordIn_66 rfl hl (by decide) rfl (fun ls hl => ?_)
              exact J67 x59 x65 H locs ls (by first | assumption | omega | (intros; omega) | decide) (by first | assumption | omega | (intros; omega) | decide) (by first | assumption | omega | (intros; omega) | decide) (by first | assumption | omega | (intros; omega) | decide) hP hD hS (lv_sub hl [2, 3, 1, 0, 4] rfl)
            · skip
              refine lv_iload_n hx hb dX1_wordIn_57 rfl (lv_at hl 2 rfl) ?_
              subst hAe
              rw [hQ]
              exact W.iret (v := l2_17) hx hb hr (fun t ht hW => ⟨⟨l2_17, _, rfl, ⟨rfl, by first | assumption | omega | (intros; omega) | decide, by first | assumption | omega | (intros; omega) | decide⟩, by rw [ht]; exact hP, va_K.moved hW.alike hK, hD⟩, hS.F ht⟩) hS.2.2 dX1_wordIn_58
          refine m_icmp_eq (X := l4_17.toInt) (Y := r29.toInt) (tgt := 46) hx hb dX1_wordIn_32 (by decide) rfl rfl (fun c32 => ?_) (fun c32 => ?_)
          · skip
            exact J46 H locs ls (by first | assumption | omega | (intros; omega) | decide) hP hD hS (lv_sub hl [0, 1, 2, 3, 4] rfl)
          · skip
            refine lv_aload_n hx hb dX1_wordIn_35 rfl (lv_at hl 1 rfl) ?_
            refine lv_iload hx hb dX1_wordIn_36 (lv_at hl 4 rfl) ?_
            refine call_iP (As := [.int l4_17]) (rest := []) ⟨hx, hb, hml, hown, hts⟩ (tJ0_charAt_5068e (l := l) s9 hs_s9 l4_17 (by first | assumption | omega | (intros; omega) | decide) (by first | assumption | omega | (intros; omega) | decide)) (cwV 1 hts (gV (wr14 _ (List.mem_of_getElem? (i := 16) rfl)) (wr14 _ (List.mem_of_getElem? (i := 17) rfl)) (wr14 _ (List.mem_of_getElem? (i := 18) rfl)) (wr10 _ (List.mem_of_getElem? (i := 10) rfl)) (wr14 _ (List.mem_of_getElem? (i := 19) rfl))) rfl rfl rfl (by decide +kernel) ⟨Nat.le_of_ble_eq_true rfl, Nat.le_of_ble_eq_true rfl⟩) (sRecv st_s9 hS) (hK.sub [] rfl) hP hD hE hS hA rfl hl.1 rfl (Nat.le_of_ble_eq_true rfl) dX1_wordIn_38 ⟨Nat.le_of_ble_eq_true rfl, Nat.le_of_ble_eq_true rfl⟩ (fun r38 w9 H locs hw38 hP hD hS => ?_)
            obtain ⟨rfl, hw38_0⟩ := hw38
            have b_r38 := iB r38
            refine lv_bipush (v := 32) hx hb dX1_wordIn_41 (by decide) ?_
            refine m_icmp_ne (X := r38.toInt) (Y := 32) (tgt := 67) hx hb dX1_wordIn_43 (by decide) rfl (by decide) (fun c43 => ?_) (fun c43 => ?_)
            · skip
              exact J67 l2_17 l3_17 H locs ls (by first | assumption | omega | (intros; omega) | decide) (by first | assumption | omega | (intros; omega) | decide) (by first | assumption | omega | (intros; omega) | decide) (by first | assumption | omega | (intros; omega) | decide) hP hD hS (lv_sub hl [0, 1, 2, 3, 4] rfl)
            · skip
              exact J46 H locs ls (by first | assumption | omega | (intros; omega) | decide) hP hD hS (lv_sub hl [0, 1, 2, 3, 4] rfl)
    exact J17 (((tx_s9.length : Int) + 1 - (0 : Int32).toInt).toNat + 1) (0 : Int32) (0 : Int32) (0 : Int32) H locs ls (by first | assumption | omega | (intros; omega) | decide) (by first | assumption | omega | (intros; omega) | decide) (by first | assumption | omega | (intros; omega) | decide) (by first | assumption | omega | (intros; omega) | decide) (by first | assumption | omega | (intros; omega) | decide) (by omega) hP hD hS (lv_sub hl [3, 4, 2, 1, 0] rfl)
  · skip
    refine lv_iconst (v := (-1)) hx hb dX1_wordIn_8 (by decide) ?_
    subst hAe
    rw [hQ]
    exact W.iret (v := (-1)) hx hb hr (fun t ht hW => ⟨⟨(-1), _, rfl, ⟨rfl, by first | assumption | omega | (intros; omega) | decide, by first | assumption | omega | (intros; omega) | decide⟩, by rw [ht]; exact hP, va_K.moved hW.alike hK, hD⟩, hS.F ht⟩) hS.2.2 dX1_wordIn_9

def rmX1_isWord_qa : Room := { frames := 140, cells := 0, slots := 0, locals := 2800 }
set_option maxHeartbeats 4000000 in
set_option maxRecDepth 100000 in
theorem tX1_isWord_qa {l : Launch} {D : va_G} {K : Nat → Nat → Nat} {cs : Nat → ClassId} {q : Nat → Nat} {v_t_tapeSize v_t_textSize v_t_faultKind v_g_size v_h_size v_r_takes v_r_negative v_r_namePlace v_r_faultKind v_r_faultPlace v_a_size v_a_limit v_a_digits v_a_kind v_a_from v_a_to v_o_size v_b_size v_b_limit v_b_digits v_b_kind v_b_from v_b_to v_u_marksMade v_u_came v_u_guesses v_u_right v_u_taken v_s_things v_s_looked v_s_lookedTooOften v_s_arraysMade v_s_cellsMade : Int32} {a_t_tape a_t_text a_o_out a_u_outcomes a_u_indexes a_s_classes a_s_starts a_s_lengths a_vc : Nat → Int32} {a_g_beyond a_h_beyond a_r_scratch a_r_now a_u_atom a_u_other a_u_hand : Nat} {a_g_steps a_h_steps a_u_vars a_u_marks : Nat → Option Nat} {a_s_cells a_vd a_sj : Nat → Int64} {a_L : List Nat} {a_K a_iv a_inn : Nat → Nat} {a_si a_ac : Nat → Nat → Int32} (s9 : Nat) {tx_s9 : List Int32} (hs_s9 : sOf s9 tx_s9) (p_0 : LI 3100 v_a_size v_a_limit v_a_digits v_a_kind v_a_from v_a_to) : CtI l yX1_isWord (wG yX1_isWord cX1_isWord 2 (some .boolean)) rmX1_isWord_qa D (twT cs) K [.ref (q 8), .ref (K 0 s9)] (tw cs q v_t_tapeSize v_t_textSize v_t_faultKind a_t_tape a_t_text a_g_beyond v_g_size a_g_steps a_h_beyond v_h_size a_h_steps a_r_scratch a_r_now v_r_takes v_r_negative v_r_namePlace v_r_faultKind v_r_faultPlace v_a_size v_a_limit v_a_digits v_a_kind v_a_from v_a_to v_o_size a_o_out v_b_size v_b_limit v_b_digits v_b_kind v_b_from v_b_to a_u_atom a_u_other a_u_hand v_u_marksMade v_u_came v_u_guesses v_u_right v_u_taken a_u_vars a_u_marks a_u_outcomes a_u_indexes v_s_things v_s_looked v_s_lookedTooOften v_s_arraysMade v_s_cellsMade a_s_classes a_s_starts a_s_lengths a_s_cells a_L a_K a_vc a_vd a_si a_sj a_iv a_inn a_ac) (fun r w1 => w1 = (tw cs q v_t_tapeSize v_t_textSize v_t_faultKind a_t_tape a_t_text a_g_beyond v_g_size a_g_steps a_h_beyond v_h_size a_h_steps a_r_scratch a_r_now v_r_takes v_r_negative v_r_namePlace v_r_faultKind v_r_faultPlace v_a_size v_a_limit v_a_digits v_a_kind v_a_from v_a_to v_o_size a_o_out v_b_size v_b_limit v_b_digits v_b_kind v_b_from v_b_to a_u_atom a_u_other a_u_hand v_u_marksMade v_u_came v_u_guesses v_u_right v_u_taken a_u_vars a_u_marks a_u_outcomes a_u_indexes v_s_things v_s_looked v_s_lookedTooOften v_s_arraysMade v_s_cellsMade a_s_classes a_s_starts a_s_lengths a_s_cells a_L a_K a_vc a_vd a_si a_sj a_iv a_inn a_ac) ∧ (r.toInt = 0 ∨ r.toInt = 1)) 0 0 := by
  intro sz
  refine Met.ofW (cc := cX1_isWord) (maxL := 2) (ret := (some .boolean)) (by decide) rfl ?_
  intro p e s m args below meth c s₁ B hml hv
  obtain ⟨rfl, hsz, hP, hK, hD0, hE⟩ := hv
  have hx := B.exec
  have hb := B.bytes
  have hr := B.returns
  have hts := atoms_spec (ws := (wG yX1_isWord cX1_isWord 2 (some .boolean))) B.pre
  have hown : s.vm.findClass RX1 = some m.cls := findClass_of_methodNamed B.named
  have hlocks := B.notSynchronized
  subst hsz
  have hD := hD0.self (sz := s.heap.size)
  obtain ⟨A, hAe⟩ : ∃ A : Nat → Prop, A = va_A (tw cs q v_t_tapeSize v_t_textSize v_t_faultKind a_t_tape a_t_text a_g_beyond v_g_size a_g_steps a_h_beyond v_h_size a_h_steps a_r_scratch a_r_now v_r_takes v_r_negative v_r_namePlace v_r_faultKind v_r_faultPlace v_a_size v_a_limit v_a_digits v_a_kind v_a_from v_a_to v_o_size a_o_out v_b_size v_b_limit v_b_digits v_b_kind v_b_from v_b_to a_u_atom a_u_other a_u_hand v_u_marksMade v_u_came v_u_guesses v_u_right v_u_taken a_u_vars a_u_marks a_u_outcomes a_u_indexes v_s_things v_s_looked v_s_lookedTooOften v_s_arraysMade v_s_cellsMade a_s_classes a_s_starts a_s_lengths a_s_cells a_L a_K a_vc a_vd a_si a_sj a_iv a_inn a_ac) s.heap.size := ⟨_, rfl⟩
  rw [← hAe] at hD hE
  have hA : ∀ q : Nat, s.heap.size ≤ q → A q := fun q h => by rw [hAe]; exact Or.inr h
  have hS : va_S A s.heap s.heap [] := va_S.rf
  have hl := lv_entry ([.ref (q 8), .ref (K 0 s9)]) (n := 2) (Nat.le_of_ble_eq_true rfl)
  rw [lg_entry_eq]
  generalize (lg_sl ([.ref (q 8), .ref (K 0 s9)]) ++ List.replicate (2 - (lg_sl ([.ref (q 8), .ref (K 0 s9)])).length) Slot.unset).toArray = ls at hl ⊢
  have hl : lv_has ls 2 [(0, .ref (q 8)), (1, .ref (K 0 s9))] := hl
  refine wq (fun Q hQ => ?_)
  have kc0 : (0 : Int32).toInt = 0 := by decide
  have kc1 : (1 : Int32).toInt = 1 := by decide
  obtain ⟨H, hH⟩ : ∃ H : Heap, H = s.heap := ⟨_, rfl⟩
  obtain ⟨locs, hlc⟩ : ∃ L : List Loc, L = [] := ⟨_, rfl⟩
  have hP : va_P D vwCl (tw cs q v_t_tapeSize v_t_textSize v_t_faultKind a_t_tape a_t_text a_g_beyond v_g_size a_g_steps a_h_beyond v_h_size a_h_steps a_r_scratch a_r_now v_r_takes v_r_negative v_r_namePlace v_r_faultKind v_r_faultPlace v_a_size v_a_limit v_a_digits v_a_kind v_a_from v_a_to v_o_size a_o_out v_b_size v_b_limit v_b_digits v_b_kind v_b_from v_b_to a_u_atom a_u_other a_u_hand v_u_marksMade v_u_came v_u_guesses v_u_right v_u_taken a_u_vars a_u_marks a_u_outcomes a_u_indexes v_s_things v_s_looked v_s_lookedTooOften v_s_arraysMade v_s_cellsMade a_s_classes a_s_starts a_s_lengths a_s_cells a_L a_K a_vc a_vd a_si a_sj a_iv a_inn a_ac) H := by rw [hH]; exact hP
  have hS : va_S A s.heap H locs := by rw [hH, hlc]; exact hS
  refine wHL hH hlc ?_
  have st_s9 := hE.str hs_s9
  have ln_s9 := sOf_len hs_s9
  refine lv_aload_n hx hb dX1_isWord_0 rfl (lv_at hl 0 rfl) ?_
  refine lv_aload_n hx hb dX1_isWord_1 rfl (lv_at hl 1 rfl) ?_
  refine call_i (As := [.ref (K 0 s9)]) (rest := []) ⟨hx, hb, hml, hown, hts⟩ (tX1_wordIn_qa (l := l) s9 hs_s9 (by first | assumption | omega | (intros; omega) | decide)) (cwV 1 hts (gV (wr14 _ (List.mem_of_getElem? (i := 11) rfl)) (wr14 _ (List.mem_of_getElem? (i := 12) rfl)) (wr14 _ (List.mem_of_getElem? (i := 13) rfl)) (wr2 _ (List.mem_of_getElem? (i := 2) rfl)) (wr14 _ (List.mem_of_getElem? (i := 14) rfl))) rfl rfl rfl (by decide +kernel) ⟨Nat.le_of_ble_eq_true rfl, Nat.le_of_ble_eq_true rfl⟩) (va_recv hK hP (ci := 0) (q0 := 8) rfl rfl) hK hP hD hE hS hA rfl hl.1 rfl (Nat.le_of_ble_eq_true rfl) dX1_isWord_2 ⟨Nat.le_of_ble_eq_true rfl, Nat.le_of_ble_eq_true rfl⟩ (fun r2 w9 H locs hw2 hP hD hS => ?_)
  obtain ⟨rfl, hw2_0, hw2_1⟩ := hw2
  have b_r2 := iB r2
  refine m_if_ne (X := r2.toInt) (tgt := 12) hx hb dX1_isWord_5 (by decide) rfl (fun c5 => ?_) (fun c5 => ?_)
  · skip
    refine lv_iconst (v := 0) hx hb dX1_isWord_12 (by decide) ?_
    subst hAe
    rw [hQ]
    exact W.zret (v := 0) hx hb hr (by decide) (fun t ht hW => ⟨⟨0, _, rfl, ⟨rfl, by first | assumption | omega | (intros; omega) | decide⟩, by rw [ht]; exact hP, va_K.moved hW.alike hK, hD⟩, hS.F ht⟩) hS.2.2 dX1_isWord_13
  · skip
    refine lv_iconst (v := 1) hx hb dX1_isWord_8 (by decide) ?_
    refine lv_goto (tgt := 13) hx hb dX1_isWord_9 (by decide) ?_
    subst hAe
    rw [hQ]
    exact W.zret (v := 1) hx hb hr (by decide) (fun t ht hW => ⟨⟨1, _, rfl, ⟨rfl, by first | assumption | omega | (intros; omega) | decide⟩, by rw [ht]; exact hP, va_K.moved hW.alike hK, hD⟩, hS.F ht⟩) hS.2.2 dX1_isWord_13

def rmX1_numberKind_qa : Room := { frames := 100, cells := 0, slots := 0, locals := 2000 }
set_option maxHeartbeats 4000000 in
set_option maxRecDepth 100000 in
theorem tX1_numberKind_qa {l : Launch} {D : va_G} {K : Nat → Nat → Nat} {cs : Nat → ClassId} {q : Nat → Nat} {v_t_tapeSize v_t_textSize v_t_faultKind v_g_size v_h_size v_r_takes v_r_negative v_r_namePlace v_r_faultKind v_r_faultPlace v_a_size v_a_limit v_a_digits v_a_kind v_a_from v_a_to v_o_size v_b_size v_b_limit v_b_digits v_b_kind v_b_from v_b_to v_u_marksMade v_u_came v_u_guesses v_u_right v_u_taken v_s_things v_s_looked v_s_lookedTooOften v_s_arraysMade v_s_cellsMade : Int32} {a_t_tape a_t_text a_o_out a_u_outcomes a_u_indexes a_s_classes a_s_starts a_s_lengths a_vc : Nat → Int32} {a_g_beyond a_h_beyond a_r_scratch a_r_now a_u_atom a_u_other a_u_hand : Nat} {a_g_steps a_h_steps a_u_vars a_u_marks : Nat → Option Nat} {a_s_cells a_vd a_sj : Nat → Int64} {a_L : List Nat} {a_K a_iv a_inn : Nat → Nat} {a_si a_ac : Nat → Nat → Int32} (p_0 : LI 3100 v_a_size v_a_limit v_a_digits v_a_kind v_a_from v_a_to) (p_1 : v_a_kind.toInt = 3) : CtI l yX1_numberKind (wG yX1_numberKind cX1_numberKind 1 (some .int)) rmX1_numberKind_qa D (twT cs) K [.ref (q 8)] (tw cs q v_t_tapeSize v_t_textSize v_t_faultKind a_t_tape a_t_text a_g_beyond v_g_size a_g_steps a_h_beyond v_h_size a_h_steps a_r_scratch a_r_now v_r_takes v_r_negative v_r_namePlace v_r_faultKind v_r_faultPlace v_a_size v_a_limit v_a_digits v_a_kind v_a_from v_a_to v_o_size a_o_out v_b_size v_b_limit v_b_digits v_b_kind v_b_from v_b_to a_u_atom a_u_other a_u_hand v_u_marksMade v_u_came v_u_guesses v_u_right v_u_taken a_u_vars a_u_marks a_u_outcomes a_u_indexes v_s_things v_s_looked v_s_lookedTooOften v_s_arraysMade v_s_cellsMade a_s_classes a_s_starts a_s_lengths a_s_cells a_L a_K a_vc a_vd a_si a_sj a_iv a_inn a_ac) (fun r w1 => w1 = (tw cs q v_t_tapeSize v_t_textSize v_t_faultKind a_t_tape a_t_text a_g_beyond v_g_size a_g_steps a_h_beyond v_h_size a_h_steps a_r_scratch a_r_now v_r_takes v_r_negative v_r_namePlace v_r_faultKind v_r_faultPlace v_a_size v_a_limit v_a_digits v_a_kind v_a_from v_a_to v_o_size a_o_out v_b_size v_b_limit v_b_digits v_b_kind v_b_from v_b_to a_u_atom a_u_other a_u_hand v_u_marksMade v_u_came v_u_guesses v_u_right v_u_taken a_u_vars a_u_marks a_u_outcomes a_u_indexes v_s_things v_s_looked v_s_lookedTooOften v_s_arraysMade v_s_cellsMade a_s_classes a_s_starts a_s_lengths a_s_cells a_L a_K a_vc a_vd a_si a_sj a_iv a_inn a_ac)) 0 0 := by
  intro sz
  refine Met.ofW (cc := cX1_numberKind) (maxL := 1) (ret := (some .int)) (by decide) rfl ?_
  intro p e s m args below meth c s₁ B hml hv
  obtain ⟨rfl, hsz, hP, hK, hD0, hE⟩ := hv
  have hx := B.exec
  have hb := B.bytes
  have hr := B.returns
  have hts := atoms_spec (ws := (wG yX1_numberKind cX1_numberKind 1 (some .int))) B.pre
  have hown : s.vm.findClass RX1 = some m.cls := findClass_of_methodNamed B.named
  have hlocks := B.notSynchronized
  subst hsz
  have hD := hD0.self (sz := s.heap.size)
  obtain ⟨A, hAe⟩ : ∃ A : Nat → Prop, A = va_A (tw cs q v_t_tapeSize v_t_textSize v_t_faultKind a_t_tape a_t_text a_g_beyond v_g_size a_g_steps a_h_beyond v_h_size a_h_steps a_r_scratch a_r_now v_r_takes v_r_negative v_r_namePlace v_r_faultKind v_r_faultPlace v_a_size v_a_limit v_a_digits v_a_kind v_a_from v_a_to v_o_size a_o_out v_b_size v_b_limit v_b_digits v_b_kind v_b_from v_b_to a_u_atom a_u_other a_u_hand v_u_marksMade v_u_came v_u_guesses v_u_right v_u_taken a_u_vars a_u_marks a_u_outcomes a_u_indexes v_s_things v_s_looked v_s_lookedTooOften v_s_arraysMade v_s_cellsMade a_s_classes a_s_starts a_s_lengths a_s_cells a_L a_K a_vc a_vd a_si a_sj a_iv a_inn a_ac) s.heap.size := ⟨_, rfl⟩
  rw [← hAe] at hD hE
  have hA : ∀ q : Nat, s.heap.size ≤ q → A q := fun q h => by rw [hAe]; exact Or.inr h
  have hS : va_S A s.heap s.heap [] := va_S.rf
  have hl := lv_entry ([.ref (q 8)]) (n := 1) (Nat.le_of_ble_eq_true rfl)
  rw [lg_entry_eq]
  generalize (lg_sl ([.ref (q 8)]) ++ List.replicate (1 - (lg_sl ([.ref (q 8)])).length) Slot.unset).toArray = ls at hl ⊢
  have hl : lv_has ls 1 [(0, .ref (q 8))] := hl
  refine wq (fun Q hQ => ?_)
  have hinX1 : ∀ w ∈ wsX10, w ∈ (wG yX1_numberKind cX1_numberKind 1 (some .int)) := fun w h => List.mem_cons_of_mem _ (inlX1 w h)
  have kc0 : (4 : Int32).toInt = 4 := by decide
  have k_9_21 := hts (.fieldLink RX1 34 "ArrayTrainer$Lexer" "from" "I") (List.mem_cons_of_mem _ (wr9 _ (List.mem_of_getElem? (i := 21) rfl)))
  have k_10_6 := hts (.fieldLink RX1 51 "ArrayTrainer$Lexer" "digits" "I") (List.mem_cons_of_mem _ (wr10 _ (List.mem_of_getElem? (i := 6) rfl)))
  have k_9_16 := hts (.fieldLink RX1 31 "ArrayTrainer$Lexer" "to" "I") (List.mem_cons_of_mem _ (wr9 _ (List.mem_of_getElem? (i := 16) rfl)))
  have k_3_6 := hts (.fieldLink RX1 9 "ArrayTrainer$Lexer" "text" "[B") (List.mem_cons_of_mem _ (wr3 _ (List.mem_of_getElem? (i := 6) rfl)))
  obtain ⟨H, hH⟩ : ∃ H : Heap, H = s.heap := ⟨_, rfl⟩
  obtain ⟨locs, hlc⟩ : ∃ L : List Loc, L = [] := ⟨_, rfl⟩
  have hP : va_P D vwCl (tw cs q v_t_tapeSize v_t_textSize v_t_faultKind a_t_tape a_t_text a_g_beyond v_g_size a_g_steps a_h_beyond v_h_size a_h_steps a_r_scratch a_r_now v_r_takes v_r_negative v_r_namePlace v_r_faultKind v_r_faultPlace v_a_size v_a_limit v_a_digits v_a_kind v_a_from v_a_to v_o_size a_o_out v_b_size v_b_limit v_b_digits v_b_kind v_b_from v_b_to a_u_atom a_u_other a_u_hand v_u_marksMade v_u_came v_u_guesses v_u_right v_u_taken a_u_vars a_u_marks a_u_outcomes a_u_indexes v_s_things v_s_looked v_s_lookedTooOften v_s_arraysMade v_s_cellsMade a_s_classes a_s_starts a_s_lengths a_s_cells a_L a_K a_vc a_vd a_si a_sj a_iv a_inn a_ac) H := by rw [hH]; exact hP
  have hS : va_S A s.heap H locs := by rw [hH, hlc]; exact hS
  refine wHL hH hlc ?_
  obtain ⟨⟨h1, h2⟩, ⟨h3, h4⟩, ⟨h5, h6⟩, ⟨h7, h8⟩, h9, h10⟩ := id p_0
  refine lv_aload_n hx hb dX1_numberKind_0 rfl (lv_at hl 0 rfl) ?_
  refine va_get (D := D) (ci := 0) (v := .int v_a_from) (C := RX1) (T := TX1) (N := 7) hx hb hts hinX1 hown hK hP 8 rfl rfl 5 (by decide) k_9_21 (fun _ h9 => h9) rfl dX1_numberKind_1 ?_
  refine lv_aload_n hx hb dX1_numberKind_4 rfl (lv_at hl 0 rfl) ?_
  refine va_get (D := D) (ci := 0) (v := .int v_a_digits) (C := RX1) (T := TX1) (N := 7) hx hb hts hinX1 hown hK hP 8 rfl rfl 3 (by decide) k_10_6 (fun _ h9 => h9) rfl dX1_numberKind_5 ?_
  refine m_iadd (X := v_a_from.toInt) (Y := v_a_digits.toInt) hx hb dX1_numberKind_8 rfl rfl (fun x8 e_x8 g9 => ?_)
  obtain ⟨k_x8, g_x8⟩ := g9
  have b_x8 := iB x8
  try (have q_x8 : x8.toInt = v_a_from.toInt + v_a_digits.toInt := (by omega); clear g_x8 k_x8)
  refine lv_aload_n hx hb dX1_numberKind_9 rfl (lv_at hl 0 rfl) ?_
  refine va_get (D := D) (ci := 0) (v := .int v_a_to) (C := RX1) (T := TX1) (N := 7) hx hb hts hinX1 hown hK hP 8 rfl rfl 6 (by decide) k_9_16 (fun _ h9 => h9) rfl dX1_numberKind_10 ?_
  refine m_icmp_ge (X := x8.toInt) (Y := v_a_to.toInt) (tgt := 39) hx hb dX1_numberKind_13 (by decide) rfl rfl (fun c13 => ?_) (fun c13 => ?_)
  · skip
    refine lv_iconst (v := 4) hx hb dX1_numberKind_39 (by decide) ?_
    subst hAe
    rw [hQ]
    exact W.iret (v := 4) hx hb hr (fun t ht hW => ⟨⟨4, _, rfl, rfl, by rw [ht]; exact hP, va_K.moved hW.alike hK, hD⟩, hS.F ht⟩) hS.2.2 dX1_numberKind_40
  · skip
    refine va_ldcS hx hb hown (ld_0 hE) dX1_numberKind_16 ?_
    refine lv_aload_n hx hb dX1_numberKind_18 rfl (lv_at hl 0 rfl) ?_
    refine va_get (D := D) (ci := 0) (v := .ref (q 1)) (C := RX1) (T := TX1) (N := 7) hx hb hts hinX1 hown hK hP 8 rfl rfl 0 (by decide) k_3_6 (fun _ h9 => h9) rfl dX1_numberKind_19 ?_
    refine lv_aload_n hx hb dX1_numberKind_22 rfl (lv_at hl 0 rfl) ?_
    refine va_get (D := D) (ci := 0) (v := .int v_a_from) (C := RX1) (T := TX1) (N := 7) hx hb hts hinX1 hown hK hP 8 rfl rfl 5 (by decide) k_9_21 (fun _ h9 => h9) rfl dX1_numberKind_23 ?_
    refine lv_aload_n hx hb dX1_numberKind_26 rfl (lv_at hl 0 rfl) ?_
    refine va_get (D := D) (ci := 0) (v := .int v_a_digits) (C := RX1) (T := TX1) (N := 7) hx hb hts hinX1 hown hK hP 8 rfl rfl 3 (by decide) k_10_6 (fun _ h9 => h9) rfl dX1_numberKind_27 ?_
    refine m_iadd (X := v_a_from.toInt) (Y := v_a_digits.toInt) hx hb dX1_numberKind_30 rfl rfl (fun x30 e_x30 g9 => ?_)
    obtain ⟨k_x30, g_x30⟩ := g9
    have b_x30 := iB x30
    try (have q_x30 : x30.toInt = v_a_from.toInt + v_a_digits.toInt := (by omega); clear g_x30 k_x30)
    refine m_bald hx hb hK hP 1 2 rfl rfl (ix (by omega) (by omega)) dX1_numberKind_31 (fun x31 e_x31 => ?_)
    have b_x31 := iB x31
    refine m_i2c hx hb dX1_numberKind_32 (fun x32 e_x32 => ?_)
    have b_x32 := iB x32
    refine call_iP (As := [.int x32]) (rest := []) ⟨hx, hb, hml, hown, hts⟩ (tJ0_indexOf_0f7a4 (l := l) 0 so_0 x32) (cwV 1 hts (gV (wr10 _ (List.mem_of_getElem? (i := 7) rfl)) (wr10 _ (List.mem_of_getElem? (i := 8) rfl)) (wr10 _ (List.mem_of_getElem? (i := 9) rfl)) (wr10 _ (List.mem_of_getElem? (i := 10) rfl)) (wr10 _ (List.mem_of_getElem? (i := 11) rfl))) rfl rfl rfl (by decide +kernel) ⟨Nat.le_of_ble_eq_true rfl, Nat.le_of_ble_eq_true rfl⟩) (sRecv (hE.str so_0) hS) (hK.sub [] rfl) hP hD hE hS hA rfl hl.1 rfl (Nat.le_of_ble_eq_true rfl) dX1_numberKind_33 ⟨Nat.le_of_ble_eq_true rfl, Nat.le_of_ble_eq_true rfl⟩ (fun r33 w9 H locs hw33 hP hD hS => ?_)
    obtain ⟨rfl⟩ := hw33
    have b_r33 := iB r33
    refine lv_goto (tgt := 40) hx hb dX1_numberKind_36 (by decide) ?_
    subst hAe
    rw [hQ]
    exact W.iret (v := r33) hx hb hr (fun t ht hW => ⟨⟨r33, _, rfl, rfl, by rw [ht]; exact hP, va_K.moved hW.alike hK, hD⟩, hS.F ht⟩) hS.2.2 dX1_numberKind_40

def rmX1_magnitude_qa : Room := { frames := 20, cells := 0, slots := 0, locals := 400 }
set_option maxHeartbeats 4000000 in
set_option maxRecDepth 100000 in
theorem tX1_magnitude_qa {l : Launch} {D : va_G} {K : Nat → Nat → Nat} {cs : Nat → ClassId} {q : Nat → Nat} {v_t_tapeSize v_t_textSize v_t_faultKind v_g_size v_h_size v_r_takes v_r_negative v_r_namePlace v_r_faultKind v_r_faultPlace v_a_size v_a_limit v_a_digits v_a_kind v_a_from v_a_to v_o_size v_b_size v_b_limit v_b_digits v_b_kind v_b_from v_b_to v_u_marksMade v_u_came v_u_guesses v_u_right v_u_taken v_s_things v_s_looked v_s_lookedTooOften v_s_arraysMade v_s_cellsMade : Int32} {a_t_tape a_t_text a_o_out a_u_outcomes a_u_indexes a_s_classes a_s_starts a_s_lengths a_vc : Nat → Int32} {a_g_beyond a_h_beyond a_r_scratch a_r_now a_u_atom a_u_other a_u_hand : Nat} {a_g_steps a_h_steps a_u_vars a_u_marks : Nat → Option Nat} {a_s_cells a_vd a_sj : Nat → Int64} {a_L : List Nat} {a_K a_iv a_inn : Nat → Nat} {a_si a_ac : Nat → Nat → Int32} (p_0 : LI 3100 v_a_size v_a_limit v_a_digits v_a_kind v_a_from v_a_to) : CtJ l yX1_magnitude (wG yX1_magnitude cX1_magnitude 4 (some .long)) rmX1_magnitude_qa D (twT cs) K [.ref (q 8)] (tw cs q v_t_tapeSize v_t_textSize v_t_faultKind a_t_tape a_t_text a_g_beyond v_g_size a_g_steps a_h_beyond v_h_size a_h_steps a_r_scratch a_r_now v_r_takes v_r_negative v_r_namePlace v_r_faultKind v_r_faultPlace v_a_size v_a_limit v_a_digits v_a_kind v_a_from v_a_to v_o_size a_o_out v_b_size v_b_limit v_b_digits v_b_kind v_b_from v_b_to a_u_atom a_u_other a_u_hand v_u_marksMade v_u_came v_u_guesses v_u_right v_u_taken a_u_vars a_u_marks a_u_outcomes a_u_indexes v_s_things v_s_looked v_s_lookedTooOften v_s_arraysMade v_s_cellsMade a_s_classes a_s_starts a_s_lengths a_s_cells a_L a_K a_vc a_vd a_si a_sj a_iv a_inn a_ac) (fun r w1 => w1 = (tw cs q v_t_tapeSize v_t_textSize v_t_faultKind a_t_tape a_t_text a_g_beyond v_g_size a_g_steps a_h_beyond v_h_size a_h_steps a_r_scratch a_r_now v_r_takes v_r_negative v_r_namePlace v_r_faultKind v_r_faultPlace v_a_size v_a_limit v_a_digits v_a_kind v_a_from v_a_to v_o_size a_o_out v_b_size v_b_limit v_b_digits v_b_kind v_b_from v_b_to a_u_atom a_u_other a_u_hand v_u_marksMade v_u_came v_u_guesses v_u_right v_u_taken a_u_vars a_u_marks a_u_outcomes a_u_indexes v_s_things v_s_looked v_s_lookedTooOften v_s_arraysMade v_s_cellsMade a_s_classes a_s_starts a_s_lengths a_s_cells a_L a_K a_vc a_vd a_si a_sj a_iv a_inn a_ac)) 0 0 := by
  intro sz
  refine Met.ofW (cc := cX1_magnitude) (maxL := 4) (ret := (some .long)) (by decide) rfl ?_
  intro p e s m args below meth c s₁ B hml hv
  obtain ⟨rfl, hsz, hP, hK, hD0, hE⟩ := hv
  have hx := B.exec
  have hb := B.bytes
  have hr := B.returns
  have hts := atoms_spec (ws := (wG yX1_magnitude cX1_magnitude 4 (some .long))) B.pre
  have hown : s.vm.findClass RX1 = some m.cls := findClass_of_methodNamed B.named
  have hlocks := B.notSynchronized
  subst hsz
  have hD := hD0.self (sz := s.heap.size)
  obtain ⟨A, hAe⟩ : ∃ A : Nat → Prop, A = va_A (tw cs q v_t_tapeSize v_t_textSize v_t_faultKind a_t_tape a_t_text a_g_beyond v_g_size a_g_steps a_h_beyond v_h_size a_h_steps a_r_scratch a_r_now v_r_takes v_r_negative v_r_namePlace v_r_faultKind v_r_faultPlace v_a_size v_a_limit v_a_digits v_a_kind v_a_from v_a_to v_o_size a_o_out v_b_size v_b_limit v_b_digits v_b_kind v_b_from v_b_to a_u_atom a_u_other a_u_hand v_u_marksMade v_u_came v_u_guesses v_u_right v_u_taken a_u_vars a_u_marks a_u_outcomes a_u_indexes v_s_things v_s_looked v_s_lookedTooOften v_s_arraysMade v_s_cellsMade a_s_classes a_s_starts a_s_lengths a_s_cells a_L a_K a_vc a_vd a_si a_sj a_iv a_inn a_ac) s.heap.size := ⟨_, rfl⟩
  rw [← hAe] at hD hE
  have hA : ∀ q : Nat, s.heap.size ≤ q → A q := fun q h => by rw [hAe]; exact Or.inr h
  have hS : va_S A s.heap s.heap [] := va_S.rf
  have hl := lv_entry ([.ref (q 8)]) (n := 4) (Nat.le_of_ble_eq_true rfl)
  rw [lg_entry_eq]
  generalize (lg_sl ([.ref (q 8)]) ++ List.replicate (4 - (lg_sl ([.ref (q 8)])).length) Slot.unset).toArray = ls at hl ⊢
  have hl : lv_has ls 4 [(0, .ref (q 8))] := hl
  refine wq (fun Q hQ => ?_)
  have hinX1 : ∀ w ∈ wsX10, w ∈ (wG yX1_magnitude cX1_magnitude 4 (some .long)) := fun w h => List.mem_cons_of_mem _ (inlX1 w h)
  have kc0 : (48 : Int32).toInt = 48 := by decide
  have kc1 : (0 : Int64).toInt = 0 := by decide
  have kc2 : (10 : Int64).toInt = 10 := by decide
  have k_9_21 := hts (.fieldLink RX1 34 "ArrayTrainer$Lexer" "from" "I") (List.mem_cons_of_mem _ (wr9 _ (List.mem_of_getElem? (i := 21) rfl)))
  have k_10_6 := hts (.fieldLink RX1 51 "ArrayTrainer$Lexer" "digits" "I") (List.mem_cons_of_mem _ (wr10 _ (List.mem_of_getElem? (i := 6) rfl)))
  have k_9_14 := hts (.fieldLink RX1 24 "ArrayTrainer$Lexer" "size" "I") (List.mem_cons_of_mem _ (wr9 _ (List.mem_of_getElem? (i := 14) rfl)))
  have k_20_7 := hts (.constantLong RX1 81 (10)) (List.mem_cons_of_mem _ (wr20 _ (List.mem_of_getElem? (i := 7) rfl)))
  have k_3_6 := hts (.fieldLink RX1 9 "ArrayTrainer$Lexer" "text" "[B") (List.mem_cons_of_mem _ (wr3 _ (List.mem_of_getElem? (i := 6) rfl)))
  obtain ⟨H, hH⟩ : ∃ H : Heap, H = s.heap := ⟨_, rfl⟩
  obtain ⟨locs, hlc⟩ : ∃ L : List Loc, L = [] := ⟨_, rfl⟩
  have hP : va_P D vwCl (tw cs q v_t_tapeSize v_t_textSize v_t_faultKind a_t_tape a_t_text a_g_beyond v_g_size a_g_steps a_h_beyond v_h_size a_h_steps a_r_scratch a_r_now v_r_takes v_r_negative v_r_namePlace v_r_faultKind v_r_faultPlace v_a_size v_a_limit v_a_digits v_a_kind v_a_from v_a_to v_o_size a_o_out v_b_size v_b_limit v_b_digits v_b_kind v_b_from v_b_to a_u_atom a_u_other a_u_hand v_u_marksMade v_u_came v_u_guesses v_u_right v_u_taken a_u_vars a_u_marks a_u_outcomes a_u_indexes v_s_things v_s_looked v_s_lookedTooOften v_s_arraysMade v_s_cellsMade a_s_classes a_s_starts a_s_lengths a_s_cells a_L a_K a_vc a_vd a_si a_sj a_iv a_inn a_ac) H := by rw [hH]; exact hP
  have hS : va_S A s.heap H locs := by rw [hH, hlc]; exact hS
  refine wHL hH hlc ?_
  obtain ⟨⟨h1, h2⟩, ⟨h3, h4⟩, ⟨h5, h6⟩, ⟨h7, h8⟩, h9, h10⟩ := id p_0
  refine lv_lconst (v := 0) hx hb dX1_magnitude_0 (by decide) ?_
  refine lv_lstore_n (lv' := [(1, .long 0), (0, .ref (q 8))]) hx hb dX1_magnitude_1 rfl hl (by decide) rfl (fun ls hl => ?_)
  refine lv_aload_n hx hb dX1_magnitude_2 rfl (lv_at hl 1 rfl) ?_
  refine va_get (D := D) (ci := 0) (v := .int v_a_from) (C := RX1) (T := TX1) (N := 7) hx hb hts hinX1 hown hK hP 8 rfl rfl 5 (by decide) k_9_21 (fun _ h9 => h9) rfl dX1_magnitude_3 ?_
  refine lv_istore_n (lv' := [(3, .int v_a_from), (1, .long 0), (0, .ref (q 8))]) hx hb dX1_magnitude_6 rfl hl (by decide) rfl (fun ls hl => ?_)
  have J7 : ∀ (n7 : Nat) (l1_7 : Int64) (l3_7 : Int32) (H : Heap) (locs : List Loc) (ls : Array Slot), (v_a_from.toInt ≤ l3_7.toInt) → (l3_7.toInt ≤ v_a_from.toInt + v_a_digits.toInt) → (v_a_from.toInt + v_a_digits.toInt - l3_7.toInt < (n7 : Int)) → va_P D vwCl (tw cs q v_t_tapeSize v_t_textSize v_t_faultKind a_t_tape a_t_text a_g_beyond v_g_size a_g_steps a_h_beyond v_h_size a_h_steps a_r_scratch a_r_now v_r_takes v_r_negative v_r_namePlace v_r_faultKind v_r_faultPlace v_a_size v_a_limit v_a_digits v_a_kind v_a_from v_a_to v_o_size a_o_out v_b_size v_b_limit v_b_digits v_b_kind v_b_from v_b_to a_u_atom a_u_other a_u_hand v_u_marksMade v_u_came v_u_guesses v_u_right v_u_taken a_u_vars a_u_marks a_u_outcomes a_u_indexes v_s_things v_s_looked v_s_lookedTooOften v_s_arraysMade v_s_cellsMade a_s_classes a_s_starts a_s_lengths a_s_cells a_L a_K a_vc a_vd a_si a_sj a_iv a_inn a_ac) H → va_D A (tw cs q v_t_tapeSize v_t_textSize v_t_faultKind a_t_tape a_t_text a_g_beyond v_g_size a_g_steps a_h_beyond v_h_size a_h_steps a_r_scratch a_r_now v_r_takes v_r_negative v_r_namePlace v_r_faultKind v_r_faultPlace v_a_size v_a_limit v_a_digits v_a_kind v_a_from v_a_to v_o_size a_o_out v_b_size v_b_limit v_b_digits v_b_kind v_b_from v_b_to a_u_atom a_u_other a_u_hand v_u_marksMade v_u_came v_u_guesses v_u_right v_u_taken a_u_vars a_u_marks a_u_outcomes a_u_indexes v_s_things v_s_looked v_s_lookedTooOften v_s_arraysMade v_s_cellsMade a_s_classes a_s_starts a_s_lengths a_s_cells a_L a_K a_vc a_vd a_si a_sj a_iv a_inn a_ac) → va_S A s.heap H locs → lv_has ls 4 [(0, .ref (q 8)), (1, .long l1_7), (3, .int l3_7)] → W p l e (headSpec (wG yX1_magnitude cX1_magnitude 4 (some .long)) rmX1_magnitude_qa).room s m ([.ref (q 8)] : List Value).toArray below meth c H locs 0 0 Q (F0 m 7 ls []) := by
    intro n7
    induction n7 with
    | zero =>
      intro l1_7 l3_7 H locs ls f7_0 f7_1 hm7
      exfalso
      omega
    | succ n7 ih7 =>
      intro l1_7 l3_7 H locs ls f7_0 f7_1 hm7 hP hD hS hl
      refine lv_iload_n hx hb dX1_magnitude_7 rfl (lv_at hl 2 rfl) ?_
      refine lv_aload_n hx hb dX1_magnitude_8 rfl (lv_at hl 0 rfl) ?_
      refine va_get (D := D) (ci := 0) (v := .int v_a_from) (C := RX1) (T := TX1) (N := 7) hx hb hts hinX1 hown hK hP 8 rfl rfl 5 (by decide) k_9_21 (fun _ h9 => h9) rfl dX1_magnitude_9 ?_
      refine lv_aload_n hx hb dX1_magnitude_12 rfl (lv_at hl 0 rfl) ?_
      refine va_get (D := D) (ci := 0) (v := .int v_a_digits) (C := RX1) (T := TX1) (N := 7) hx hb hts hinX1 hown hK hP 8 rfl rfl 3 (by decide) k_10_6 (fun _ h9 => h9) rfl dX1_magnitude_13 ?_
      refine m_iadd (X := v_a_from.toInt) (Y := v_a_digits.toInt) hx hb dX1_magnitude_16 rfl rfl (fun x16 e_x16 g9 => ?_)
      obtain ⟨k_x16, g_x16⟩ := g9
      have b_x16 := iB x16
      try (have q_x16 : x16.toInt = v_a_from.toInt + v_a_digits.toInt := (by omega); clear g_x16 k_x16)
      refine m_icmp_ge (X := l3_7.toInt) (Y := x16.toInt) (tgt := 51) hx hb dX1_magnitude_17 (by decide) rfl rfl (fun c17 => ?_) (fun c17 => ?_)
      · skip
        refine lv_lload_n hx hb dX1_magnitude_51 rfl (lv_at hl 1 rfl) ?_
        subst hAe
        rw [hQ]
        exact W.lret (v := l1_7) hx hb hr (fun t ht hW => ⟨⟨l1_7, _, rfl, rfl, by rw [ht]; exact hP, va_K.moved hW.alike hK, hD⟩, hS.F ht⟩) hS.2.2 dX1_magnitude_52
      · skip
        refine lv_iload_n hx hb dX1_magnitude_20 rfl (lv_at hl 2 rfl) ?_
        refine lv_aload_n hx hb dX1_magnitude_21 rfl (lv_at hl 0 rfl) ?_
        refine va_get (D := D) (ci := 0) (v := .int v_a_size) (C := RX1) (T := TX1) (N := 7) hx hb hts hinX1 hown hK hP 8 rfl rfl 1 (by decide) k_9_14 (fun _ h9 => h9) rfl dX1_magnitude_22 ?_
        refine m_icmp_ge (X := l3_7.toInt) (Y := v_a_size.toInt) (tgt := 51) hx hb dX1_magnitude_25 (by decide) rfl rfl (fun c25 => ?_) (fun c25 => ?_)
        · skip
          refine lv_lload_n hx hb dX1_magnitude_51 rfl (lv_at hl 1 rfl) ?_
          subst hAe
          rw [hQ]
          exact W.lret (v := l1_7) hx hb hr (fun t ht hW => ⟨⟨l1_7, _, rfl, rfl, by rw [ht]; exact hP, va_K.moved hW.alike hK, hD⟩, hS.F ht⟩) hS.2.2 dX1_magnitude_52
        · skip
          refine lv_lload_n hx hb dX1_magnitude_28 rfl (lv_at hl 1 rfl) ?_
          refine lv_ldc2 (v := 10) hx hb hown k_20_7 dX1_magnitude_29 ?_
          refine m_lmul (X := l1_7.toInt) (Y := 10) hx hb dX1_magnitude_32 rfl (by decide) (fun x32 e_x32 g9 => ?_)
          obtain ⟨k_x32, g_x32⟩ := g9
          have b_x32 := jB x32
          try (have q_x32 : x32.toInt = l1_7.toInt * 10 := (by omega); clear g_x32 k_x32)
          refine lv_aload_n hx hb dX1_magnitude_33 rfl (lv_at hl 0 rfl) ?_
          refine va_get (D := D) (ci := 0) (v := .ref (q 1)) (C := RX1) (T := TX1) (N := 7) hx hb hts hinX1 hown hK hP 8 rfl rfl 0 (by decide) k_3_6 (fun _ h9 => h9) rfl dX1_magnitude_34 ?_
          refine lv_iload_n hx hb dX1_magnitude_37 rfl (lv_at hl 2 rfl) ?_
          refine m_bald hx hb hK hP 1 2 rfl rfl (ix (by omega) (by omega)) dX1_magnitude_38 (fun x38 e_x38 => ?_)
          have b_x38 := iB x38
          refine lv_bipush (v := 48) hx hb dX1_magnitude_39 (by decide) ?_
          refine m_isub (X := x38.toInt) (Y := 48) hx hb dX1_magnitude_41 rfl (by decide) (fun x41 e_x41 g9 => ?_)
          obtain ⟨k_x41, g_x41⟩ := g9
          have b_x41 := iB x41
          try (have q_x41 : x41.toInt = x38.toInt - 48 := (by omega); clear g_x41 k_x41)
          refine m_i2l (X := x41.toInt) hx hb dX1_magnitude_42 rfl (fun x42 e_x42 g_x42 => ?_)
          refine m_ladd (X := x32.toInt) (Y := x42.toInt) hx hb dX1_magnitude_43 rfl rfl (fun x43 e_x43 g9 => ?_)
          obtain ⟨k_x43, g_x43⟩ := g9
          have b_x43 := jB x43
          try (have q_x43 : x43.toInt = x32.toInt + x42.toInt := (by omega); clear g_x43 k_x43)
          refine lv_lstore_n (lv' := [(1, .long x43), (0, .ref (q 8)), (3, .int l3_7)]) hx hb dX1_magnitude_44 rfl hl (by decide) rfl (fun ls hl => ?_)
          obtain ⟨x45, e_x45⟩ : ∃ z : Int32, z = l3_7 + (1 : Int32) := ⟨_, rfl⟩
          obtain ⟨k_x45, g_x45⟩ : ∃ k : Int, x45.toInt = l3_7.toInt + (1) + k * 4294967296 := by rw [e_x45]; exact iAdd l3_7 (1)
          have b_x45 := iB x45
          try (have q_x45 : x45.toInt = l3_7.toInt + (1) := (by omega); clear g_x45 k_x45)
          refine lv_iinc (v := x45) (lv' := [(3, .int x45), (1, .long x43), (0, .ref (q 8))]) hx hb dX1_magnitude_45 hl (k := 2) rfl (by rw [e_x45]; rfl) (by decide) rfl (fun ls hl => ?_)
          refine lv_goto (tgt := 7) hx hb dX1_magnitude_48 (by decide) ?_
          exact ih7 x43 x45 H locs ls (by first | assumption | omega | (intros; omega) | decide) (by first | assumption | omega | (intros; omega) | decide) (by omega) hP hD hS (lv_sub hl [2, 1, 0] rfl)
  exact J7 ((v_a_from.toInt + v_a_digits.toInt - v_a_from.toInt).toNat + 1) (0 : Int64) v_a_from H locs ls (by first | assumption | omega | (intros; omega) | decide) (by first | assumption | omega | (intros; omega) | decide) (by omega) hP hD hS (lv_sub hl [2, 1, 0] rfl)

def rmX1_open_qb : Room := { frames := 20, cells := 0, slots := 0, locals := 400 }
set_option maxHeartbeats 4000000 in
set_option maxRecDepth 100000 in
theorem tX1_open_qb {l : Launch} {D : va_G} {K : Nat → Nat → Nat} {cs : Nat → ClassId} {q : Nat → Nat} {v_t_tapeSize v_t_textSize v_t_faultKind v_g_size v_h_size v_r_takes v_r_negative v_r_namePlace v_r_faultKind v_r_faultPlace v_a_size v_a_limit v_a_digits v_a_kind v_a_from v_a_to v_o_size v_b_size v_b_limit v_b_digits v_b_kind v_b_from v_b_to v_u_marksMade v_u_came v_u_guesses v_u_right v_u_taken v_s_things v_s_looked v_s_lookedTooOften v_s_arraysMade v_s_cellsMade : Int32} {a_t_tape a_t_text a_o_out a_u_outcomes a_u_indexes a_s_classes a_s_starts a_s_lengths a_vc : Nat → Int32} {a_g_beyond a_h_beyond a_r_scratch a_r_now a_u_atom a_u_other a_u_hand : Nat} {a_g_steps a_h_steps a_u_vars a_u_marks : Nat → Option Nat} {a_s_cells a_vd a_sj : Nat → Int64} {a_L : List Nat} {a_K a_iv a_inn : Nat → Nat} {a_si a_ac : Nat → Nat → Int32} (n9 : Int32) (m9 : Int32) (a9 : Int32) (p_0 : 0 ≤ v_b_digits.toInt) (p_1 : v_b_digits.toInt ≤ 3100) (p_2 : 0 ≤ m9.toInt) (p_3 : m9.toInt ≤ 3100) : CtV l yX1_open (wG yX1_open cX1_open 4 none) rmX1_open_qb D (twT cs) K [.ref (q 11), .int n9, .int m9, .int a9] (tw cs q v_t_tapeSize v_t_textSize v_t_faultKind a_t_tape a_t_text a_g_beyond v_g_size a_g_steps a_h_beyond v_h_size a_h_steps a_r_scratch a_r_now v_r_takes v_r_negative v_r_namePlace v_r_faultKind v_r_faultPlace v_a_size v_a_limit v_a_digits v_a_kind v_a_from v_a_to v_o_size a_o_out v_b_size v_b_limit v_b_digits v_b_kind v_b_from v_b_to a_u_atom a_u_other a_u_hand v_u_marksMade v_u_came v_u_guesses v_u_right v_u_taken a_u_vars a_u_marks a_u_outcomes a_u_indexes v_s_things v_s_looked v_s_lookedTooOften v_s_arraysMade v_s_cellsMade a_s_classes a_s_starts a_s_lengths a_s_cells a_L a_K a_vc a_vd a_si a_sj a_iv a_inn a_ac) (fun w1 => ∃ (v_b_size' : Int32) (v_b_limit' : Int32) (v_b_to' : Int32), w1 = (tw cs q v_t_tapeSize v_t_textSize v_t_faultKind a_t_tape a_t_text a_g_beyond v_g_size a_g_steps a_h_beyond v_h_size a_h_steps a_r_scratch a_r_now v_r_takes v_r_negative v_r_namePlace v_r_faultKind v_r_faultPlace v_a_size v_a_limit v_a_digits v_a_kind v_a_from v_a_to v_o_size a_o_out v_b_size' v_b_limit' v_b_digits v_b_kind v_b_from v_b_to' a_u_atom a_u_other a_u_hand v_u_marksMade v_u_came v_u_guesses v_u_right v_u_taken a_u_vars a_u_marks a_u_outcomes a_u_indexes v_s_things v_s_looked v_s_lookedTooOften v_s_arraysMade v_s_cellsMade a_s_classes a_s_starts a_s_lengths a_s_cells a_L a_K a_vc a_vd a_si a_sj a_iv a_inn a_ac) ∧ (LI0 3000 v_b_size' v_b_limit' v_b_digits v_b_to')) 0 0 := by
  intro sz
  refine Met.ofW (cc := cX1_open) (maxL := 4) (ret := none) (by decide) rfl ?_
  intro p e s m args below meth c s₁ B hml hv
  obtain ⟨rfl, hsz, hP, hK, hD0, hE⟩ := hv
  have hx := B.exec
  have hb := B.bytes
  have hr := B.returns
  have hts := atoms_spec (ws := (wG yX1_open cX1_open 4 none)) B.pre
  have hown : s.vm.findClass RX1 = some m.cls := findClass_of_methodNamed B.named
  have hlocks := B.notSynchronized
  subst hsz
  have hD := hD0.self (sz := s.heap.size)
  obtain ⟨A, hAe⟩ : ∃ A : Nat → Prop, A = va_A (tw cs q v_t_tapeSize v_t_textSize v_t_faultKind a_t_tape a_t_text a_g_beyond v_g_size a_g_steps a_h_beyond v_h_size a_h_steps a_r_scratch a_r_now v_r_takes v_r_negative v_r_namePlace v_r_faultKind v_r_faultPlace v_a_size v_a_limit v_a_digits v_a_kind v_a_from v_a_to v_o_size a_o_out v_b_size v_b_limit v_b_digits v_b_kind v_b_from v_b_to a_u_atom a_u_other a_u_hand v_u_marksMade v_u_came v_u_guesses v_u_right v_u_taken a_u_vars a_u_marks a_u_outcomes a_u_indexes v_s_things v_s_looked v_s_lookedTooOften v_s_arraysMade v_s_cellsMade a_s_classes a_s_starts a_s_lengths a_s_cells a_L a_K a_vc a_vd a_si a_sj a_iv a_inn a_ac) s.heap.size := ⟨_, rfl⟩
  rw [← hAe] at hD hE
  have hA : ∀ q : Nat, s.heap.size ≤ q → A q := fun q h => by rw [hAe]; exact Or.inr h
  have hS : va_S A s.heap s.heap [] := va_S.rf
  have hl := lv_entry ([.ref (q 11), .int n9, .int m9, .int a9]) (n := 4) (Nat.le_of_ble_eq_true rfl)
  rw [lg_entry_eq]
  generalize (lg_sl ([.ref (q 11), .int n9, .int m9, .int a9]) ++ List.replicate (4 - (lg_sl ([.ref (q 11), .int n9, .int m9, .int a9])).length) Slot.unset).toArray = ls at hl ⊢
  have hl : lv_has ls 4 [(0, .ref (q 11)), (1, .int n9), (2, .int m9), (3, .int a9)] := hl
  refine wq (fun Q hQ => ?_)
  have hinX1 : ∀ w ∈ wsX10, w ∈ (wG yX1_open cX1_open 4 none) := fun w h => List.mem_cons_of_mem _ (inlX1 w h)
  have kc0 : (0 : Int32).toInt = 0 := by decide
  have k_3_6 := hts (.fieldLink RX1 9 "ArrayTrainer$Lexer" "text" "[B") (List.mem_cons_of_mem _ (wr3 _ (List.mem_of_getElem? (i := 6) rfl)))
  have k_9_7 := hts (.methodLink RX1 15 Lib.Math.min.name) (List.mem_cons_of_mem _ (wr9 _ (List.mem_of_getElem? (i := 7) rfl)))
  have k_9_8 := hts (.static Lib.Math.min.name) (List.mem_cons_of_mem _ (wr9 _ (List.mem_of_getElem? (i := 8) rfl)))
  have k_9_9 := hts (.initialized "java/lang/Math") (List.mem_cons_of_mem _ (wr9 _ (List.mem_of_getElem? (i := 9) rfl)))
  have k_9_10 := hts (.code Lib.Math.min.name Lib.Math.min.code 2 (some .int)) (List.mem_cons_of_mem _ (wr9 _ (List.mem_of_getElem? (i := 10) rfl)))
  have k_9_11 := hts (.methodLink RX1 21 Lib.Math.max.name) (List.mem_cons_of_mem _ (wr9 _ (List.mem_of_getElem? (i := 11) rfl)))
  have k_9_12 := hts (.static Lib.Math.max.name) (List.mem_cons_of_mem _ (wr9 _ (List.mem_of_getElem? (i := 12) rfl)))
  have k_9_13 := hts (.code Lib.Math.max.name Lib.Math.max.code 2 (some .int)) (List.mem_cons_of_mem _ (wr9 _ (List.mem_of_getElem? (i := 13) rfl)))
  have k_9_14 := hts (.fieldLink RX1 24 "ArrayTrainer$Lexer" "size" "I") (List.mem_cons_of_mem _ (wr9 _ (List.mem_of_getElem? (i := 14) rfl)))
  have k_9_15 := hts (.fieldLink RX1 28 "ArrayTrainer$Lexer" "limit" "I") (List.mem_cons_of_mem _ (wr9 _ (List.mem_of_getElem? (i := 15) rfl)))
  have k_9_16 := hts (.fieldLink RX1 31 "ArrayTrainer$Lexer" "to" "I") (List.mem_cons_of_mem _ (wr9 _ (List.mem_of_getElem? (i := 16) rfl)))
  obtain ⟨H, hH⟩ : ∃ H : Heap, H = s.heap := ⟨_, rfl⟩
  obtain ⟨locs, hlc⟩ : ∃ L : List Loc, L = [] := ⟨_, rfl⟩
  have hP : va_P D vwCl (tw cs q v_t_tapeSize v_t_textSize v_t_faultKind a_t_tape a_t_text a_g_beyond v_g_size a_g_steps a_h_beyond v_h_size a_h_steps a_r_scratch a_r_now v_r_takes v_r_negative v_r_namePlace v_r_faultKind v_r_faultPlace v_a_size v_a_limit v_a_digits v_a_kind v_a_from v_a_to v_o_size a_o_out v_b_size v_b_limit v_b_digits v_b_kind v_b_from v_b_to a_u_atom a_u_other a_u_hand v_u_marksMade v_u_came v_u_guesses v_u_right v_u_taken a_u_vars a_u_marks a_u_outcomes a_u_indexes v_s_things v_s_looked v_s_lookedTooOften v_s_arraysMade v_s_cellsMade a_s_classes a_s_starts a_s_lengths a_s_cells a_L a_K a_vc a_vd a_si a_sj a_iv a_inn a_ac) H := by rw [hH]; exact hP
  have hS : va_S A s.heap H locs := by rw [hH, hlc]; exact hS
  refine wHL hH hlc ?_
  have b_n9 := iB n9
  have b_m9 := iB m9
  have b_a9 := iB a9
  refine lv_aload_n hx hb dX1_open_0 rfl (lv_at hl 0 rfl) ?_
  refine lv_iconst (v := 0) hx hb dX1_open_1 (by decide) ?_
  refine lv_iload_n hx hb dX1_open_2 rfl (lv_at hl 1 rfl) ?_
  refine lv_aload_n hx hb dX1_open_3 rfl (lv_at hl 0 rfl) ?_
  refine va_get (D := D) (ci := 0) (v := .ref (q 2)) (C := RX1) (T := TX1) (N := 7) hx hb hts hinX1 hown hK hP 11 rfl rfl 0 (by decide) k_3_6 (fun _ h9 => h9) rfl dX1_open_4 ?_
  refine m_alen hx hb hK hP 2 2 rfl rfl (show 3000 < 2147483648 by decide) dX1_open_7 (fun x7 g_x7 => ?_)
  have g_x7 : x7.toInt = 3000 := g_x7
  refine m_mmin (X := n9.toInt) (Y := x7.toInt) hx hb (by rw [hml]; exact hl.1.symm) hown k_9_7 k_9_8 k_9_9 k_9_10 (Nat.le_of_ble_eq_true rfl) (Nat.le_of_ble_eq_true rfl) (Nat.le_of_ble_eq_true rfl) (Nat.le_of_ble_eq_true rfl) rfl rfl dX1_open_8 (fun x8 g_x8 => ?_)
  have b_x8 := iB x8
  refine m_mmax (X := 0) (Y := x8.toInt) hx hb (by rw [hml]; exact hl.1.symm) hown k_9_11 k_9_12 k_9_9 k_9_13 (Nat.le_of_ble_eq_true rfl) (Nat.le_of_ble_eq_true rfl) (Nat.le_of_ble_eq_true rfl) (Nat.le_of_ble_eq_true rfl) (by decide) rfl dX1_open_11 (fun x11 g_x11 => ?_)
  have b_x11 := iB x11
  refine va_put (D := D) (ci := 0) (v := .int x11) (ty := .int) (C := RX1) (T := TX1) (N := 7) hx hb hts hinX1 tyX1 tyX1_ok nmX1 hown hK hP hD hS 11 rfl rfl 1 (by decide) k_9_14 (fun _ h9 => h9) rfl (by decide +kernel) rfl rfl (Nat.le_of_ble_eq_true rfl) dX1_open_14 (fun H locs hP hD hS => ?_)
  have hP : va_P D vwCl (tw cs q v_t_tapeSize v_t_textSize v_t_faultKind a_t_tape a_t_text a_g_beyond v_g_size a_g_steps a_h_beyond v_h_size a_h_steps a_r_scratch a_r_now v_r_takes v_r_negative v_r_namePlace v_r_faultKind v_r_faultPlace v_a_size v_a_limit v_a_digits v_a_kind v_a_from v_a_to v_o_size a_o_out x11 v_b_limit v_b_digits v_b_kind v_b_from v_b_to a_u_atom a_u_other a_u_hand v_u_marksMade v_u_came v_u_guesses v_u_right v_u_taken a_u_vars a_u_marks a_u_outcomes a_u_indexes v_s_things v_s_looked v_s_lookedTooOften v_s_arraysMade v_s_cellsMade a_s_classes a_s_starts a_s_lengths a_s_cells a_L a_K a_vc a_vd a_si a_sj a_iv a_inn a_ac) H := hP
  have hD : va_D A (tw cs q v_t_tapeSize v_t_textSize v_t_faultKind a_t_tape a_t_text a_g_beyond v_g_size a_g_steps a_h_beyond v_h_size a_h_steps a_r_scratch a_r_now v_r_takes v_r_negative v_r_namePlace v_r_faultKind v_r_faultPlace v_a_size v_a_limit v_a_digits v_a_kind v_a_from v_a_to v_o_size a_o_out x11 v_b_limit v_b_digits v_b_kind v_b_from v_b_to a_u_atom a_u_other a_u_hand v_u_marksMade v_u_came v_u_guesses v_u_right v_u_taken a_u_vars a_u_marks a_u_outcomes a_u_indexes v_s_things v_s_looked v_s_lookedTooOften v_s_arraysMade v_s_cellsMade a_s_classes a_s_starts a_s_lengths a_s_cells a_L a_K a_vc a_vd a_si a_sj a_iv a_inn a_ac) := hD
  refine lv_aload_n hx hb dX1_open_17 rfl (lv_at hl 0 rfl) ?_
  refine lv_iload_n hx hb dX1_open_18 rfl (lv_at hl 2 rfl) ?_
  refine va_put (D := D) (ci := 0) (v := .int m9) (ty := .int) (C := RX1) (T := TX1) (N := 7) hx hb hts hinX1 tyX1 tyX1_ok nmX1 hown hK hP hD hS 11 rfl rfl 2 (by decide) k_9_15 (fun _ h9 => h9) rfl (by decide +kernel) rfl rfl (Nat.le_of_ble_eq_true rfl) dX1_open_19 (fun H locs hP hD hS => ?_)
  have hP : va_P D vwCl (tw cs q v_t_tapeSize v_t_textSize v_t_faultKind a_t_tape a_t_text a_g_beyond v_g_size a_g_steps a_h_beyond v_h_size a_h_steps a_r_scratch a_r_now v_r_takes v_r_negative v_r_namePlace v_r_faultKind v_r_faultPlace v_a_size v_a_limit v_a_digits v_a_kind v_a_from v_a_to v_o_size a_o_out x11 m9 v_b_digits v_b_kind v_b_from v_b_to a_u_atom a_u_other a_u_hand v_u_marksMade v_u_came v_u_guesses v_u_right v_u_taken a_u_vars a_u_marks a_u_outcomes a_u_indexes v_s_things v_s_looked v_s_lookedTooOften v_s_arraysMade v_s_cellsMade a_s_classes a_s_starts a_s_lengths a_s_cells a_L a_K a_vc a_vd a_si a_sj a_iv a_inn a_ac) H := hP
  have hD : va_D A (tw cs q v_t_tapeSize v_t_textSize v_t_faultKind a_t_tape a_t_text a_g_beyond v_g_size a_g_steps a_h_beyond v_h_size a_h_steps a_r_scratch a_r_now v_r_takes v_r_negative v_r_namePlace v_r_faultKind v_r_faultPlace v_a_size v_a_limit v_a_digits v_a_kind v_a_from v_a_to v_o_size a_o_out x11 m9 v_b_digits v_b_kind v_b_from v_b_to a_u_atom a_u_other a_u_hand v_u_marksMade v_u_came v_u_guesses v_u_right v_u_taken a_u_vars a_u_marks a_u_outcomes a_u_indexes v_s_things v_s_looked v_s_lookedTooOften v_s_arraysMade v_s_cellsMade a_s_classes a_s_starts a_s_lengths a_s_cells a_L a_K a_vc a_vd a_si a_sj a_iv a_inn a_ac) := hD
  refine lv_aload_n hx hb dX1_open_22 rfl (lv_at hl 0 rfl) ?_
  refine lv_iconst (v := 0) hx hb dX1_open_23 (by decide) ?_
  refine lv_iload_n hx hb dX1_open_24 rfl (lv_at hl 3 rfl) ?_
  refine m_mmax (X := 0) (Y := a9.toInt) hx hb (by rw [hml]; exact hl.1.symm) hown k_9_11 k_9_12 k_9_9 k_9_13 (Nat.le_of_ble_eq_true rfl) (Nat.le_of_ble_eq_true rfl) (Nat.le_of_ble_eq_true rfl) (Nat.le_of_ble_eq_true rfl) (by decide) rfl dX1_open_25 (fun x25 g_x25 => ?_)
  have b_x25 := iB x25
  refine va_put (D := D) (ci := 0) (v := .int x25) (ty := .int) (C := RX1) (T := TX1) (N := 7) hx hb hts hinX1 tyX1 tyX1_ok nmX1 hown hK hP hD hS 11 rfl rfl 6 (by decide) k_9_16 (fun _ h9 => h9) rfl (by decide +kernel) rfl rfl (Nat.le_of_ble_eq_true rfl) dX1_open_28 (fun H locs hP hD hS => ?_)
  have hP : va_P D vwCl (tw cs q v_t_tapeSize v_t_textSize v_t_faultKind a_t_tape a_t_text a_g_beyond v_g_size a_g_steps a_h_beyond v_h_size a_h_steps a_r_scratch a_r_now v_r_takes v_r_negative v_r_namePlace v_r_faultKind v_r_faultPlace v_a_size v_a_limit v_a_digits v_a_kind v_a_from v_a_to v_o_size a_o_out x11 m9 v_b_digits v_b_kind v_b_from x25 a_u_atom a_u_other a_u_hand v_u_marksMade v_u_came v_u_guesses v_u_right v_u_taken a_u_vars a_u_marks a_u_outcomes a_u_indexes v_s_things v_s_looked v_s_lookedTooOften v_s_arraysMade v_s_cellsMade a_s_classes a_s_starts a_s_lengths a_s_cells a_L a_K a_vc a_vd a_si a_sj a_iv a_inn a_ac) H := hP
  have hD : va_D A (tw cs q v_t_tapeSize v_t_textSize v_t_faultKind a_t_tape a_t_text a_g_beyond v_g_size a_g_steps a_h_beyond v_h_size a_h_steps a_r_scratch a_r_now v_r_takes v_r_negative v_r_namePlace v_r_faultKind v_r_faultPlace v_a_size v_a_limit v_a_digits v_a_kind v_a_from v_a_to v_o_size a_o_out x11 m9 v_b_digits v_b_kind v_b_from x25 a_u_atom a_u_other a_u_hand v_u_marksMade v_u_came v_u_guesses v_u_right v_u_taken a_u_vars a_u_marks a_u_outcomes a_u_indexes v_s_things v_s_looked v_s_lookedTooOften v_s_arraysMade v_s_cellsMade a_s_classes a_s_starts a_s_lengths a_s_cells a_L a_K a_vc a_vd a_si a_sj a_iv a_inn a_ac) := hD
  subst hAe
  rw [hQ]
  exact W.vret hx hb hr (fun t ht hW => ⟨⟨_, rfl, ⟨x11, m9, x25, rfl, by exact ⟨⟨by omega, by omega⟩, ⟨by omega, by omega⟩, ⟨by omega, by omega⟩, by omega⟩⟩, by rw [ht]; exact hP, va_K.moved hW.alike hK, hD⟩, hS.F ht⟩) hS.2.2 dX1_open_31

def rmX1_kindOfSmalls_qb : Room := { frames := 100, cells := 0, slots := 0, locals := 2000 }
set_option maxHeartbeats 4000000 in
set_option maxRecDepth 100000 in
theorem tX1_kindOfSmalls_qb {l : Launch} {D : va_G} {K : Nat → Nat → Nat} {cs : Nat → ClassId} {q : Nat → Nat} {v_t_tapeSize v_t_textSize v_t_faultKind v_g_size v_h_size v_r_takes v_r_negative v_r_namePlace v_r_faultKind v_r_faultPlace v_a_size v_a_limit v_a_digits v_a_kind v_a_from v_a_to v_o_size v_b_size v_b_limit v_b_digits v_b_kind v_b_from v_b_to v_u_marksMade v_u_came v_u_guesses v_u_right v_u_taken v_s_things v_s_looked v_s_lookedTooOften v_s_arraysMade v_s_cellsMade : Int32} {a_t_tape a_t_text a_o_out a_u_outcomes a_u_indexes a_s_classes a_s_starts a_s_lengths a_vc : Nat → Int32} {a_g_beyond a_h_beyond a_r_scratch a_r_now a_u_atom a_u_other a_u_hand : Nat} {a_g_steps a_h_steps a_u_vars a_u_marks : Nat → Option Nat} {a_s_cells a_vd a_sj : Nat → Int64} {a_L : List Nat} {a_K a_iv a_inn : Nat → Nat} {a_si a_ac : Nat → Nat → Int32} (p_0 : 0 ≤ v_b_from.toInt) (p_1 : v_b_from.toInt < v_b_to.toInt) (p_2 : v_b_to.toInt ≤ v_b_size.toInt) (p_3 : v_b_size.toInt ≤ 3000) : CtI l yX1_kindOfSmalls (wG yX1_kindOfSmalls cX1_kindOfSmalls 3 (some .int)) rmX1_kindOfSmalls_qb D (twT cs) K [.ref (q 11)] (tw cs q v_t_tapeSize v_t_textSize v_t_faultKind a_t_tape a_t_text a_g_beyond v_g_size a_g_steps a_h_beyond v_h_size a_h_steps a_r_scratch a_r_now v_r_takes v_r_negative v_r_namePlace v_r_faultKind v_r_faultPlace v_a_size v_a_limit v_a_digits v_a_kind v_a_from v_a_to v_o_size a_o_out v_b_size v_b_limit v_b_digits v_b_kind v_b_from v_b_to a_u_atom a_u_other a_u_hand v_u_marksMade v_u_came v_u_guesses v_u_right v_u_taken a_u_vars a_u_marks a_u_outcomes a_u_indexes v_s_things v_s_looked v_s_lookedTooOften v_s_arraysMade v_s_cellsMade a_s_classes a_s_starts a_s_lengths a_s_cells a_L a_K a_vc a_vd a_si a_sj a_iv a_inn a_ac) (fun r w1 => ∃ (v_b_digits' : Int32), w1 = (tw cs q v_t_tapeSize v_t_textSize v_t_faultKind a_t_tape a_t_text a_g_beyond v_g_size a_g_steps a_h_beyond v_h_size a_h_steps a_r_scratch a_r_now v_r_takes v_r_negative v_r_namePlace v_r_faultKind v_r_faultPlace v_a_size v_a_limit v_a_digits v_a_kind v_a_from v_a_to v_o_size a_o_out v_b_size v_b_limit v_b_digits' v_b_kind v_b_from v_b_to a_u_atom a_u_other a_u_hand v_u_marksMade v_u_came v_u_guesses v_u_right v_u_taken a_u_vars a_u_marks a_u_outcomes a_u_indexes v_s_things v_s_looked v_s_lookedTooOften v_s_arraysMade v_s_cellsMade a_s_classes a_s_starts a_s_lengths a_s_cells a_L a_K a_vc a_vd a_si a_sj a_iv a_inn a_ac) ∧ (0 ≤ v_b_digits'.toInt) ∧ (v_b_digits'.toInt ≤ 3100) ∧ (r.toInt = 3 → v_b_from.toInt + v_b_digits'.toInt ≤ v_b_to.toInt)) 0 0 := by
  intro sz
  refine Met.ofW (cc := cX1_kindOfSmalls) (maxL := 3) (ret := (some .int)) (by decide) rfl ?_
  intro p e s m args below meth c s₁ B hml hv
  obtain ⟨rfl, hsz, hP, hK, hD0, hE⟩ := hv
  have hx := B.exec
  have hb := B.bytes
  have hr := B.returns
  have hts := atoms_spec (ws := (wG yX1_kindOfSmalls cX1_kindOfSmalls 3 (some .int))) B.pre
  have hown : s.vm.findClass RX1 = some m.cls := findClass_of_methodNamed B.named
  have hlocks := B.notSynchronized
  subst hsz
  have hD := hD0.self (sz := s.heap.size)
  obtain ⟨A, hAe⟩ : ∃ A : Nat → Prop, A = va_A (tw cs q v_t_tapeSize v_t_textSize v_t_faultKind a_t_tape a_t_text a_g_beyond v_g_size a_g_steps a_h_beyond v_h_size a_h_steps a_r_scratch a_r_now v_r_takes v_r_negative v_r_namePlace v_r_faultKind v_r_faultPlace v_a_size v_a_limit v_a_digits v_a_kind v_a_from v_a_to v_o_size a_o_out v_b_size v_b_limit v_b_digits v_b_kind v_b_from v_b_to a_u_atom a_u_other a_u_hand v_u_marksMade v_u_came v_u_guesses v_u_right v_u_taken a_u_vars a_u_marks a_u_outcomes a_u_indexes v_s_things v_s_looked v_s_lookedTooOften v_s_arraysMade v_s_cellsMade a_s_classes a_s_starts a_s_lengths a_s_cells a_L a_K a_vc a_vd a_si a_sj a_iv a_inn a_ac) s.heap.size := ⟨_, rfl⟩
  rw [← hAe] at hD hE
  have hA : ∀ q : Nat, s.heap.size ≤ q → A q := fun q h => by rw [hAe]; exact Or.inr h
  have hS : va_S A s.heap s.heap [] := va_S.rf
  have hl := lv_entry ([.ref (q 11)]) (n := 3) (Nat.le_of_ble_eq_true rfl)
  rw [lg_entry_eq]
  generalize (lg_sl ([.ref (q 11)]) ++ List.replicate (3 - (lg_sl ([.ref (q 11)])).length) Slot.unset).toArray = ls at hl ⊢
  have hl : lv_has ls 3 [(0, .ref (q 11))] := hl
  refine wq (fun Q hQ => ?_)
  have hinX1 : ∀ w ∈ wsX10, w ∈ (wG yX1_kindOfSmalls cX1_kindOfSmalls 3 (some .int)) := fun w h => List.mem_cons_of_mem _ (inlX1 w h)
  have kc0 : (0 : Int32).toInt = 0 := by decide
  have kc1 : (1 : Int32).toInt = 1 := by decide
  have kc2 : (2 : Int32).toInt = 2 := by decide
  have kc3 : (3 : Int32).toInt = 3 := by decide
  have kc4 : (8 : Int32).toInt = 8 := by decide
  have kc5 : (19 : Int32).toInt = 19 := by decide
  have kc6 : (57 : Int32).toInt = 57 := by decide
  have k_10_6 := hts (.fieldLink RX1 51 "ArrayTrainer$Lexer" "digits" "I") (List.mem_cons_of_mem _ (wr10 _ (List.mem_of_getElem? (i := 6) rfl)))
  have k_9_21 := hts (.fieldLink RX1 34 "ArrayTrainer$Lexer" "from" "I") (List.mem_cons_of_mem _ (wr9 _ (List.mem_of_getElem? (i := 21) rfl)))
  have k_9_16 := hts (.fieldLink RX1 31 "ArrayTrainer$Lexer" "to" "I") (List.mem_cons_of_mem _ (wr9 _ (List.mem_of_getElem? (i := 16) rfl)))
  have k_3_6 := hts (.fieldLink RX1 9 "ArrayTrainer$Lexer" "text" "[B") (List.mem_cons_of_mem _ (wr3 _ (List.mem_of_getElem? (i := 6) rfl)))
  obtain ⟨H, hH⟩ : ∃ H : Heap, H = s.heap := ⟨_, rfl⟩
  obtain ⟨locs, hlc⟩ : ∃ L : List Loc, L = [] := ⟨_, rfl⟩
  have hP : va_P D vwCl (tw cs q v_t_tapeSize v_t_textSize v_t_faultKind a_t_tape a_t_text a_g_beyond v_g_size a_g_steps a_h_beyond v_h_size a_h_steps a_r_scratch a_r_now v_r_takes v_r_negative v_r_namePlace v_r_faultKind v_r_faultPlace v_a_size v_a_limit v_a_digits v_a_kind v_a_from v_a_to v_o_size a_o_out v_b_size v_b_limit v_b_digits v_b_kind v_b_from v_b_to a_u_atom a_u_other a_u_hand v_u_marksMade v_u_came v_u_guesses v_u_right v_u_taken a_u_vars a_u_marks a_u_outcomes a_u_indexes v_s_things v_s_looked v_s_lookedTooOften v_s_arraysMade v_s_cellsMade a_s_classes a_s_starts a_s_lengths a_s_cells a_L a_K a_vc a_vd a_si a_sj a_iv a_inn a_ac) H := by rw [hH]; exact hP
  have hS : va_S A s.heap H locs := by rw [hH, hlc]; exact hS
  refine wHL hH hlc ?_
  refine lv_aload_n hx hb dX1_kindOfSmalls_0 rfl (lv_at hl 0 rfl) ?_
  refine lv_iconst (v := 0) hx hb dX1_kindOfSmalls_1 (by decide) ?_
  refine va_put (D := D) (ci := 0) (v := .int 0) (ty := .int) (C := RX1) (T := TX1) (N := 7) hx hb hts hinX1 tyX1 tyX1_ok nmX1 hown hK hP hD hS 11 rfl rfl 3 (by decide) k_10_6 (fun _ h9 => h9) rfl (by decide +kernel) rfl rfl (Nat.le_of_ble_eq_true rfl) dX1_kindOfSmalls_2 (fun H locs hP hD hS => ?_)
  have hP : va_P D vwCl (tw cs q v_t_tapeSize v_t_textSize v_t_faultKind a_t_tape a_t_text a_g_beyond v_g_size a_g_steps a_h_beyond v_h_size a_h_steps a_r_scratch a_r_now v_r_takes v_r_negative v_r_namePlace v_r_faultKind v_r_faultPlace v_a_size v_a_limit v_a_digits v_a_kind v_a_from v_a_to v_o_size a_o_out v_b_size v_b_limit (0 : Int32) v_b_kind v_b_from v_b_to a_u_atom a_u_other a_u_hand v_u_marksMade v_u_came v_u_guesses v_u_right v_u_taken a_u_vars a_u_marks a_u_outcomes a_u_indexes v_s_things v_s_looked v_s_lookedTooOften v_s_arraysMade v_s_cellsMade a_s_classes a_s_starts a_s_lengths a_s_cells a_L a_K a_vc a_vd a_si a_sj a_iv a_inn a_ac) H := hP
  have hD : va_D A (tw cs q v_t_tapeSize v_t_textSize v_t_faultKind a_t_tape a_t_text a_g_beyond v_g_size a_g_steps a_h_beyond v_h_size a_h_steps a_r_scratch a_r_now v_r_takes v_r_negative v_r_namePlace v_r_faultKind v_r_faultPlace v_a_size v_a_limit v_a_digits v_a_kind v_a_from v_a_to v_o_size a_o_out v_b_size v_b_limit (0 : Int32) v_b_kind v_b_from v_b_to a_u_atom a_u_other a_u_hand v_u_marksMade v_u_came v_u_guesses v_u_right v_u_taken a_u_vars a_u_marks a_u_outcomes a_u_indexes v_s_things v_s_looked v_s_lookedTooOften v_s_arraysMade v_s_cellsMade a_s_classes a_s_starts a_s_lengths a_s_cells a_L a_K a_vc a_vd a_si a_sj a_iv a_inn a_ac) := hD
  refine lv_aload_n hx hb dX1_kindOfSmalls_5 rfl (lv_at hl 0 rfl) ?_
  refine va_get (D := D) (ci := 0) (v := .int v_b_from) (C := RX1) (T := TX1) (N := 7) hx hb hts hinX1 hown hK hP 11 rfl rfl 5 (by decide) k_9_21 (fun _ h9 => h9) rfl dX1_kindOfSmalls_6 ?_
  refine lv_istore_n (lv' := [(1, .int v_b_from), (0, .ref (q 11))]) hx hb dX1_kindOfSmalls_9 rfl hl (by decide) rfl (fun ls hl => ?_)
  have J10 : ∀ (n10 : Nat) (l1_10 : Int32) (v_b_digits_10 : Int32) (H : Heap) (locs : List Loc) (ls : Array Slot), (v_b_from.toInt ≤ l1_10.toInt) → (l1_10.toInt ≤ v_b_to.toInt) → (v_b_digits_10.toInt = l1_10.toInt - v_b_from.toInt) → (v_b_to.toInt - l1_10.toInt < (n10 : Int)) → va_P D vwCl (tw cs q v_t_tapeSize v_t_textSize v_t_faultKind a_t_tape a_t_text a_g_beyond v_g_size a_g_steps a_h_beyond v_h_size a_h_steps a_r_scratch a_r_now v_r_takes v_r_negative v_r_namePlace v_r_faultKind v_r_faultPlace v_a_size v_a_limit v_a_digits v_a_kind v_a_from v_a_to v_o_size a_o_out v_b_size v_b_limit v_b_digits_10 v_b_kind v_b_from v_b_to a_u_atom a_u_other a_u_hand v_u_marksMade v_u_came v_u_guesses v_u_right v_u_taken a_u_vars a_u_marks a_u_outcomes a_u_indexes v_s_things v_s_looked v_s_lookedTooOften v_s_arraysMade v_s_cellsMade a_s_classes a_s_starts a_s_lengths a_s_cells a_L a_K a_vc a_vd a_si a_sj a_iv a_inn a_ac) H → va_D A (tw cs q v_t_tapeSize v_t_textSize v_t_faultKind a_t_tape a_t_text a_g_beyond v_g_size a_g_steps a_h_beyond v_h_size a_h_steps a_r_scratch a_r_now v_r_takes v_r_negative v_r_namePlace v_r_faultKind v_r_faultPlace v_a_size v_a_limit v_a_digits v_a_kind v_a_from v_a_to v_o_size a_o_out v_b_size v_b_limit v_b_digits_10 v_b_kind v_b_from v_b_to a_u_atom a_u_other a_u_hand v_u_marksMade v_u_came v_u_guesses v_u_right v_u_taken a_u_vars a_u_marks a_u_outcomes a_u_indexes v_s_things v_s_looked v_s_lookedTooOften v_s_arraysMade v_s_cellsMade a_s_classes a_s_starts a_s_lengths a_s_cells a_L a_K a_vc a_vd a_si a_sj a_iv a_inn a_ac) → va_S A s.heap H locs → lv_has ls 3 [(0, .ref (q 11)), (1, .int l1_10)] → W p l e (headSpec (wG yX1_kindOfSmalls cX1_kindOfSmalls 3 (some .int)) rmX1_kindOfSmalls_qb).room s m ([.ref (q 11)] : List Value).toArray below meth c H locs 0 0 Q (F0 m 10 ls []) := by
    intro n10
    induction n10 with
    | zero =>
      intro l1_10 v_b_digits_10 H locs ls f10_0 f10_1 f10_2 hm10
      exfalso
      omega
    | succ n10 ih10 =>
      intro l1_10 v_b_digits_10 H locs ls f10_0 f10_1 f10_2 hm10 hP hD hS hl
      refine lv_iload_n hx hb dX1_kindOfSmalls_10 rfl (lv_at hl 1 rfl) ?_
      refine lv_aload_n hx hb dX1_kindOfSmalls_11 rfl (lv_at hl 0 rfl) ?_
      refine va_get (D := D) (ci := 0) (v := .int v_b_to) (C := RX1) (T := TX1) (N := 7) hx hb hts hinX1 hown hK hP 11 rfl rfl 6 (by decide) k_9_16 (fun _ h9 => h9) rfl dX1_kindOfSmalls_12 ?_
      have J45 : ∀ (H : Heap) (locs : List Loc) (ls : Array Slot), (True) → va_P D vwCl (tw cs q v_t_tapeSize v_t_textSize v_t_faultKind a_t_tape a_t_text a_g_beyond v_g_size a_g_steps a_h_beyond v_h_size a_h_steps a_r_scratch a_r_now v_r_takes v_r_negative v_r_namePlace v_r_faultKind v_r_faultPlace v_a_size v_a_limit v_a_digits v_a_kind v_a_from v_a_to v_o_size a_o_out v_b_size v_b_limit v_b_digits_10 v_b_kind v_b_from v_b_to a_u_atom a_u_other a_u_hand v_u_marksMade v_u_came v_u_guesses v_u_right v_u_taken a_u_vars a_u_marks a_u_outcomes a_u_indexes v_s_things v_s_looked v_s_lookedTooOften v_s_arraysMade v_s_cellsMade a_s_classes a_s_starts a_s_lengths a_s_cells a_L a_K a_vc a_vd a_si a_sj a_iv a_inn a_ac) H → va_D A (tw cs q v_t_tapeSize v_t_textSize v_t_faultKind a_t_tape a_t_text a_g_beyond v_g_size a_g_steps a_h_beyond v_h_size a_h_steps a_r_scratch a_r_now v_r_takes v_r_negative v_r_namePlace v_r_faultKind v_r_faultPlace v_a_size v_a_limit v_a_digits v_a_kind v_a_from v_a_to v_o_size a_o_out v_b_size v_b_limit v_b_digits_10 v_b_kind v_b_from v_b_to a_u_atom a_u_other a_u_hand v_u_marksMade v_u_came v_u_guesses v_u_right v_u_taken a_u_vars a_u_marks a_u_outcomes a_u_indexes v_s_things v_s_looked v_s_lookedTooOften v_s_arraysMade v_s_cellsMade a_s_classes a_s_starts a_s_lengths a_s_cells a_L a_K a_vc a_vd a_si a_sj a_iv a_inn a_ac) → va_S A s.heap H locs → lv_has ls 3 [(0, .ref (q 11))] → W p l e (headSpec (wG yX1_kindOfSmalls cX1_kindOfSmalls 3 (some .int)) rmX1_kindOfSmalls_qb).room s m ([.ref (q 11)] : List Value).toArray below meth c H locs 0 0 Q (F0 m 45 ls []) := by
        intro H locs ls f45_0 hP hD hS hl
        refine lv_aload_n hx hb dX1_kindOfSmalls_45 rfl (lv_at hl 0 rfl) ?_
        refine va_get (D := D) (ci := 0) (v := .int v_b_to) (C := RX1) (T := TX1) (N := 7) hx hb hts hinX1 hown hK hP 11 rfl rfl 6 (by decide) k_9_16 (fun _ h9 => h9) rfl dX1_kindOfSmalls_46 ?_
        refine lv_aload_n hx hb dX1_kindOfSmalls_49 rfl (lv_at hl 0 rfl) ?_
        refine va_get (D := D) (ci := 0) (v := .int v_b_from) (C := RX1) (T := TX1) (N := 7) hx hb hts hinX1 hown hK hP 11 rfl rfl 5 (by decide) k_9_21 (fun _ h9 => h9) rfl dX1_kindOfSmalls_50 ?_
        refine m_isub (X := v_b_to.toInt) (Y := v_b_from.toInt) hx hb dX1_kindOfSmalls_53 rfl rfl (fun x53 e_x53 g9 => ?_)
        obtain ⟨k_x53, g_x53⟩ := g9
        have b_x53 := iB x53
        try (have q_x53 : x53.toInt = v_b_to.toInt - v_b_from.toInt := (by omega); clear g_x53 k_x53)
        refine lv_aload_n hx hb dX1_kindOfSmalls_54 rfl (lv_at hl 0 rfl) ?_
        refine va_get (D := D) (ci := 0) (v := .int v_b_digits_10) (C := RX1) (T := TX1) (N := 7) hx hb hts hinX1 hown hK hP 11 rfl rfl 3 (by decide) k_10_6 (fun _ h9 => h9) rfl dX1_kindOfSmalls_55 ?_
        refine m_isub (X := x53.toInt) (Y := v_b_digits_10.toInt) hx hb dX1_kindOfSmalls_58 rfl rfl (fun x58 e_x58 g9 => ?_)
        obtain ⟨k_x58, g_x58⟩ := g9
        have b_x58 := iB x58
        try (have q_x58 : x58.toInt = x53.toInt - v_b_digits_10.toInt := (by omega); clear g_x58 k_x58)
        refine lv_istore_n (lv' := [(1, .int x58), (0, .ref (q 11))]) hx hb dX1_kindOfSmalls_59 rfl hl (by decide) rfl (fun ls hl => ?_)
        refine lv_aload_n hx hb dX1_kindOfSmalls_60 rfl (lv_at hl 1 rfl) ?_
        refine va_get (D := D) (ci := 0) (v := .int v_b_digits_10) (C := RX1) (T := TX1) (N := 7) hx hb hts hinX1 hown hK hP 11 rfl rfl 3 (by decide) k_10_6 (fun _ h9 => h9) rfl dX1_kindOfSmalls_61 ?_
        refine m_if_le (X := v_b_digits_10.toInt) (tgt := 121) hx hb dX1_kindOfSmalls_64 (by decide) rfl (fun c64 => ?_) (fun c64 => ?_)
        · skip
          refine lv_aload_n hx hb dX1_kindOfSmalls_121 rfl (lv_at hl 1 rfl) ?_
          refine va_get (D := D) (ci := 0) (v := .int v_b_from) (C := RX1) (T := TX1) (N := 7) hx hb hts hinX1 hown hK hP 11 rfl rfl 5 (by decide) k_9_21 (fun _ h9 => h9) rfl dX1_kindOfSmalls_122 ?_
          refine lv_istore_n (lv' := [(2, .int v_b_from), (1, .int x58), (0, .ref (q 11))]) hx hb dX1_kindOfSmalls_125 rfl hl (by decide) rfl (fun ls hl => ?_)
          have J126 : ∀ (n126 : Nat) (l2_126 : Int32) (H : Heap) (locs : List Loc) (ls : Array Slot), (v_b_from.toInt ≤ l2_126.toInt) → (l2_126.toInt ≤ v_b_to.toInt) → (v_b_to.toInt - l2_126.toInt < (n126 : Int)) → va_P D vwCl (tw cs q v_t_tapeSize v_t_textSize v_t_faultKind a_t_tape a_t_text a_g_beyond v_g_size a_g_steps a_h_beyond v_h_size a_h_steps a_r_scratch a_r_now v_r_takes v_r_negative v_r_namePlace v_r_faultKind v_r_faultPlace v_a_size v_a_limit v_a_digits v_a_kind v_a_from v_a_to v_o_size a_o_out v_b_size v_b_limit v_b_digits_10 v_b_kind v_b_from v_b_to a_u_atom a_u_other a_u_hand v_u_marksMade v_u_came v_u_guesses v_u_right v_u_taken a_u_vars a_u_marks a_u_outcomes a_u_indexes v_s_things v_s_looked v_s_lookedTooOften v_s_arraysMade v_s_cellsMade a_s_classes a_s_starts a_s_lengths a_s_cells a_L a_K a_vc a_vd a_si a_sj a_iv a_inn a_ac) H → va_D A (tw cs q v_t_tapeSize v_t_textSize v_t_faultKind a_t_tape a_t_text a_g_beyond v_g_size a_g_steps a_h_beyond v_h_size a_h_steps a_r_scratch a_r_now v_r_takes v_r_negative v_r_namePlace v_r_faultKind v_r_faultPlace v_a_size v_a_limit v_a_digits v_a_kind v_a_from v_a_to v_o_size a_o_out v_b_size v_b_limit v_b_digits_10 v_b_kind v_b_from v_b_to a_u_atom a_u_other a_u_hand v_u_marksMade v_u_came v_u_guesses v_u_right v_u_taken a_u_vars a_u_marks a_u_outcomes a_u_indexes v_s_things v_s_looked v_s_lookedTooOften v_s_arraysMade v_s_cellsMade a_s_classes a_s_starts a_s_lengths a_s_cells a_L a_K a_vc a_vd a_si a_sj a_iv a_inn a_ac) → va_S A s.heap H locs → lv_has ls 3 [(0, .ref (q 11)), (1, .int x58), (2, .int l2_126)] → W p l e (headSpec (wG yX1_kindOfSmalls cX1_kindOfSmalls 3 (some .int)) rmX1_kindOfSmalls_qb).room s m ([.ref (q 11)] : List Value).toArray below meth c H locs 0 0 Q (F0 m 126 ls []) := by
            intro n126
            induction n126 with
            | zero =>
              intro l2_126 H locs ls f126_0 f126_1 hm126
              exfalso
              omega
            | succ n126 ih126 =>
              intro l2_126 H locs ls f126_0 f126_1 hm126 hP hD hS hl
              refine lv_iload_n hx hb dX1_kindOfSmalls_126 rfl (lv_at hl 2 rfl) ?_
              refine lv_aload_n hx hb dX1_kindOfSmalls_127 rfl (lv_at hl 0 rfl) ?_
              refine va_get (D := D) (ci := 0) (v := .int v_b_to) (C := RX1) (T := TX1) (N := 7) hx hb hts hinX1 hown hK hP 11 rfl rfl 6 (by decide) k_9_16 (fun _ h9 => h9) rfl dX1_kindOfSmalls_128 ?_
              refine m_icmp_ge (X := l2_126.toInt) (Y := v_b_to.toInt) (tgt := 153) hx hb dX1_kindOfSmalls_131 (by decide) rfl rfl (fun c131 => ?_) (fun c131 => ?_)
              · skip
                refine lv_iload_n hx hb dX1_kindOfSmalls_153 rfl (lv_at hl 1 rfl) ?_
                refine lv_bipush (v := 8) hx hb dX1_kindOfSmalls_154 (by decide) ?_
                refine m_icmp_gt (X := x58.toInt) (Y := 8) (tgt := 163) hx hb dX1_kindOfSmalls_156 (by decide) rfl (by decide) (fun c156 => ?_) (fun c156 => ?_)
                · skip
                  refine lv_iconst (v := 1) hx hb dX1_kindOfSmalls_163 (by decide) ?_
                  subst hAe
                  rw [hQ]
                  exact W.iret (v := 1) hx hb hr (fun t ht hW => ⟨⟨1, _, rfl, ⟨v_b_digits_10, rfl, by first | assumption | omega | (intros; omega) | decide, by first | assumption | omega | (intros; omega) | decide, by first | assumption | omega | (intros; omega) | decide⟩, by rw [ht]; exact hP, va_K.moved hW.alike hK, hD⟩, hS.F ht⟩) hS.2.2 dX1_kindOfSmalls_164
                · skip
                  refine lv_iconst (v := 2) hx hb dX1_kindOfSmalls_159 (by decide) ?_
                  refine lv_goto (tgt := 164) hx hb dX1_kindOfSmalls_160 (by decide) ?_
                  subst hAe
                  rw [hQ]
                  exact W.iret (v := 2) hx hb hr (fun t ht hW => ⟨⟨2, _, rfl, ⟨v_b_digits_10, rfl, by first | assumption | omega | (intros; omega) | decide, by first | assumption | omega | (intros; omega) | decide, by first | assumption | omega | (intros; omega) | decide⟩, by rw [ht]; exact hP, va_K.moved hW.alike hK, hD⟩, hS.F ht⟩) hS.2.2 dX1_kindOfSmalls_164
              · skip
                refine lv_aload_n hx hb dX1_kindOfSmalls_134 rfl (lv_at hl 0 rfl) ?_
                refine va_get (D := D) (ci := 0) (v := .ref (q 2)) (C := RX1) (T := TX1) (N := 7) hx hb hts hinX1 hown hK hP 11 rfl rfl 0 (by decide) k_3_6 (fun _ h9 => h9) rfl dX1_kindOfSmalls_135 ?_
                refine lv_iload_n hx hb dX1_kindOfSmalls_138 rfl (lv_at hl 2 rfl) ?_
                refine m_bald hx hb hK hP 2 2 rfl rfl (ix (by omega) (by omega)) dX1_kindOfSmalls_139 (fun x139 e_x139 => ?_)
                have b_x139 := iB x139
                refine lv_bipush (v := 57) hx hb dX1_kindOfSmalls_140 (by decide) ?_
                refine m_icmp_gt (X := x139.toInt) (Y := 57) (tgt := 147) hx hb dX1_kindOfSmalls_142 (by decide) rfl (by decide) (fun c142 => ?_) (fun c142 => ?_)
                · skip
                  obtain ⟨x147, e_x147⟩ : ∃ z : Int32, z = l2_126 + (1 : Int32) := ⟨_, rfl⟩
                  obtain ⟨k_x147, g_x147⟩ : ∃ k : Int, x147.toInt = l2_126.toInt + (1) + k * 4294967296 := by rw [e_x147]; exact iAdd l2_126 (1)
                  have b_x147 := iB x147
                  try (have q_x147 : x147.toInt = l2_126.toInt + (1) := (by omega); clear g_x147 k_x147)
                  refine lv_iinc (v := x147) (lv' := [(2, .int x147), (0, .ref (q 11)), (1, .int x58)]) hx hb dX1_kindOfSmalls_147 hl (k := 2) rfl (by rw [e_x147]; rfl) (by decide) rfl (fun ls hl => ?_)
                  refine lv_goto (tgt := 126) hx hb dX1_kindOfSmalls_150 (by decide) ?_
                  exact ih126 x147 H locs ls (by first | assumption | omega | (intros; omega) | decide) (by first | assumption | omega | (intros; omega) | decide) (by omega) hP hD hS (lv_sub hl [1, 2, 0] rfl)
                · skip
                  refine lv_iconst (v := 1) hx hb dX1_kindOfSmalls_145 (by decide) ?_
                  subst hAe
                  rw [hQ]
                  exact W.iret (v := 1) hx hb hr (fun t ht hW => ⟨⟨1, _, rfl, ⟨v_b_digits_10, rfl, by first | assumption | omega | (intros; omega) | decide, by first | assumption | omega | (intros; omega) | decide, by first | assumption | omega | (intros; omega) | decide⟩, by rw [ht]; exact hP, va_K.moved hW.alike hK, hD⟩, hS.F ht⟩) hS.2.2 dX1_kindOfSmalls_146
          exact J126 ((v_b_to.toInt - v_b_from.toInt).toNat + 1) v_b_from H locs ls (by first | assumption | omega | (intros; omega) | decide) (by first | assumption | omega | (intros; omega) | decide) (by omega) hP hD hS (lv_sub hl [2, 1, 0] rfl)
        · skip
          refine lv_iload_n hx hb dX1_kindOfSmalls_67 rfl (lv_at hl 0 rfl) ?_
          have J101 : ∀ (s0_101 : Int32) (H : Heap) (locs : List Loc) (ls : Array Slot), (s0_101.toInt = 0 ∨ s0_101.toInt = 1) → va_P D vwCl (tw cs q v_t_tapeSize v_t_textSize v_t_faultKind a_t_tape a_t_text a_g_beyond v_g_size a_g_steps a_h_beyond v_h_size a_h_steps a_r_scratch a_r_now v_r_takes v_r_negative v_r_namePlace v_r_faultKind v_r_faultPlace v_a_size v_a_limit v_a_digits v_a_kind v_a_from v_a_to v_o_size a_o_out v_b_size v_b_limit v_b_digits_10 v_b_kind v_b_from v_b_to a_u_atom a_u_other a_u_hand v_u_marksMade v_u_came v_u_guesses v_u_right v_u_taken a_u_vars a_u_marks a_u_outcomes a_u_indexes v_s_things v_s_looked v_s_lookedTooOften v_s_arraysMade v_s_cellsMade a_s_classes a_s_starts a_s_lengths a_s_cells a_L a_K a_vc a_vd a_si a_sj a_iv a_inn a_ac) H → va_D A (tw cs q v_t_tapeSize v_t_textSize v_t_faultKind a_t_tape a_t_text a_g_beyond v_g_size a_g_steps a_h_beyond v_h_size a_h_steps a_r_scratch a_r_now v_r_takes v_r_negative v_r_namePlace v_r_faultKind v_r_faultPlace v_a_size v_a_limit v_a_digits v_a_kind v_a_from v_a_to v_o_size a_o_out v_b_size v_b_limit v_b_digits_10 v_b_kind v_b_from v_b_to a_u_atom a_u_other a_u_hand v_u_marksMade v_u_came v_u_guesses v_u_right v_u_taken a_u_vars a_u_marks a_u_outcomes a_u_indexes v_s_things v_s_looked v_s_lookedTooOften v_s_arraysMade v_s_cellsMade a_s_classes a_s_starts a_s_lengths a_s_cells a_L a_K a_vc a_vd a_si a_sj a_iv a_inn a_ac) → va_S A s.heap H locs → lv_has ls 3 [(0, .ref (q 11))] → W p l e (headSpec (wG yX1_kindOfSmalls cX1_kindOfSmalls 3 (some .int)) rmX1_kindOfSmalls_qb).room s m ([.ref (q 11)] : List Value).toArray below meth c H locs 0 0 Q (F0 m 101 ls [.int s0_101]) := by
            intro s0_101 H locs ls f101_0 hP hD hS hl
            refine lv_istore_n (lv' := [(2, .int s0_101), (0, .ref (q 11))]) hx hb dX1_kindOfSmalls_101 rfl hl (by decide) rfl (fun ls hl => ?_)
            refine lv_iload_n hx hb dX1_kindOfSmalls_102 rfl (lv_at hl 0 rfl) ?_
            refine m_if_eq (X := s0_101.toInt) (tgt := 119) hx hb dX1_kindOfSmalls_103 (by decide) rfl (fun c103 => ?_) (fun c103 => ?_)
            · skip
              refine lv_iconst (v := 1) hx hb dX1_kindOfSmalls_119 (by decide) ?_
              subst hAe
              rw [hQ]
              exact W.iret (v := 1) hx hb hr (fun t ht hW => ⟨⟨1, _, rfl, ⟨v_b_digits_10, rfl, by first | assumption | omega | (intros; omega) | decide, by first | assumption | omega | (intros; omega) | decide, by first | assumption | omega | (intros; omega) | decide⟩, by rw [ht]; exact hP, va_K.moved hW.alike hK, hD⟩, hS.F ht⟩) hS.2.2 dX1_kindOfSmalls_120
            · skip
              refine lv_aload_n hx hb dX1_kindOfSmalls_106 rfl (lv_at hl 1 rfl) ?_
              refine va_get (D := D) (ci := 0) (v := .int v_b_digits_10) (C := RX1) (T := TX1) (N := 7) hx hb hts hinX1 hown hK hP 11 rfl rfl 3 (by decide) k_10_6 (fun _ h9 => h9) rfl dX1_kindOfSmalls_107 ?_
              refine lv_bipush (v := 19) hx hb dX1_kindOfSmalls_110 (by decide) ?_
              refine m_icmp_gt (X := v_b_digits_10.toInt) (Y := 19) (tgt := 119) hx hb dX1_kindOfSmalls_112 (by decide) rfl (by decide) (fun c112 => ?_) (fun c112 => ?_)
              · skip
                refine lv_iconst (v := 1) hx hb dX1_kindOfSmalls_119 (by decide) ?_
                subst hAe
                rw [hQ]
                exact W.iret (v := 1) hx hb hr (fun t ht hW => ⟨⟨1, _, rfl, ⟨v_b_digits_10, rfl, by first | assumption | omega | (intros; omega) | decide, by first | assumption | omega | (intros; omega) | decide, by first | assumption | omega | (intros; omega) | decide⟩, by rw [ht]; exact hP, va_K.moved hW.alike hK, hD⟩, hS.F ht⟩) hS.2.2 dX1_kindOfSmalls_120
              · skip
                refine lv_iconst (v := 3) hx hb dX1_kindOfSmalls_115 (by decide) ?_
                refine lv_goto (tgt := 120) hx hb dX1_kindOfSmalls_116 (by decide) ?_
                subst hAe
                rw [hQ]
                exact W.iret (v := 3) hx hb hr (fun t ht hW => ⟨⟨3, _, rfl, ⟨v_b_digits_10, rfl, by first | assumption | omega | (intros; omega) | decide, by first | assumption | omega | (intros; omega) | decide, by first | assumption | omega | (intros; omega) | decide⟩, by rw [ht]; exact hP, va_K.moved hW.alike hK, hD⟩, hS.F ht⟩) hS.2.2 dX1_kindOfSmalls_120
          have J96 : ∀ (H : Heap) (locs : List Loc) (ls : Array Slot), va_P D vwCl (tw cs q v_t_tapeSize v_t_textSize v_t_faultKind a_t_tape a_t_text a_g_beyond v_g_size a_g_steps a_h_beyond v_h_size a_h_steps a_r_scratch a_r_now v_r_takes v_r_negative v_r_namePlace v_r_faultKind v_r_faultPlace v_a_size v_a_limit v_a_digits v_a_kind v_a_from v_a_to v_o_size a_o_out v_b_size v_b_limit v_b_digits_10 v_b_kind v_b_from v_b_to a_u_atom a_u_other a_u_hand v_u_marksMade v_u_came v_u_guesses v_u_right v_u_taken a_u_vars a_u_marks a_u_outcomes a_u_indexes v_s_things v_s_looked v_s_lookedTooOften v_s_arraysMade v_s_cellsMade a_s_classes a_s_starts a_s_lengths a_s_cells a_L a_K a_vc a_vd a_si a_sj a_iv a_inn a_ac) H → va_D A (tw cs q v_t_tapeSize v_t_textSize v_t_faultKind a_t_tape a_t_text a_g_beyond v_g_size a_g_steps a_h_beyond v_h_size a_h_steps a_r_scratch a_r_now v_r_takes v_r_negative v_r_namePlace v_r_faultKind v_r_faultPlace v_a_size v_a_limit v_a_digits v_a_kind v_a_from v_a_to v_o_size a_o_out v_b_size v_b_limit v_b_digits_10 v_b_kind v_b_from v_b_to a_u_atom a_u_other a_u_hand v_u_marksMade v_u_came v_u_guesses v_u_right v_u_taken a_u_vars a_u_marks a_u_outcomes a_u_indexes v_s_things v_s_looked v_s_lookedTooOften v_s_arraysMade v_s_cellsMade a_s_classes a_s_starts a_s_lengths a_s_cells a_L a_K a_vc a_vd a_si a_sj a_iv a_inn a_ac) → va_S A s.heap H locs → lv_has ls 3 [(0, .ref (q 11))] → W p l e (headSpec (wG yX1_kindOfSmalls cX1_kindOfSmalls 3 (some .int)) rmX1_kindOfSmalls_qb).room s m ([.ref (q 11)] : List Value).toArray below meth c H locs 0 0 Q (F0 m 96 ls []) := by
            intro H locs ls hP hD hS hl
            refine lv_iconst (v := 1) hx hb dX1_kindOfSmalls_96 (by decide) ?_
            refine lv_goto (tgt := 101) hx hb dX1_kindOfSmalls_97 (by decide) ?_
            exact J101 (1 : Int32) H locs ls (by first | decide | omega) hP hD hS (lv_sub hl [0] rfl)
          refine m_if_eq (X := x58.toInt) (tgt := 96) hx hb dX1_kindOfSmalls_68 (by decide) rfl (fun c68 => ?_) (fun c68 => ?_)
          · skip
            exact J96 H locs ls hP hD hS (lv_sub hl [1] rfl)
          · skip
            refine lv_iload_n hx hb dX1_kindOfSmalls_71 rfl (lv_at hl 0 rfl) ?_
            refine lv_iconst (v := 1) hx hb dX1_kindOfSmalls_72 (by decide) ?_
            have J100 : ∀ (H : Heap) (locs : List Loc) (ls : Array Slot), va_P D vwCl (tw cs q v_t_tapeSize v_t_textSize v_t_faultKind a_t_tape a_t_text a_g_beyond v_g_size a_g_steps a_h_beyond v_h_size a_h_steps a_r_scratch a_r_now v_r_takes v_r_negative v_r_namePlace v_r_faultKind v_r_faultPlace v_a_size v_a_limit v_a_digits v_a_kind v_a_from v_a_to v_o_size a_o_out v_b_size v_b_limit v_b_digits_10 v_b_kind v_b_from v_b_to a_u_atom a_u_other a_u_hand v_u_marksMade v_u_came v_u_guesses v_u_right v_u_taken a_u_vars a_u_marks a_u_outcomes a_u_indexes v_s_things v_s_looked v_s_lookedTooOften v_s_arraysMade v_s_cellsMade a_s_classes a_s_starts a_s_lengths a_s_cells a_L a_K a_vc a_vd a_si a_sj a_iv a_inn a_ac) H → va_D A (tw cs q v_t_tapeSize v_t_textSize v_t_faultKind a_t_tape a_t_text a_g_beyond v_g_size a_g_steps a_h_beyond v_h_size a_h_steps a_r_scratch a_r_now v_r_takes v_r_negative v_r_namePlace v_r_faultKind v_r_faultPlace v_a_size v_a_limit v_a_digits v_a_kind v_a_from v_a_to v_o_size a_o_out v_b_size v_b_limit v_b_digits_10 v_b_kind v_b_from v_b_to a_u_atom a_u_other a_u_hand v_u_marksMade v_u_came v_u_guesses v_u_right v_u_taken a_u_vars a_u_marks a_u_outcomes a_u_indexes v_s_things v_s_looked v_s_lookedTooOften v_s_arraysMade v_s_cellsMade a_s_classes a_s_starts a_s_lengths a_s_cells a_L a_K a_vc a_vd a_si a_sj a_iv a_inn a_ac) → va_S A s.heap H locs → lv_has ls 3 [(0, .ref (q 11))] → W p l e (headSpec (wG yX1_kindOfSmalls cX1_kindOfSmalls 3 (some .int)) rmX1_kindOfSmalls_qb).room s m ([.ref (q 11)] : List Value).toArray below meth c H locs 0 0 Q (F0 m 100 ls []) := by
              intro H locs ls hP hD hS hl
              refine lv_iconst (v := 0) hx hb dX1_kindOfSmalls_100 (by decide) ?_
              exact J101 (0 : Int32) H locs ls (by first | decide | omega) hP hD hS (lv_sub hl [0] rfl)
            refine m_icmp_ne (X := x58.toInt) (Y := 1) (tgt := 100) hx hb dX1_kindOfSmalls_73 (by decide) rfl (by decide) (fun c73 => ?_) (fun c73 => ?_)
            · skip
              exact J100 H locs ls hP hD hS (lv_sub hl [1] rfl)
            · skip
              refine va_ldcS hx hb hown (ld_0 hE) dX1_kindOfSmalls_76 ?_
              refine lv_aload_n hx hb dX1_kindOfSmalls_78 rfl (lv_at hl 1 rfl) ?_
              refine va_get (D := D) (ci := 0) (v := .ref (q 2)) (C := RX1) (T := TX1) (N := 7) hx hb hts hinX1 hown hK hP 11 rfl rfl 0 (by decide) k_3_6 (fun _ h9 => h9) rfl dX1_kindOfSmalls_79 ?_
              refine lv_aload_n hx hb dX1_kindOfSmalls_82 rfl (lv_at hl 1 rfl) ?_
              refine va_get (D := D) (ci := 0) (v := .int v_b_to) (C := RX1) (T := TX1) (N := 7) hx hb hts hinX1 hown hK hP 11 rfl rfl 6 (by decide) k_9_16 (fun _ h9 => h9) rfl dX1_kindOfSmalls_83 ?_
              refine lv_iconst (v := 1) hx hb dX1_kindOfSmalls_86 (by decide) ?_
              refine m_isub (X := v_b_to.toInt) (Y := 1) hx hb dX1_kindOfSmalls_87 rfl (by decide) (fun x87 e_x87 g9 => ?_)
              obtain ⟨k_x87, g_x87⟩ := g9
              have b_x87 := iB x87
              try (have q_x87 : x87.toInt = v_b_to.toInt - 1 := (by omega); clear g_x87 k_x87)
              refine m_bald hx hb hK hP 2 2 rfl rfl (ix (by omega) (by omega)) dX1_kindOfSmalls_88 (fun x88 e_x88 => ?_)
              have b_x88 := iB x88
              refine m_i2c hx hb dX1_kindOfSmalls_89 (fun x89 e_x89 => ?_)
              have b_x89 := iB x89
              refine call_iP (As := [.int x89]) (rest := []) ⟨hx, hb, hml, hown, hts⟩ (tJ0_indexOf_0f7a4 (l := l) 0 so_0 x89) (cwV 1 hts (gV (wr10 _ (List.mem_of_getElem? (i := 7) rfl)) (wr10 _ (List.mem_of_getElem? (i := 8) rfl)) (wr10 _ (List.mem_of_getElem? (i := 9) rfl)) (wr10 _ (List.mem_of_getElem? (i := 10) rfl)) (wr10 _ (List.mem_of_getElem? (i := 11) rfl))) rfl rfl rfl (by decide +kernel) ⟨Nat.le_of_ble_eq_true rfl, Nat.le_of_ble_eq_true rfl⟩) (sRecv (hE.str so_0) hS) (hK.sub [] rfl) hP hD hE hS hA rfl hl.1 rfl (Nat.le_of_ble_eq_true rfl) dX1_kindOfSmalls_90 ⟨Nat.le_of_ble_eq_true rfl, Nat.le_of_ble_eq_true rfl⟩ (fun r90 w9 H locs hw90 hP hD hS => ?_)
              obtain ⟨rfl⟩ := hw90
              have b_r90 := iB r90
              refine m_if_lt (X := r90.toInt) (tgt := 100) hx hb dX1_kindOfSmalls_93 (by decide) rfl (fun c93 => ?_) (fun c93 => ?_)
              · skip
                exact J100 H locs ls hP hD hS (lv_sub hl [1] rfl)
              · skip
                exact J96 H locs ls hP hD hS (lv_sub hl [1] rfl)
      refine m_icmp_ge (X := l1_10.toInt) (Y := v_b_to.toInt) (tgt := 45) hx hb dX1_kindOfSmalls_15 (by decide) rfl rfl (fun c15 => ?_) (fun c15 => ?_)
      · skip
        exact J45 H locs ls (by trivial) hP hD hS (lv_sub hl [0] rfl)
      · skip
        refine lv_aload_n hx hb dX1_kindOfSmalls_18 rfl (lv_at hl 0 rfl) ?_
        refine va_get (D := D) (ci := 0) (v := .ref (q 2)) (C := RX1) (T := TX1) (N := 7) hx hb hts hinX1 hown hK hP 11 rfl rfl 0 (by decide) k_3_6 (fun _ h9 => h9) rfl dX1_kindOfSmalls_19 ?_
        refine lv_iload_n hx hb dX1_kindOfSmalls_22 rfl (lv_at hl 1 rfl) ?_
        refine m_bald hx hb hK hP 2 2 rfl rfl (ix (by omega) (by omega)) dX1_kindOfSmalls_23 (fun x23 e_x23 => ?_)
        have b_x23 := iB x23
        refine lv_bipush (v := 57) hx hb dX1_kindOfSmalls_24 (by decide) ?_
        refine m_icmp_gt (X := x23.toInt) (Y := 57) (tgt := 45) hx hb dX1_kindOfSmalls_26 (by decide) rfl (by decide) (fun c26 => ?_) (fun c26 => ?_)
        · skip
          exact J45 H locs ls (by trivial) hP hD hS (lv_sub hl [0] rfl)
        · skip
          refine lv_aload_n hx hb dX1_kindOfSmalls_29 rfl (lv_at hl 0 rfl) ?_
          refine lv_dup hx hb dX1_kindOfSmalls_30 rfl ?_
          refine va_get (D := D) (ci := 0) (v := .int v_b_digits_10) (C := RX1) (T := TX1) (N := 7) hx hb hts hinX1 hown hK hP 11 rfl rfl 3 (by decide) k_10_6 (fun _ h9 => h9) rfl dX1_kindOfSmalls_31 ?_
          refine lv_iconst (v := 1) hx hb dX1_kindOfSmalls_34 (by decide) ?_
          refine m_iadd (X := v_b_digits_10.toInt) (Y := 1) hx hb dX1_kindOfSmalls_35 rfl (by decide) (fun x35 e_x35 g9 => ?_)
          obtain ⟨k_x35, g_x35⟩ := g9
          have b_x35 := iB x35
          try (have q_x35 : x35.toInt = v_b_digits_10.toInt + 1 := (by omega); clear g_x35 k_x35)
          refine va_put (D := D) (ci := 0) (v := .int x35) (ty := .int) (C := RX1) (T := TX1) (N := 7) hx hb hts hinX1 tyX1 tyX1_ok nmX1 hown hK hP hD hS 11 rfl rfl 3 (by decide) k_10_6 (fun _ h9 => h9) rfl (by decide +kernel) rfl rfl (Nat.le_of_ble_eq_true rfl) dX1_kindOfSmalls_36 (fun H locs hP hD hS => ?_)
          have hP : va_P D vwCl (tw cs q v_t_tapeSize v_t_textSize v_t_faultKind a_t_tape a_t_text a_g_beyond v_g_size a_g_steps a_h_beyond v_h_size a_h_steps a_r_scratch a_r_now v_r_takes v_r_negative v_r_namePlace v_r_faultKind v_r_faultPlace v_a_size v_a_limit v_a_digits v_a_kind v_a_from v_a_to v_o_size a_o_out v_b_size v_b_limit x35 v_b_kind v_b_from v_b_to a_u_atom a_u_other a_u_hand v_u_marksMade v_u_came v_u_guesses v_u_right v_u_taken a_u_vars a_u_marks a_u_outcomes a_u_indexes v_s_things v_s_looked v_s_lookedTooOften v_s_arraysMade v_s_cellsMade a_s_classes a_s_starts a_s_lengths a_s_cells a_L a_K a_vc a_vd a_si a_sj a_iv a_inn a_ac) H := hP
          have hD : va_D A (tw cs q v_t_tapeSize v_t_textSize v_t_faultKind a_t_tape a_t_text a_g_beyond v_g_size a_g_steps a_h_beyond v_h_size a_h_steps a_r_scratch a_r_now v_r_takes v_r_negative v_r_namePlace v_r_faultKind v_r_faultPlace v_a_size v_a_limit v_a_digits v_a_kind v_a_from v_a_to v_o_size a_o_out v_b_size v_b_limit x35 v_b_kind v_b_from v_b_to a_u_atom a_u_other a_u_hand v_u_marksMade v_u_came v_u_guesses v_u_right v_u_taken a_u_vars a_u_marks a_u_outcomes a_u_indexes v_s_things v_s_looked v_s_lookedTooOften v_s_arraysMade v_s_cellsMade a_s_classes a_s_starts a_s_lengths a_s_cells a_L a_K a_vc a_vd a_si a_sj a_iv a_inn a_ac) := hD
          obtain ⟨x39, e_x39⟩ : ∃ z : Int32, z = l1_10 + (1 : Int32) := ⟨_, rfl⟩
          obtain ⟨k_x39, g_x39⟩ : ∃ k : Int, x39.toInt = l1_10.toInt + (1) + k * 4294967296 := by rw [e_x39]; exact iAdd l1_10 (1)
          have b_x39 := iB x39
          try (have q_x39 : x39.toInt = l1_10.toInt + (1) := (by omega); clear g_x39 k_x39)
          refine lv_iinc (v := x39) (lv' := [(1, .int x39), (0, .ref (q 11))]) hx hb dX1_kindOfSmalls_39 hl (k := 1) rfl (by rw [e_x39]; rfl) (by decide) rfl (fun ls hl => ?_)
          refine lv_goto (tgt := 10) hx hb dX1_kindOfSmalls_42 (by decide) ?_
          exact ih10 x39 x35 H locs ls (by first | assumption | omega | (intros; omega) | decide) (by first | assumption | omega | (intros; omega) | decide) (by first | assumption | omega | (intros; omega) | decide) (by omega) hP hD hS (lv_sub hl [1, 0] rfl)
  exact J10 ((v_b_to.toInt - v_b_from.toInt).toNat + 1) v_b_from (0 : Int32) H locs ls (by first | assumption | omega | (intros; omega) | decide) (by first | assumption | omega | (intros; omega) | decide) (by first | assumption | omega | (intros; omega) | decide) (by omega) hP hD hS (lv_sub hl [1, 0] rfl)

def rmX1_kindOfOther_qb : Room := { frames := 100, cells := 0, slots := 0, locals := 2000 }
set_option maxHeartbeats 4000000 in
set_option maxRecDepth 100000 in
theorem tX1_kindOfOther_qb {l : Launch} {D : va_G} {K : Nat → Nat → Nat} {cs : Nat → ClassId} {q : Nat → Nat} {v_t_tapeSize v_t_textSize v_t_faultKind v_g_size v_h_size v_r_takes v_r_negative v_r_namePlace v_r_faultKind v_r_faultPlace v_a_size v_a_limit v_a_digits v_a_kind v_a_from v_a_to v_o_size v_b_size v_b_limit v_b_digits v_b_kind v_b_from v_b_to v_u_marksMade v_u_came v_u_guesses v_u_right v_u_taken v_s_things v_s_looked v_s_lookedTooOften v_s_arraysMade v_s_cellsMade : Int32} {a_t_tape a_t_text a_o_out a_u_outcomes a_u_indexes a_s_classes a_s_starts a_s_lengths a_vc : Nat → Int32} {a_g_beyond a_h_beyond a_r_scratch a_r_now a_u_atom a_u_other a_u_hand : Nat} {a_g_steps a_h_steps a_u_vars a_u_marks : Nat → Option Nat} {a_s_cells a_vd a_sj : Nat → Int64} {a_L : List Nat} {a_K a_iv a_inn : Nat → Nat} {a_si a_ac : Nat → Nat → Int32} (p_0 : 0 ≤ v_b_from.toInt) (p_1 : v_b_from.toInt < v_b_size.toInt) (p_2 : v_b_size.toInt ≤ 3000) : CtI l yX1_kindOfOther (wG yX1_kindOfOther cX1_kindOfOther 1 (some .int)) rmX1_kindOfOther_qb D (twT cs) K [.ref (q 11)] (tw cs q v_t_tapeSize v_t_textSize v_t_faultKind a_t_tape a_t_text a_g_beyond v_g_size a_g_steps a_h_beyond v_h_size a_h_steps a_r_scratch a_r_now v_r_takes v_r_negative v_r_namePlace v_r_faultKind v_r_faultPlace v_a_size v_a_limit v_a_digits v_a_kind v_a_from v_a_to v_o_size a_o_out v_b_size v_b_limit v_b_digits v_b_kind v_b_from v_b_to a_u_atom a_u_other a_u_hand v_u_marksMade v_u_came v_u_guesses v_u_right v_u_taken a_u_vars a_u_marks a_u_outcomes a_u_indexes v_s_things v_s_looked v_s_lookedTooOften v_s_arraysMade v_s_cellsMade a_s_classes a_s_starts a_s_lengths a_s_cells a_L a_K a_vc a_vd a_si a_sj a_iv a_inn a_ac) (fun r w1 => ∃ (v_b_to' : Int32), w1 = (tw cs q v_t_tapeSize v_t_textSize v_t_faultKind a_t_tape a_t_text a_g_beyond v_g_size a_g_steps a_h_beyond v_h_size a_h_steps a_r_scratch a_r_now v_r_takes v_r_negative v_r_namePlace v_r_faultKind v_r_faultPlace v_a_size v_a_limit v_a_digits v_a_kind v_a_from v_a_to v_o_size a_o_out v_b_size v_b_limit v_b_digits v_b_kind v_b_from v_b_to' a_u_atom a_u_other a_u_hand v_u_marksMade v_u_came v_u_guesses v_u_right v_u_taken a_u_vars a_u_marks a_u_outcomes a_u_indexes v_s_things v_s_looked v_s_lookedTooOften v_s_arraysMade v_s_cellsMade a_s_classes a_s_starts a_s_lengths a_s_cells a_L a_K a_vc a_vd a_si a_sj a_iv a_inn a_ac) ∧ (v_b_to'.toInt = v_b_from.toInt + 1) ∧ (r.toInt = 1 ∨ r.toInt = 4)) 0 0 := by
  intro sz
  refine Met.ofW (cc := cX1_kindOfOther) (maxL := 1) (ret := (some .int)) (by decide) rfl ?_
  intro p e s m args below meth c s₁ B hml hv
  obtain ⟨rfl, hsz, hP, hK, hD0, hE⟩ := hv
  have hx := B.exec
  have hb := B.bytes
  have hr := B.returns
  have hts := atoms_spec (ws := (wG yX1_kindOfOther cX1_kindOfOther 1 (some .int))) B.pre
  have hown : s.vm.findClass RX1 = some m.cls := findClass_of_methodNamed B.named
  have hlocks := B.notSynchronized
  subst hsz
  have hD := hD0.self (sz := s.heap.size)
  obtain ⟨A, hAe⟩ : ∃ A : Nat → Prop, A = va_A (tw cs q v_t_tapeSize v_t_textSize v_t_faultKind a_t_tape a_t_text a_g_beyond v_g_size a_g_steps a_h_beyond v_h_size a_h_steps a_r_scratch a_r_now v_r_takes v_r_negative v_r_namePlace v_r_faultKind v_r_faultPlace v_a_size v_a_limit v_a_digits v_a_kind v_a_from v_a_to v_o_size a_o_out v_b_size v_b_limit v_b_digits v_b_kind v_b_from v_b_to a_u_atom a_u_other a_u_hand v_u_marksMade v_u_came v_u_guesses v_u_right v_u_taken a_u_vars a_u_marks a_u_outcomes a_u_indexes v_s_things v_s_looked v_s_lookedTooOften v_s_arraysMade v_s_cellsMade a_s_classes a_s_starts a_s_lengths a_s_cells a_L a_K a_vc a_vd a_si a_sj a_iv a_inn a_ac) s.heap.size := ⟨_, rfl⟩
  rw [← hAe] at hD hE
  have hA : ∀ q : Nat, s.heap.size ≤ q → A q := fun q h => by rw [hAe]; exact Or.inr h
  have hS : va_S A s.heap s.heap [] := va_S.rf
  have hl := lv_entry ([.ref (q 11)]) (n := 1) (Nat.le_of_ble_eq_true rfl)
  rw [lg_entry_eq]
  generalize (lg_sl ([.ref (q 11)]) ++ List.replicate (1 - (lg_sl ([.ref (q 11)])).length) Slot.unset).toArray = ls at hl ⊢
  have hl : lv_has ls 1 [(0, .ref (q 11))] := hl
  refine wq (fun Q hQ => ?_)
  have hinX1 : ∀ w ∈ wsX10, w ∈ (wG yX1_kindOfOther cX1_kindOfOther 1 (some .int)) := fun w h => List.mem_cons_of_mem _ (inlX1 w h)
  have kc0 : (1 : Int32).toInt = 1 := by decide
  have kc1 : (4 : Int32).toInt = 4 := by decide
  have kc2 : (255 : Int32).toInt = 255 := by decide
  have k_9_21 := hts (.fieldLink RX1 34 "ArrayTrainer$Lexer" "from" "I") (List.mem_cons_of_mem _ (wr9 _ (List.mem_of_getElem? (i := 21) rfl)))
  have k_9_16 := hts (.fieldLink RX1 31 "ArrayTrainer$Lexer" "to" "I") (List.mem_cons_of_mem _ (wr9 _ (List.mem_of_getElem? (i := 16) rfl)))
  have k_3_6 := hts (.fieldLink RX1 9 "ArrayTrainer$Lexer" "text" "[B") (List.mem_cons_of_mem _ (wr3 _ (List.mem_of_getElem? (i := 6) rfl)))
  obtain ⟨H, hH⟩ : ∃ H : Heap, H = s.heap := ⟨_, rfl⟩
  obtain ⟨locs, hlc⟩ : ∃ L : List Loc, L = [] := ⟨_, rfl⟩
  have hP : va_P D vwCl (tw cs q v_t_tapeSize v_t_textSize v_t_faultKind a_t_tape a_t_text a_g_beyond v_g_size a_g_steps a_h_beyond v_h_size a_h_steps a_r_scratch a_r_now v_r_takes v_r_negative v_r_namePlace v_r_faultKind v_r_faultPlace v_a_size v_a_limit v_a_digits v_a_kind v_a_from v_a_to v_o_size a_o_out v_b_size v_b_limit v_b_digits v_b_kind v_b_from v_b_to a_u_atom a_u_other a_u_hand v_u_marksMade v_u_came v_u_guesses v_u_right v_u_taken a_u_vars a_u_marks a_u_outcomes a_u_indexes v_s_things v_s_looked v_s_lookedTooOften v_s_arraysMade v_s_cellsMade a_s_classes a_s_starts a_s_lengths a_s_cells a_L a_K a_vc a_vd a_si a_sj a_iv a_inn a_ac) H := by rw [hH]; exact hP
  have hS : va_S A s.heap H locs := by rw [hH, hlc]; exact hS
  refine wHL hH hlc ?_
  refine lv_aload_n hx hb dX1_kindOfOther_0 rfl (lv_at hl 0 rfl) ?_
  refine lv_aload_n hx hb dX1_kindOfOther_1 rfl (lv_at hl 0 rfl) ?_
  refine va_get (D := D) (ci := 0) (v := .int v_b_from) (C := RX1) (T := TX1) (N := 7) hx hb hts hinX1 hown hK hP 11 rfl rfl 5 (by decide) k_9_21 (fun _ h9 => h9) rfl dX1_kindOfOther_2 ?_
  refine lv_iconst (v := 1) hx hb dX1_kindOfOther_5 (by decide) ?_
  refine m_iadd (X := v_b_from.toInt) (Y := 1) hx hb dX1_kindOfOther_6 rfl (by decide) (fun x6 e_x6 g9 => ?_)
  obtain ⟨k_x6, g_x6⟩ := g9
  have b_x6 := iB x6
  try (have q_x6 : x6.toInt = v_b_from.toInt + 1 := (by omega); clear g_x6 k_x6)
  refine va_put (D := D) (ci := 0) (v := .int x6) (ty := .int) (C := RX1) (T := TX1) (N := 7) hx hb hts hinX1 tyX1 tyX1_ok nmX1 hown hK hP hD hS 11 rfl rfl 6 (by decide) k_9_16 (fun _ h9 => h9) rfl (by decide +kernel) rfl rfl (Nat.le_of_ble_eq_true rfl) dX1_kindOfOther_7 (fun H locs hP hD hS => ?_)
  have hP : va_P D vwCl (tw cs q v_t_tapeSize v_t_textSize v_t_faultKind a_t_tape a_t_text a_g_beyond v_g_size a_g_steps a_h_beyond v_h_size a_h_steps a_r_scratch a_r_now v_r_takes v_r_negative v_r_namePlace v_r_faultKind v_r_faultPlace v_a_size v_a_limit v_a_digits v_a_kind v_a_from v_a_to v_o_size a_o_out v_b_size v_b_limit v_b_digits v_b_kind v_b_from x6 a_u_atom a_u_other a_u_hand v_u_marksMade v_u_came v_u_guesses v_u_right v_u_taken a_u_vars a_u_marks a_u_outcomes a_u_indexes v_s_things v_s_looked v_s_lookedTooOften v_s_arraysMade v_s_cellsMade a_s_classes a_s_starts a_s_lengths a_s_cells a_L a_K a_vc a_vd a_si a_sj a_iv a_inn a_ac) H := hP
  have hD : va_D A (tw cs q v_t_tapeSize v_t_textSize v_t_faultKind a_t_tape a_t_text a_g_beyond v_g_size a_g_steps a_h_beyond v_h_size a_h_steps a_r_scratch a_r_now v_r_takes v_r_negative v_r_namePlace v_r_faultKind v_r_faultPlace v_a_size v_a_limit v_a_digits v_a_kind v_a_from v_a_to v_o_size a_o_out v_b_size v_b_limit v_b_digits v_b_kind v_b_from x6 a_u_atom a_u_other a_u_hand v_u_marksMade v_u_came v_u_guesses v_u_right v_u_taken a_u_vars a_u_marks a_u_outcomes a_u_indexes v_s_things v_s_looked v_s_lookedTooOften v_s_arraysMade v_s_cellsMade a_s_classes a_s_starts a_s_lengths a_s_cells a_L a_K a_vc a_vd a_si a_sj a_iv a_inn a_ac) := hD
  refine va_ldcS hx hb hown (ld_1 hE) dX1_kindOfOther_10 ?_
  refine lv_aload_n hx hb dX1_kindOfOther_12 rfl (lv_at hl 0 rfl) ?_
  refine va_get (D := D) (ci := 0) (v := .ref (q 2)) (C := RX1) (T := TX1) (N := 7) hx hb hts hinX1 hown hK hP 11 rfl rfl 0 (by decide) k_3_6 (fun _ h9 => h9) rfl dX1_kindOfOther_13 ?_
  refine lv_aload_n hx hb dX1_kindOfOther_16 rfl (lv_at hl 0 rfl) ?_
  refine va_get (D := D) (ci := 0) (v := .int v_b_from) (C := RX1) (T := TX1) (N := 7) hx hb hts hinX1 hown hK hP 11 rfl rfl 5 (by decide) k_9_21 (fun _ h9 => h9) rfl dX1_kindOfOther_17 ?_
  refine m_bald hx hb hK hP 2 2 rfl rfl (ix (by omega) (by omega)) dX1_kindOfOther_20 (fun x20 e_x20 => ?_)
  have b_x20 := iB x20
  refine lv_sipush (v := 255) hx hb dX1_kindOfOther_21 (by decide) ?_
  refine m_iand hx hb dX1_kindOfOther_24 (fun x24 e_x24 => ?_)
  have b_x24 := iB x24
  refine m_i2c hx hb dX1_kindOfOther_25 (fun x25 e_x25 => ?_)
  have b_x25 := iB x25
  refine call_iP (As := [.int x25]) (rest := []) ⟨hx, hb, hml, hown, hts⟩ (tJ0_indexOf_0f7a4 (l := l) 1 so_1 x25) (cwV 1 hts (gV (wr10 _ (List.mem_of_getElem? (i := 7) rfl)) (wr10 _ (List.mem_of_getElem? (i := 8) rfl)) (wr10 _ (List.mem_of_getElem? (i := 9) rfl)) (wr10 _ (List.mem_of_getElem? (i := 10) rfl)) (wr10 _ (List.mem_of_getElem? (i := 11) rfl))) rfl rfl rfl (by decide +kernel) ⟨Nat.le_of_ble_eq_true rfl, Nat.le_of_ble_eq_true rfl⟩) (sRecv (hE.str so_1) hS) (hK.sub [] rfl) hP hD hE hS hA rfl hl.1 rfl (Nat.le_of_ble_eq_true rfl) dX1_kindOfOther_26 ⟨Nat.le_of_ble_eq_true rfl, Nat.le_of_ble_eq_true rfl⟩ (fun r26 w9 H locs hw26 hP hD hS => ?_)
  obtain ⟨rfl⟩ := hw26
  have b_r26 := iB r26
  refine m_if_lt (X := r26.toInt) (tgt := 36) hx hb dX1_kindOfOther_29 (by decide) rfl (fun c29 => ?_) (fun c29 => ?_)
  · skip
    refine lv_iconst (v := 1) hx hb dX1_kindOfOther_36 (by decide) ?_
    subst hAe
    rw [hQ]
    exact W.iret (v := 1) hx hb hr (fun t ht hW => ⟨⟨1, _, rfl, ⟨x6, rfl, by first | assumption | omega | (intros; omega) | decide, by first | assumption | omega | (intros; omega) | decide⟩, by rw [ht]; exact hP, va_K.moved hW.alike hK, hD⟩, hS.F ht⟩) hS.2.2 dX1_kindOfOther_37
  · skip
    refine lv_iconst (v := 4) hx hb dX1_kindOfOther_32 (by decide) ?_
    refine lv_goto (tgt := 37) hx hb dX1_kindOfOther_33 (by decide) ?_
    subst hAe
    rw [hQ]
    exact W.iret (v := 4) hx hb hr (fun t ht hW => ⟨⟨4, _, rfl, ⟨x6, rfl, by first | assumption | omega | (intros; omega) | decide, by first | assumption | omega | (intros; omega) | decide⟩, by rw [ht]; exact hP, va_K.moved hW.alike hK, hD⟩, hS.F ht⟩) hS.2.2 dX1_kindOfOther_37

def rmX1_next_qb : Room := { frames := 120, cells := 0, slots := 0, locals := 2400 }
set_option maxHeartbeats 4000000 in
set_option maxRecDepth 100000 in
theorem tX1_next_qb {l : Launch} {D : va_G} {K : Nat → Nat → Nat} {cs : Nat → ClassId} {q : Nat → Nat} {v_t_tapeSize v_t_textSize v_t_faultKind v_g_size v_h_size v_r_takes v_r_negative v_r_namePlace v_r_faultKind v_r_faultPlace v_a_size v_a_limit v_a_digits v_a_kind v_a_from v_a_to v_o_size v_b_size v_b_limit v_b_digits v_b_kind v_b_from v_b_to v_u_marksMade v_u_came v_u_guesses v_u_right v_u_taken v_s_things v_s_looked v_s_lookedTooOften v_s_arraysMade v_s_cellsMade : Int32} {a_t_tape a_t_text a_o_out a_u_outcomes a_u_indexes a_s_classes a_s_starts a_s_lengths a_vc : Nat → Int32} {a_g_beyond a_h_beyond a_r_scratch a_r_now a_u_atom a_u_other a_u_hand : Nat} {a_g_steps a_h_steps a_u_vars a_u_marks : Nat → Option Nat} {a_s_cells a_vd a_sj : Nat → Int64} {a_L : List Nat} {a_K a_iv a_inn : Nat → Nat} {a_si a_ac : Nat → Nat → Int32} (p_0 : LI0 3000 v_b_size v_b_limit v_b_digits v_b_to) : CtV l yX1_next (wG yX1_next cX1_next 2 none) rmX1_next_qb D (twT cs) K [.ref (q 11)] (tw cs q v_t_tapeSize v_t_textSize v_t_faultKind a_t_tape a_t_text a_g_beyond v_g_size a_g_steps a_h_beyond v_h_size a_h_steps a_r_scratch a_r_now v_r_takes v_r_negative v_r_namePlace v_r_faultKind v_r_faultPlace v_a_size v_a_limit v_a_digits v_a_kind v_a_from v_a_to v_o_size a_o_out v_b_size v_b_limit v_b_digits v_b_kind v_b_from v_b_to a_u_atom a_u_other a_u_hand v_u_marksMade v_u_came v_u_guesses v_u_right v_u_taken a_u_vars a_u_marks a_u_outcomes a_u_indexes v_s_things v_s_looked v_s_lookedTooOften v_s_arraysMade v_s_cellsMade a_s_classes a_s_starts a_s_lengths a_s_cells a_L a_K a_vc a_vd a_si a_sj a_iv a_inn a_ac) (fun w1 => ∃ (v_b_digits' : Int32) (v_b_kind' : Int32) (v_b_from' : Int32) (v_b_to' : Int32), w1 = (tw cs q v_t_tapeSize v_t_textSize v_t_faultKind a_t_tape a_t_text a_g_beyond v_g_size a_g_steps a_h_beyond v_h_size a_h_steps a_r_scratch a_r_now v_r_takes v_r_negative v_r_namePlace v_r_faultKind v_r_faultPlace v_a_size v_a_limit v_a_digits v_a_kind v_a_from v_a_to v_o_size a_o_out v_b_size v_b_limit v_b_digits' v_b_kind' v_b_from' v_b_to' a_u_atom a_u_other a_u_hand v_u_marksMade v_u_came v_u_guesses v_u_right v_u_taken a_u_vars a_u_marks a_u_outcomes a_u_indexes v_s_things v_s_looked v_s_lookedTooOften v_s_arraysMade v_s_cellsMade a_s_classes a_s_starts a_s_lengths a_s_cells a_L a_K a_vc a_vd a_si a_sj a_iv a_inn a_ac) ∧ (LI 3000 v_b_size v_b_limit v_b_digits' v_b_kind' v_b_from' v_b_to')) 0 0 := by
  intro sz
  refine Met.ofW (cc := cX1_next) (maxL := 2) (ret := none) (by decide) rfl ?_
  intro p e s m args below meth c s₁ B hml hv
  obtain ⟨rfl, hsz, hP, hK, hD0, hE⟩ := hv
  have hx := B.exec
  have hb := B.bytes
  have hr := B.returns
  have hts := atoms_spec (ws := (wG yX1_next cX1_next 2 none)) B.pre
  have hown : s.vm.findClass RX1 = some m.cls := findClass_of_methodNamed B.named
  have hlocks := B.notSynchronized
  subst hsz
  have hD := hD0.self (sz := s.heap.size)
  obtain ⟨A, hAe⟩ : ∃ A : Nat → Prop, A = va_A (tw cs q v_t_tapeSize v_t_textSize v_t_faultKind a_t_tape a_t_text a_g_beyond v_g_size a_g_steps a_h_beyond v_h_size a_h_steps a_r_scratch a_r_now v_r_takes v_r_negative v_r_namePlace v_r_faultKind v_r_faultPlace v_a_size v_a_limit v_a_digits v_a_kind v_a_from v_a_to v_o_size a_o_out v_b_size v_b_limit v_b_digits v_b_kind v_b_from v_b_to a_u_atom a_u_other a_u_hand v_u_marksMade v_u_came v_u_guesses v_u_right v_u_taken a_u_vars a_u_marks a_u_outcomes a_u_indexes v_s_things v_s_looked v_s_lookedTooOften v_s_arraysMade v_s_cellsMade a_s_classes a_s_starts a_s_lengths a_s_cells a_L a_K a_vc a_vd a_si a_sj a_iv a_inn a_ac) s.heap.size := ⟨_, rfl⟩
  rw [← hAe] at hD hE
  have hA : ∀ q : Nat, s.heap.size ≤ q → A q := fun q h => by rw [hAe]; exact Or.inr h
  have hS : va_S A s.heap s.heap [] := va_S.rf
  have hl := lv_entry ([.ref (q 11)]) (n := 2) (Nat.le_of_ble_eq_true rfl)
  rw [lg_entry_eq]
  generalize (lg_sl ([.ref (q 11)]) ++ List.replicate (2 - (lg_sl ([.ref (q 11)])).length) Slot.unset).toArray = ls at hl ⊢
  have hl : lv_has ls 2 [(0, .ref (q 11))] := hl
  refine wq (fun Q hQ => ?_)
  have hinX1 : ∀ w ∈ wsX10, w ∈ (wG yX1_next cX1_next 2 none) := fun w h => List.mem_cons_of_mem _ (inlX1 w h)
  have kc0 : (0 : Int32).toInt = 0 := by decide
  have kc1 : (1 : Int32).toInt = 1 := by decide
  have kc2 : (10 : Int32).toInt = 10 := by decide
  have kc3 : (32 : Int32).toInt = 32 := by decide
  have k_9_16 := hts (.fieldLink RX1 31 "ArrayTrainer$Lexer" "to" "I") (List.mem_cons_of_mem _ (wr9 _ (List.mem_of_getElem? (i := 16) rfl)))
  have k_9_14 := hts (.fieldLink RX1 24 "ArrayTrainer$Lexer" "size" "I") (List.mem_cons_of_mem _ (wr9 _ (List.mem_of_getElem? (i := 14) rfl)))
  have k_9_21 := hts (.fieldLink RX1 34 "ArrayTrainer$Lexer" "from" "I") (List.mem_cons_of_mem _ (wr9 _ (List.mem_of_getElem? (i := 21) rfl)))
  have k_9_15 := hts (.fieldLink RX1 28 "ArrayTrainer$Lexer" "limit" "I") (List.mem_cons_of_mem _ (wr9 _ (List.mem_of_getElem? (i := 15) rfl)))
  have k_9_22 := hts (.fieldLink RX1 37 "ArrayTrainer$Lexer" "kind" "I") (List.mem_cons_of_mem _ (wr9 _ (List.mem_of_getElem? (i := 22) rfl)))
  have k_3_6 := hts (.fieldLink RX1 9 "ArrayTrainer$Lexer" "text" "[B") (List.mem_cons_of_mem _ (wr3 _ (List.mem_of_getElem? (i := 6) rfl)))
  obtain ⟨H, hH⟩ : ∃ H : Heap, H = s.heap := ⟨_, rfl⟩
  obtain ⟨locs, hlc⟩ : ∃ L : List Loc, L = [] := ⟨_, rfl⟩
  have hP : va_P D vwCl (tw cs q v_t_tapeSize v_t_textSize v_t_faultKind a_t_tape a_t_text a_g_beyond v_g_size a_g_steps a_h_beyond v_h_size a_h_steps a_r_scratch a_r_now v_r_takes v_r_negative v_r_namePlace v_r_faultKind v_r_faultPlace v_a_size v_a_limit v_a_digits v_a_kind v_a_from v_a_to v_o_size a_o_out v_b_size v_b_limit v_b_digits v_b_kind v_b_from v_b_to a_u_atom a_u_other a_u_hand v_u_marksMade v_u_came v_u_guesses v_u_right v_u_taken a_u_vars a_u_marks a_u_outcomes a_u_indexes v_s_things v_s_looked v_s_lookedTooOften v_s_arraysMade v_s_cellsMade a_s_classes a_s_starts a_s_lengths a_s_cells a_L a_K a_vc a_vd a_si a_sj a_iv a_inn a_ac) H := by rw [hH]; exact hP
  have hS : va_S A s.heap H locs := by rw [hH, hlc]; exact hS
  refine wHL hH hlc ?_
  obtain ⟨⟨h1, h2⟩, ⟨h3, h4⟩, ⟨h5, h6⟩, h9⟩ := id p_0
  have bto := iB v_b_to
  refine lv_aload_n hx hb dX1_next_0 rfl (lv_at hl 0 rfl) ?_
  refine va_get (D := D) (ci := 0) (v := .int v_b_to) (C := RX1) (T := TX1) (N := 7) hx hb hts hinX1 hown hK hP 11 rfl rfl 6 (by decide) k_9_16 (fun _ h9 => h9) rfl dX1_next_1 ?_
  refine lv_istore_n (lv' := [(1, .int v_b_to), (0, .ref (q 11))]) hx hb dX1_next_4 rfl hl (by decide) rfl (fun ls hl => ?_)
  have J5 : ∀ (n5 : Nat) (l1_5 : Int32) (H : Heap) (locs : List Loc) (ls : Array Slot), (0 ≤ l1_5.toInt) → (l1_5.toInt ≤ 2147483647) → (2147483647 - l1_5.toInt < (n5 : Int)) → va_P D vwCl (tw cs q v_t_tapeSize v_t_textSize v_t_faultKind a_t_tape a_t_text a_g_beyond v_g_size a_g_steps a_h_beyond v_h_size a_h_steps a_r_scratch a_r_now v_r_takes v_r_negative v_r_namePlace v_r_faultKind v_r_faultPlace v_a_size v_a_limit v_a_digits v_a_kind v_a_from v_a_to v_o_size a_o_out v_b_size v_b_limit v_b_digits v_b_kind v_b_from v_b_to a_u_atom a_u_other a_u_hand v_u_marksMade v_u_came v_u_guesses v_u_right v_u_taken a_u_vars a_u_marks a_u_outcomes a_u_indexes v_s_things v_s_looked v_s_lookedTooOften v_s_arraysMade v_s_cellsMade a_s_classes a_s_starts a_s_lengths a_s_cells a_L a_K a_vc a_vd a_si a_sj a_iv a_inn a_ac) H → va_D A (tw cs q v_t_tapeSize v_t_textSize v_t_faultKind a_t_tape a_t_text a_g_beyond v_g_size a_g_steps a_h_beyond v_h_size a_h_steps a_r_scratch a_r_now v_r_takes v_r_negative v_r_namePlace v_r_faultKind v_r_faultPlace v_a_size v_a_limit v_a_digits v_a_kind v_a_from v_a_to v_o_size a_o_out v_b_size v_b_limit v_b_digits v_b_kind v_b_from v_b_to a_u_atom a_u_other a_u_hand v_u_marksMade v_u_came v_u_guesses v_u_right v_u_taken a_u_vars a_u_marks a_u_outcomes a_u_indexes v_s_things v_s_looked v_s_lookedTooOften v_s_arraysMade v_s_cellsMade a_s_classes a_s_starts a_s_lengths a_s_cells a_L a_K a_vc a_vd a_si a_sj a_iv a_inn a_ac) → va_S A s.heap H locs → lv_has ls 2 [(0, .ref (q 11)), (1, .int l1_5)] → W p l e (headSpec (wG yX1_next cX1_next 2 none) rmX1_next_qb).room s m ([.ref (q 11)] : List Value).toArray below meth c H locs 0 0 Q (F0 m 5 ls []) := by
    intro n5
    induction n5 with
    | zero =>
      intro l1_5 H locs ls f5_0 f5_1 hm5
      exfalso
      omega
    | succ n5 ih5 =>
      intro l1_5 H locs ls f5_0 f5_1 hm5 hP hD hS hl
      refine lv_iload_n hx hb dX1_next_5 rfl (lv_at hl 1 rfl) ?_
      refine lv_aload_n hx hb dX1_next_6 rfl (lv_at hl 0 rfl) ?_
      refine va_get (D := D) (ci := 0) (v := .int v_b_size) (C := RX1) (T := TX1) (N := 7) hx hb hts hinX1 hown hK hP 11 rfl rfl 1 (by decide) k_9_14 (fun _ h9 => h9) rfl dX1_next_7 ?_
      have J41 : ∀ (H : Heap) (locs : List Loc) (ls : Array Slot), va_P D vwCl (tw cs q v_t_tapeSize v_t_textSize v_t_faultKind a_t_tape a_t_text a_g_beyond v_g_size a_g_steps a_h_beyond v_h_size a_h_steps a_r_scratch a_r_now v_r_takes v_r_negative v_r_namePlace v_r_faultKind v_r_faultPlace v_a_size v_a_limit v_a_digits v_a_kind v_a_from v_a_to v_o_size a_o_out v_b_size v_b_limit v_b_digits v_b_kind v_b_from v_b_to a_u_atom a_u_other a_u_hand v_u_marksMade v_u_came v_u_guesses v_u_right v_u_taken a_u_vars a_u_marks a_u_outcomes a_u_indexes v_s_things v_s_looked v_s_lookedTooOften v_s_arraysMade v_s_cellsMade a_s_classes a_s_starts a_s_lengths a_s_cells a_L a_K a_vc a_vd a_si a_sj a_iv a_inn a_ac) H → va_D A (tw cs q v_t_tapeSize v_t_textSize v_t_faultKind a_t_tape a_t_text a_g_beyond v_g_size a_g_steps a_h_beyond v_h_size a_h_steps a_r_scratch a_r_now v_r_takes v_r_negative v_r_namePlace v_r_faultKind v_r_faultPlace v_a_size v_a_limit v_a_digits v_a_kind v_a_from v_a_to v_o_size a_o_out v_b_size v_b_limit v_b_digits v_b_kind v_b_from v_b_to a_u_atom a_u_other a_u_hand v_u_marksMade v_u_came v_u_guesses v_u_right v_u_taken a_u_vars a_u_marks a_u_outcomes a_u_indexes v_s_things v_s_looked v_s_lookedTooOften v_s_arraysMade v_s_cellsMade a_s_classes a_s_starts a_s_lengths a_s_cells a_L a_K a_vc a_vd a_si a_sj a_iv a_inn a_ac) → va_S A s.heap H locs → lv_has ls 2 [(0, .ref (q 11)), (1, .int l1_5)] → W p l e (headSpec (wG yX1_next cX1_next 2 none) rmX1_next_qb).room s m ([.ref (q 11)] : List Value).toArray below meth c H locs 0 0 Q (F0 m 41 ls []) := by
        intro H locs ls hP hD hS hl
        refine lv_aload_n hx hb dX1_next_41 rfl (lv_at hl 0 rfl) ?_
        refine lv_iload_n hx hb dX1_next_42 rfl (lv_at hl 1 rfl) ?_
        refine va_put (D := D) (ci := 0) (v := .int l1_5) (ty := .int) (C := RX1) (T := TX1) (N := 7) hx hb hts hinX1 tyX1 tyX1_ok nmX1 hown hK hP hD hS 11 rfl rfl 5 (by decide) k_9_21 (fun _ h9 => h9) rfl (by decide +kernel) rfl rfl (Nat.le_of_ble_eq_true rfl) dX1_next_43 (fun H locs hP hD hS => ?_)
        have hP : va_P D vwCl (tw cs q v_t_tapeSize v_t_textSize v_t_faultKind a_t_tape a_t_text a_g_beyond v_g_size a_g_steps a_h_beyond v_h_size a_h_steps a_r_scratch a_r_now v_r_takes v_r_negative v_r_namePlace v_r_faultKind v_r_faultPlace v_a_size v_a_limit v_a_digits v_a_kind v_a_from v_a_to v_o_size a_o_out v_b_size v_b_limit v_b_digits v_b_kind l1_5 v_b_to a_u_atom a_u_other a_u_hand v_u_marksMade v_u_came v_u_guesses v_u_right v_u_taken a_u_vars a_u_marks a_u_outcomes a_u_indexes v_s_things v_s_looked v_s_lookedTooOften v_s_arraysMade v_s_cellsMade a_s_classes a_s_starts a_s_lengths a_s_cells a_L a_K a_vc a_vd a_si a_sj a_iv a_inn a_ac) H := hP
        have hD : va_D A (tw cs q v_t_tapeSize v_t_textSize v_t_faultKind a_t_tape a_t_text a_g_beyond v_g_size a_g_steps a_h_beyond v_h_size a_h_steps a_r_scratch a_r_now v_r_takes v_r_negative v_r_namePlace v_r_faultKind v_r_faultPlace v_a_size v_a_limit v_a_digits v_a_kind v_a_from v_a_to v_o_size a_o_out v_b_size v_b_limit v_b_digits v_b_kind l1_5 v_b_to a_u_atom a_u_other a_u_hand v_u_marksMade v_u_came v_u_guesses v_u_right v_u_taken a_u_vars a_u_marks a_u_outcomes a_u_indexes v_s_things v_s_looked v_s_lookedTooOften v_s_arraysMade v_s_cellsMade a_s_classes a_s_starts a_s_lengths a_s_cells a_L a_K a_vc a_vd a_si a_sj a_iv a_inn a_ac) := hD
        refine lv_aload_n hx hb dX1_next_46 rfl (lv_at hl 0 rfl) ?_
        refine lv_iload_n hx hb dX1_next_47 rfl (lv_at hl 1 rfl) ?_
        refine va_put (D := D) (ci := 0) (v := .int l1_5) (ty := .int) (C := RX1) (T := TX1) (N := 7) hx hb hts hinX1 tyX1 tyX1_ok nmX1 hown hK hP hD hS 11 rfl rfl 6 (by decide) k_9_16 (fun _ h9 => h9) rfl (by decide +kernel) rfl rfl (Nat.le_of_ble_eq_true rfl) dX1_next_48 (fun H locs hP hD hS => ?_)
        have hP : va_P D vwCl (tw cs q v_t_tapeSize v_t_textSize v_t_faultKind a_t_tape a_t_text a_g_beyond v_g_size a_g_steps a_h_beyond v_h_size a_h_steps a_r_scratch a_r_now v_r_takes v_r_negative v_r_namePlace v_r_faultKind v_r_faultPlace v_a_size v_a_limit v_a_digits v_a_kind v_a_from v_a_to v_o_size a_o_out v_b_size v_b_limit v_b_digits v_b_kind l1_5 l1_5 a_u_atom a_u_other a_u_hand v_u_marksMade v_u_came v_u_guesses v_u_right v_u_taken a_u_vars a_u_marks a_u_outcomes a_u_indexes v_s_things v_s_looked v_s_lookedTooOften v_s_arraysMade v_s_cellsMade a_s_classes a_s_starts a_s_lengths a_s_cells a_L a_K a_vc a_vd a_si a_sj a_iv a_inn a_ac) H := hP
        have hD : va_D A (tw cs q v_t_tapeSize v_t_textSize v_t_faultKind a_t_tape a_t_text a_g_beyond v_g_size a_g_steps a_h_beyond v_h_size a_h_steps a_r_scratch a_r_now v_r_takes v_r_negative v_r_namePlace v_r_faultKind v_r_faultPlace v_a_size v_a_limit v_a_digits v_a_kind v_a_from v_a_to v_o_size a_o_out v_b_size v_b_limit v_b_digits v_b_kind l1_5 l1_5 a_u_atom a_u_other a_u_hand v_u_marksMade v_u_came v_u_guesses v_u_right v_u_taken a_u_vars a_u_marks a_u_outcomes a_u_indexes v_s_things v_s_looked v_s_lookedTooOften v_s_arraysMade v_s_cellsMade a_s_classes a_s_starts a_s_lengths a_s_cells a_L a_K a_vc a_vd a_si a_sj a_iv a_inn a_ac) := hD
        refine lv_aload_n hx hb dX1_next_51 rfl (lv_at hl 0 rfl) ?_
        refine va_get (D := D) (ci := 0) (v := .int v_b_size) (C := RX1) (T := TX1) (N := 7) hx hb hts hinX1 hown hK hP 11 rfl rfl 1 (by decide) k_9_14 (fun _ h9 => h9) rfl dX1_next_52 ?_
        refine lv_aload_n hx hb dX1_next_55 rfl (lv_at hl 0 rfl) ?_
        refine va_get (D := D) (ci := 0) (v := .int v_b_limit) (C := RX1) (T := TX1) (N := 7) hx hb hts hinX1 hown hK hP 11 rfl rfl 2 (by decide) k_9_15 (fun _ h9 => h9) rfl dX1_next_56 ?_
        have J86 : ∀ (H : Heap) (locs : List Loc) (ls : Array Slot), va_P D vwCl (tw cs q v_t_tapeSize v_t_textSize v_t_faultKind a_t_tape a_t_text a_g_beyond v_g_size a_g_steps a_h_beyond v_h_size a_h_steps a_r_scratch a_r_now v_r_takes v_r_negative v_r_namePlace v_r_faultKind v_r_faultPlace v_a_size v_a_limit v_a_digits v_a_kind v_a_from v_a_to v_o_size a_o_out v_b_size v_b_limit v_b_digits v_b_kind l1_5 l1_5 a_u_atom a_u_other a_u_hand v_u_marksMade v_u_came v_u_guesses v_u_right v_u_taken a_u_vars a_u_marks a_u_outcomes a_u_indexes v_s_things v_s_looked v_s_lookedTooOften v_s_arraysMade v_s_cellsMade a_s_classes a_s_starts a_s_lengths a_s_cells a_L a_K a_vc a_vd a_si a_sj a_iv a_inn a_ac) H → va_D A (tw cs q v_t_tapeSize v_t_textSize v_t_faultKind a_t_tape a_t_text a_g_beyond v_g_size a_g_steps a_h_beyond v_h_size a_h_steps a_r_scratch a_r_now v_r_takes v_r_negative v_r_namePlace v_r_faultKind v_r_faultPlace v_a_size v_a_limit v_a_digits v_a_kind v_a_from v_a_to v_o_size a_o_out v_b_size v_b_limit v_b_digits v_b_kind l1_5 l1_5 a_u_atom a_u_other a_u_hand v_u_marksMade v_u_came v_u_guesses v_u_right v_u_taken a_u_vars a_u_marks a_u_outcomes a_u_indexes v_s_things v_s_looked v_s_lookedTooOften v_s_arraysMade v_s_cellsMade a_s_classes a_s_starts a_s_lengths a_s_cells a_L a_K a_vc a_vd a_si a_sj a_iv a_inn a_ac) → va_S A s.heap H locs → lv_has ls 2 [(0, .ref (q 11)), (1, .int l1_5)] → W p l e (headSpec (wG yX1_next cX1_next 2 none) rmX1_next_qb).room s m ([.ref (q 11)] : List Value).toArray below meth c H locs 0 0 Q (F0 m 86 ls []) := by
          intro H locs ls hP hD hS hl
          refine lv_iload_n hx hb dX1_next_86 rfl (lv_at hl 1 rfl) ?_
          refine lv_aload_n hx hb dX1_next_87 rfl (lv_at hl 0 rfl) ?_
          refine va_get (D := D) (ci := 0) (v := .int v_b_size) (C := RX1) (T := TX1) (N := 7) hx hb hts hinX1 hown hK hP 11 rfl rfl 1 (by decide) k_9_14 (fun _ h9 => h9) rfl dX1_next_88 ?_
          have J110 : ∀ (n110 : Nat) (v_b_to_110 : Int32) (H : Heap) (locs : List Loc) (ls : Array Slot), (l1_5.toInt < v_b_size.toInt) → (l1_5.toInt ≤ v_b_to_110.toInt) → (v_b_to_110.toInt ≤ v_b_size.toInt) → (v_b_size.toInt - v_b_to_110.toInt < (n110 : Int)) → va_P D vwCl (tw cs q v_t_tapeSize v_t_textSize v_t_faultKind a_t_tape a_t_text a_g_beyond v_g_size a_g_steps a_h_beyond v_h_size a_h_steps a_r_scratch a_r_now v_r_takes v_r_negative v_r_namePlace v_r_faultKind v_r_faultPlace v_a_size v_a_limit v_a_digits v_a_kind v_a_from v_a_to v_o_size a_o_out v_b_size v_b_limit v_b_digits v_b_kind l1_5 v_b_to_110 a_u_atom a_u_other a_u_hand v_u_marksMade v_u_came v_u_guesses v_u_right v_u_taken a_u_vars a_u_marks a_u_outcomes a_u_indexes v_s_things v_s_looked v_s_lookedTooOften v_s_arraysMade v_s_cellsMade a_s_classes a_s_starts a_s_lengths a_s_cells a_L a_K a_vc a_vd a_si a_sj a_iv a_inn a_ac) H → va_D A (tw cs q v_t_tapeSize v_t_textSize v_t_faultKind a_t_tape a_t_text a_g_beyond v_g_size a_g_steps a_h_beyond v_h_size a_h_steps a_r_scratch a_r_now v_r_takes v_r_negative v_r_namePlace v_r_faultKind v_r_faultPlace v_a_size v_a_limit v_a_digits v_a_kind v_a_from v_a_to v_o_size a_o_out v_b_size v_b_limit v_b_digits v_b_kind l1_5 v_b_to_110 a_u_atom a_u_other a_u_hand v_u_marksMade v_u_came v_u_guesses v_u_right v_u_taken a_u_vars a_u_marks a_u_outcomes a_u_indexes v_s_things v_s_looked v_s_lookedTooOften v_s_arraysMade v_s_cellsMade a_s_classes a_s_starts a_s_lengths a_s_cells a_L a_K a_vc a_vd a_si a_sj a_iv a_inn a_ac) → va_S A s.heap H locs → lv_has ls 2 [(0, .ref (q 11)), (1, .int l1_5)] → W p l e (headSpec (wG yX1_next cX1_next 2 none) rmX1_next_qb).room s m ([.ref (q 11)] : List Value).toArray below meth c H locs 0 0 Q (F0 m 110 ls []) := by
            intro n110
            induction n110 with
            | zero =>
              intro v_b_to_110 H locs ls f110_0 f110_1 f110_2 hm110
              exfalso
              omega
            | succ n110 ih110 =>
              intro v_b_to_110 H locs ls f110_0 f110_1 f110_2 hm110 hP hD hS hl
              refine lv_aload_n hx hb dX1_next_110 rfl (lv_at hl 0 rfl) ?_
              refine va_get (D := D) (ci := 0) (v := .int v_b_to_110) (C := RX1) (T := TX1) (N := 7) hx hb hts hinX1 hown hK hP 11 rfl rfl 6 (by decide) k_9_16 (fun _ h9 => h9) rfl dX1_next_111 ?_
              refine lv_aload_n hx hb dX1_next_114 rfl (lv_at hl 0 rfl) ?_
              refine va_get (D := D) (ci := 0) (v := .int v_b_size) (C := RX1) (T := TX1) (N := 7) hx hb hts hinX1 hown hK hP 11 rfl rfl 1 (by decide) k_9_14 (fun _ h9 => h9) rfl dX1_next_115 ?_
              have J149 : ∀ (H : Heap) (locs : List Loc) (ls : Array Slot), va_P D vwCl (tw cs q v_t_tapeSize v_t_textSize v_t_faultKind a_t_tape a_t_text a_g_beyond v_g_size a_g_steps a_h_beyond v_h_size a_h_steps a_r_scratch a_r_now v_r_takes v_r_negative v_r_namePlace v_r_faultKind v_r_faultPlace v_a_size v_a_limit v_a_digits v_a_kind v_a_from v_a_to v_o_size a_o_out v_b_size v_b_limit v_b_digits v_b_kind l1_5 v_b_to_110 a_u_atom a_u_other a_u_hand v_u_marksMade v_u_came v_u_guesses v_u_right v_u_taken a_u_vars a_u_marks a_u_outcomes a_u_indexes v_s_things v_s_looked v_s_lookedTooOften v_s_arraysMade v_s_cellsMade a_s_classes a_s_starts a_s_lengths a_s_cells a_L a_K a_vc a_vd a_si a_sj a_iv a_inn a_ac) H → va_D A (tw cs q v_t_tapeSize v_t_textSize v_t_faultKind a_t_tape a_t_text a_g_beyond v_g_size a_g_steps a_h_beyond v_h_size a_h_steps a_r_scratch a_r_now v_r_takes v_r_negative v_r_namePlace v_r_faultKind v_r_faultPlace v_a_size v_a_limit v_a_digits v_a_kind v_a_from v_a_to v_o_size a_o_out v_b_size v_b_limit v_b_digits v_b_kind l1_5 v_b_to_110 a_u_atom a_u_other a_u_hand v_u_marksMade v_u_came v_u_guesses v_u_right v_u_taken a_u_vars a_u_marks a_u_outcomes a_u_indexes v_s_things v_s_looked v_s_lookedTooOften v_s_arraysMade v_s_cellsMade a_s_classes a_s_starts a_s_lengths a_s_cells a_L a_K a_vc a_vd a_si a_sj a_iv a_inn a_ac) → va_S A s.heap H locs → lv_has ls 2 [(0, .ref (q 11)), (1, .int l1_5)] → W p l e (headSpec (wG yX1_next cX1_next 2 none) rmX1_next_qb).room s m ([.ref (q 11)] : List Value).toArray below meth c H locs 0 0 Q (F0 m 149 ls []) := by
                intro H locs ls hP hD hS hl
                refine lv_aload_n hx hb dX1_next_149 rfl (lv_at hl 0 rfl) ?_
                refine lv_aload_n hx hb dX1_next_150 rfl (lv_at hl 0 rfl) ?_
                refine va_get (D := D) (ci := 0) (v := .int v_b_to_110) (C := RX1) (T := TX1) (N := 7) hx hb hts hinX1 hown hK hP 11 rfl rfl 6 (by decide) k_9_16 (fun _ h9 => h9) rfl dX1_next_151 ?_
                refine lv_iload_n hx hb dX1_next_154 rfl (lv_at hl 1 rfl) ?_
                refine m_icmp_le (X := v_b_to_110.toInt) (Y := l1_5.toInt) (tgt := 165) hx hb dX1_next_155 (by decide) rfl rfl (fun c155 => ?_) (fun c155 => ?_)
                · skip
                  refine lv_aload_n hx hb dX1_next_165 rfl (lv_at hl 0 rfl) ?_
                  refine call_i (As := []) (rest := [.ref (q 11)]) ⟨hx, hb, hml, hown, hts⟩ (tX1_kindOfOther_qb (l := l)  (by first | assumption | omega | (intros; omega) | decide) (by first | assumption | omega | (intros; omega) | decide) (by first | assumption | omega | (intros; omega) | decide)) (cwV 0 hts (gV (wr13 _ (List.mem_of_getElem? (i := 19) rfl)) (wr13 _ (List.mem_of_getElem? (i := 20) rfl)) (wr13 _ (List.mem_of_getElem? (i := 21) rfl)) (wr2 _ (List.mem_of_getElem? (i := 2) rfl)) (wr13 _ (List.mem_of_getElem? (i := 22) rfl))) rfl rfl rfl (by decide +kernel) ⟨Nat.le_of_ble_eq_true rfl, Nat.le_of_ble_eq_true rfl⟩) (va_recv hK hP (ci := 0) (q0 := 11) rfl rfl) hK hP hD hE hS hA rfl hl.1 rfl (Nat.le_of_ble_eq_true rfl) dX1_next_166 ⟨Nat.le_of_ble_eq_true rfl, Nat.le_of_ble_eq_true rfl⟩ (fun r166 w9 H locs hw166 hP hD hS => ?_)
                  obtain ⟨v_b_to_166, rfl, hw166_0, hw166_1⟩ := hw166
                  have b_v_b_to_166 := iB v_b_to_166
                  have b_r166 := iB r166
                  refine va_put (D := D) (ci := 0) (v := .int r166) (ty := .int) (C := RX1) (T := TX1) (N := 7) hx hb hts hinX1 tyX1 tyX1_ok nmX1 hown hK hP hD hS 11 rfl rfl 4 (by decide) k_9_22 (fun _ h9 => h9) rfl (by decide +kernel) rfl rfl (Nat.le_of_ble_eq_true rfl) dX1_next_169 (fun H locs hP hD hS => ?_)
                  have hP : va_P D vwCl (tw cs q v_t_tapeSize v_t_textSize v_t_faultKind a_t_tape a_t_text a_g_beyond v_g_size a_g_steps a_h_beyond v_h_size a_h_steps a_r_scratch a_r_now v_r_takes v_r_negative v_r_namePlace v_r_faultKind v_r_faultPlace v_a_size v_a_limit v_a_digits v_a_kind v_a_from v_a_to v_o_size a_o_out v_b_size v_b_limit v_b_digits r166 l1_5 v_b_to_166 a_u_atom a_u_other a_u_hand v_u_marksMade v_u_came v_u_guesses v_u_right v_u_taken a_u_vars a_u_marks a_u_outcomes a_u_indexes v_s_things v_s_looked v_s_lookedTooOften v_s_arraysMade v_s_cellsMade a_s_classes a_s_starts a_s_lengths a_s_cells a_L a_K a_vc a_vd a_si a_sj a_iv a_inn a_ac) H := hP
                  have hD : va_D A (tw cs q v_t_tapeSize v_t_textSize v_t_faultKind a_t_tape a_t_text a_g_beyond v_g_size a_g_steps a_h_beyond v_h_size a_h_steps a_r_scratch a_r_now v_r_takes v_r_negative v_r_namePlace v_r_faultKind v_r_faultPlace v_a_size v_a_limit v_a_digits v_a_kind v_a_from v_a_to v_o_size a_o_out v_b_size v_b_limit v_b_digits r166 l1_5 v_b_to_166 a_u_atom a_u_other a_u_hand v_u_marksMade v_u_came v_u_guesses v_u_right v_u_taken a_u_vars a_u_marks a_u_outcomes a_u_indexes v_s_things v_s_looked v_s_lookedTooOften v_s_arraysMade v_s_cellsMade a_s_classes a_s_starts a_s_lengths a_s_cells a_L a_K a_vc a_vd a_si a_sj a_iv a_inn a_ac) := hD
                  subst hAe
                  rw [hQ]
                  exact W.vret hx hb hr (fun t ht hW => ⟨⟨_, rfl, ⟨v_b_digits, r166, l1_5, v_b_to_166, rfl, by exact ⟨⟨by omega, by omega⟩, ⟨by omega, by omega⟩, ⟨by omega, by omega⟩, ⟨by omega, by omega⟩, by omega, fun q => by omega⟩⟩, by rw [ht]; exact hP, va_K.moved hW.alike hK, hD⟩, hS.F ht⟩) hS.2.2 dX1_next_172
                · skip
                  refine lv_aload_n hx hb dX1_next_158 rfl (lv_at hl 0 rfl) ?_
                  refine call_i (As := []) (rest := [.ref (q 11)]) ⟨hx, hb, hml, hown, hts⟩ (tX1_kindOfSmalls_qb (l := l)  (by first | assumption | omega | (intros; omega) | decide) (by first | assumption | omega | (intros; omega) | decide) (by first | assumption | omega | (intros; omega) | decide) (by first | assumption | omega | (intros; omega) | decide)) (cwV 0 hts (gV (wr10 _ (List.mem_of_getElem? (i := 2) rfl)) (wr10 _ (List.mem_of_getElem? (i := 3) rfl)) (wr10 _ (List.mem_of_getElem? (i := 4) rfl)) (wr2 _ (List.mem_of_getElem? (i := 2) rfl)) (wr10 _ (List.mem_of_getElem? (i := 5) rfl))) rfl rfl rfl (by decide +kernel) ⟨Nat.le_of_ble_eq_true rfl, Nat.le_of_ble_eq_true rfl⟩) (va_recv hK hP (ci := 0) (q0 := 11) rfl rfl) hK hP hD hE hS hA rfl hl.1 rfl (Nat.le_of_ble_eq_true rfl) dX1_next_159 ⟨Nat.le_of_ble_eq_true rfl, Nat.le_of_ble_eq_true rfl⟩ (fun r159 w9 H locs hw159 hP hD hS => ?_)
                  obtain ⟨v_b_digits_159, rfl, hw159_0, hw159_1, hw159_2⟩ := hw159
                  have b_v_b_digits_159 := iB v_b_digits_159
                  have b_r159 := iB r159
                  refine lv_goto (tgt := 169) hx hb dX1_next_162 (by decide) ?_
                  refine va_put (D := D) (ci := 0) (v := .int r159) (ty := .int) (C := RX1) (T := TX1) (N := 7) hx hb hts hinX1 tyX1 tyX1_ok nmX1 hown hK hP hD hS 11 rfl rfl 4 (by decide) k_9_22 (fun _ h9 => h9) rfl (by decide +kernel) rfl rfl (Nat.le_of_ble_eq_true rfl) dX1_next_169 (fun H locs hP hD hS => ?_)
                  have hP : va_P D vwCl (tw cs q v_t_tapeSize v_t_textSize v_t_faultKind a_t_tape a_t_text a_g_beyond v_g_size a_g_steps a_h_beyond v_h_size a_h_steps a_r_scratch a_r_now v_r_takes v_r_negative v_r_namePlace v_r_faultKind v_r_faultPlace v_a_size v_a_limit v_a_digits v_a_kind v_a_from v_a_to v_o_size a_o_out v_b_size v_b_limit v_b_digits_159 r159 l1_5 v_b_to_110 a_u_atom a_u_other a_u_hand v_u_marksMade v_u_came v_u_guesses v_u_right v_u_taken a_u_vars a_u_marks a_u_outcomes a_u_indexes v_s_things v_s_looked v_s_lookedTooOften v_s_arraysMade v_s_cellsMade a_s_classes a_s_starts a_s_lengths a_s_cells a_L a_K a_vc a_vd a_si a_sj a_iv a_inn a_ac) H := hP
                  have hD : va_D A (tw cs q v_t_tapeSize v_t_textSize v_t_faultKind a_t_tape a_t_text a_g_beyond v_g_size a_g_steps a_h_beyond v_h_size a_h_steps a_r_scratch a_r_now v_r_takes v_r_negative v_r_namePlace v_r_faultKind v_r_faultPlace v_a_size v_a_limit v_a_digits v_a_kind v_a_from v_a_to v_o_size a_o_out v_b_size v_b_limit v_b_digits_159 r159 l1_5 v_b_to_110 a_u_atom a_u_other a_u_hand v_u_marksMade v_u_came v_u_guesses v_u_right v_u_taken a_u_vars a_u_marks a_u_outcomes a_u_indexes v_s_things v_s_looked v_s_lookedTooOften v_s_arraysMade v_s_cellsMade a_s_classes a_s_starts a_s_lengths a_s_cells a_L a_K a_vc a_vd a_si a_sj a_iv a_inn a_ac) := hD
                  subst hAe
                  rw [hQ]
                  exact W.vret hx hb hr (fun t ht hW => ⟨⟨_, rfl, ⟨v_b_digits_159, r159, l1_5, v_b_to_110, rfl, by exact ⟨⟨by omega, by omega⟩, ⟨by omega, by omega⟩, ⟨by omega, by omega⟩, ⟨by omega, by omega⟩, by omega, fun q => by omega⟩⟩, by rw [ht]; exact hP, va_K.moved hW.alike hK, hD⟩, hS.F ht⟩) hS.2.2 dX1_next_172
              refine m_icmp_ge (X := v_b_to_110.toInt) (Y := v_b_size.toInt) (tgt := 149) hx hb dX1_next_118 (by decide) rfl rfl (fun c118 => ?_) (fun c118 => ?_)
              · skip
                exact J149 H locs ls hP hD hS (lv_sub hl [0, 1] rfl)
              · skip
                refine lv_aload_n hx hb dX1_next_121 rfl (lv_at hl 0 rfl) ?_
                refine va_get (D := D) (ci := 0) (v := .ref (q 2)) (C := RX1) (T := TX1) (N := 7) hx hb hts hinX1 hown hK hP 11 rfl rfl 0 (by decide) k_3_6 (fun _ h9 => h9) rfl dX1_next_122 ?_
                refine lv_aload_n hx hb dX1_next_125 rfl (lv_at hl 0 rfl) ?_
                refine va_get (D := D) (ci := 0) (v := .int v_b_to_110) (C := RX1) (T := TX1) (N := 7) hx hb hts hinX1 hown hK hP 11 rfl rfl 6 (by decide) k_9_16 (fun _ h9 => h9) rfl dX1_next_126 ?_
                refine m_bald hx hb hK hP 2 2 rfl rfl (ix (by omega) (by omega)) dX1_next_129 (fun x129 e_x129 => ?_)
                have b_x129 := iB x129
                refine call_iSP (As := [.int x129]) (rest := []) ⟨hx, hb, hml, hown, hts⟩ (tX1_isSmall (l := l) x129) (va_cwS 1 hts (gS (wr9 _ (List.mem_of_getElem? (i := 23) rfl)) (wr10 _ (List.mem_of_getElem? (i := 0) rfl)) (wr2 _ (List.mem_of_getElem? (i := 2) rfl)) (wr10 _ (List.mem_of_getElem? (i := 1) rfl))) rfl rfl rfl (by decide +kernel) ⟨Nat.le_of_ble_eq_true rfl, Nat.le_of_ble_eq_true rfl⟩) (hK.sub [] rfl) hP hD hE hS hA rfl hl.1 rfl (Nat.le_of_ble_eq_true rfl) dX1_next_130 ⟨Nat.le_of_ble_eq_true rfl, Nat.le_of_ble_eq_true rfl⟩ (fun r130 w9 H locs hw130 hP hD hS => ?_)
                obtain ⟨rfl, hw130_0⟩ := hw130
                have b_r130 := iB r130
                refine m_if_eq (X := r130.toInt) (tgt := 149) hx hb dX1_next_133 (by decide) rfl (fun c133 => ?_) (fun c133 => ?_)
                · skip
                  exact J149 H locs ls hP hD hS (lv_sub hl [0, 1] rfl)
                · skip
                  refine lv_aload_n hx hb dX1_next_136 rfl (lv_at hl 0 rfl) ?_
                  refine lv_dup hx hb dX1_next_137 rfl ?_
                  refine va_get (D := D) (ci := 0) (v := .int v_b_to_110) (C := RX1) (T := TX1) (N := 7) hx hb hts hinX1 hown hK hP 11 rfl rfl 6 (by decide) k_9_16 (fun _ h9 => h9) rfl dX1_next_138 ?_
                  refine lv_iconst (v := 1) hx hb dX1_next_141 (by decide) ?_
                  refine m_iadd (X := v_b_to_110.toInt) (Y := 1) hx hb dX1_next_142 rfl (by decide) (fun x142 e_x142 g9 => ?_)
                  obtain ⟨k_x142, g_x142⟩ := g9
                  have b_x142 := iB x142
                  try (have q_x142 : x142.toInt = v_b_to_110.toInt + 1 := (by omega); clear g_x142 k_x142)
                  refine va_put (D := D) (ci := 0) (v := .int x142) (ty := .int) (C := RX1) (T := TX1) (N := 7) hx hb hts hinX1 tyX1 tyX1_ok nmX1 hown hK hP hD hS 11 rfl rfl 6 (by decide) k_9_16 (fun _ h9 => h9) rfl (by decide +kernel) rfl rfl (Nat.le_of_ble_eq_true rfl) dX1_next_143 (fun H locs hP hD hS => ?_)
                  have hP : va_P D vwCl (tw cs q v_t_tapeSize v_t_textSize v_t_faultKind a_t_tape a_t_text a_g_beyond v_g_size a_g_steps a_h_beyond v_h_size a_h_steps a_r_scratch a_r_now v_r_takes v_r_negative v_r_namePlace v_r_faultKind v_r_faultPlace v_a_size v_a_limit v_a_digits v_a_kind v_a_from v_a_to v_o_size a_o_out v_b_size v_b_limit v_b_digits v_b_kind l1_5 x142 a_u_atom a_u_other a_u_hand v_u_marksMade v_u_came v_u_guesses v_u_right v_u_taken a_u_vars a_u_marks a_u_outcomes a_u_indexes v_s_things v_s_looked v_s_lookedTooOften v_s_arraysMade v_s_cellsMade a_s_classes a_s_starts a_s_lengths a_s_cells a_L a_K a_vc a_vd a_si a_sj a_iv a_inn a_ac) H := hP
                  have hD : va_D A (tw cs q v_t_tapeSize v_t_textSize v_t_faultKind a_t_tape a_t_text a_g_beyond v_g_size a_g_steps a_h_beyond v_h_size a_h_steps a_r_scratch a_r_now v_r_takes v_r_negative v_r_namePlace v_r_faultKind v_r_faultPlace v_a_size v_a_limit v_a_digits v_a_kind v_a_from v_a_to v_o_size a_o_out v_b_size v_b_limit v_b_digits v_b_kind l1_5 x142 a_u_atom a_u_other a_u_hand v_u_marksMade v_u_came v_u_guesses v_u_right v_u_taken a_u_vars a_u_marks a_u_outcomes a_u_indexes v_s_things v_s_looked v_s_lookedTooOften v_s_arraysMade v_s_cellsMade a_s_classes a_s_starts a_s_lengths a_s_cells a_L a_K a_vc a_vd a_si a_sj a_iv a_inn a_ac) := hD
                  refine lv_goto (tgt := 110) hx hb dX1_next_146 (by decide) ?_
                  exact ih110 x142 H locs ls (by first | assumption | omega | (intros; omega) | decide) (by first | assumption | omega | (intros; omega) | decide) (by first | assumption | omega | (intros; omega) | decide) (by omega) hP hD hS (lv_sub hl [0, 1] rfl)
          refine m_icmp_lt (X := l1_5.toInt) (Y := v_b_size.toInt) (tgt := 110) hx hb dX1_next_91 (by decide) rfl rfl (fun c91 => ?_) (fun c91 => ?_)
          · skip
            exact J110 ((v_b_size.toInt - l1_5.toInt).toNat + 1) l1_5 H locs ls (by first | assumption | omega | (intros; omega) | decide) (by first | assumption | omega | (intros; omega) | decide) (by first | assumption | omega | (intros; omega) | decide) (by omega) hP hD hS (lv_sub hl [0, 1] rfl)
          · skip
            refine lv_aload_n hx hb dX1_next_94 rfl (lv_at hl 0 rfl) ?_
            refine lv_iconst (v := 0) hx hb dX1_next_95 (by decide) ?_
            refine va_put (D := D) (ci := 0) (v := .int 0) (ty := .int) (C := RX1) (T := TX1) (N := 7) hx hb hts hinX1 tyX1 tyX1_ok nmX1 hown hK hP hD hS 11 rfl rfl 4 (by decide) k_9_22 (fun _ h9 => h9) rfl (by decide +kernel) rfl rfl (Nat.le_of_ble_eq_true rfl) dX1_next_96 (fun H locs hP hD hS => ?_)
            have hP : va_P D vwCl (tw cs q v_t_tapeSize v_t_textSize v_t_faultKind a_t_tape a_t_text a_g_beyond v_g_size a_g_steps a_h_beyond v_h_size a_h_steps a_r_scratch a_r_now v_r_takes v_r_negative v_r_namePlace v_r_faultKind v_r_faultPlace v_a_size v_a_limit v_a_digits v_a_kind v_a_from v_a_to v_o_size a_o_out v_b_size v_b_limit v_b_digits (0 : Int32) l1_5 l1_5 a_u_atom a_u_other a_u_hand v_u_marksMade v_u_came v_u_guesses v_u_right v_u_taken a_u_vars a_u_marks a_u_outcomes a_u_indexes v_s_things v_s_looked v_s_lookedTooOften v_s_arraysMade v_s_cellsMade a_s_classes a_s_starts a_s_lengths a_s_cells a_L a_K a_vc a_vd a_si a_sj a_iv a_inn a_ac) H := hP
            have hD : va_D A (tw cs q v_t_tapeSize v_t_textSize v_t_faultKind a_t_tape a_t_text a_g_beyond v_g_size a_g_steps a_h_beyond v_h_size a_h_steps a_r_scratch a_r_now v_r_takes v_r_negative v_r_namePlace v_r_faultKind v_r_faultPlace v_a_size v_a_limit v_a_digits v_a_kind v_a_from v_a_to v_o_size a_o_out v_b_size v_b_limit v_b_digits (0 : Int32) l1_5 l1_5 a_u_atom a_u_other a_u_hand v_u_marksMade v_u_came v_u_guesses v_u_right v_u_taken a_u_vars a_u_marks a_u_outcomes a_u_indexes v_s_things v_s_looked v_s_lookedTooOften v_s_arraysMade v_s_cellsMade a_s_classes a_s_starts a_s_lengths a_s_cells a_L a_K a_vc a_vd a_si a_sj a_iv a_inn a_ac) := hD
            refine lv_aload_n hx hb dX1_next_99 rfl (lv_at hl 0 rfl) ?_
            refine lv_aload_n hx hb dX1_next_100 rfl (lv_at hl 0 rfl) ?_
            refine va_get (D := D) (ci := 0) (v := .int v_b_size) (C := RX1) (T := TX1) (N := 7) hx hb hts hinX1 hown hK hP 11 rfl rfl 1 (by decide) k_9_14 (fun _ h9 => h9) rfl dX1_next_101 ?_
            refine va_put (D := D) (ci := 0) (v := .int v_b_size) (ty := .int) (C := RX1) (T := TX1) (N := 7) hx hb hts hinX1 tyX1 tyX1_ok nmX1 hown hK hP hD hS 11 rfl rfl 5 (by decide) k_9_21 (fun _ h9 => h9) rfl (by decide +kernel) rfl rfl (Nat.le_of_ble_eq_true rfl) dX1_next_104 (fun H locs hP hD hS => ?_)
            have hP : va_P D vwCl (tw cs q v_t_tapeSize v_t_textSize v_t_faultKind a_t_tape a_t_text a_g_beyond v_g_size a_g_steps a_h_beyond v_h_size a_h_steps a_r_scratch a_r_now v_r_takes v_r_negative v_r_namePlace v_r_faultKind v_r_faultPlace v_a_size v_a_limit v_a_digits v_a_kind v_a_from v_a_to v_o_size a_o_out v_b_size v_b_limit v_b_digits (0 : Int32) v_b_size l1_5 a_u_atom a_u_other a_u_hand v_u_marksMade v_u_came v_u_guesses v_u_right v_u_taken a_u_vars a_u_marks a_u_outcomes a_u_indexes v_s_things v_s_looked v_s_lookedTooOften v_s_arraysMade v_s_cellsMade a_s_classes a_s_starts a_s_lengths a_s_cells a_L a_K a_vc a_vd a_si a_sj a_iv a_inn a_ac) H := hP
            have hD : va_D A (tw cs q v_t_tapeSize v_t_textSize v_t_faultKind a_t_tape a_t_text a_g_beyond v_g_size a_g_steps a_h_beyond v_h_size a_h_steps a_r_scratch a_r_now v_r_takes v_r_negative v_r_namePlace v_r_faultKind v_r_faultPlace v_a_size v_a_limit v_a_digits v_a_kind v_a_from v_a_to v_o_size a_o_out v_b_size v_b_limit v_b_digits (0 : Int32) v_b_size l1_5 a_u_atom a_u_other a_u_hand v_u_marksMade v_u_came v_u_guesses v_u_right v_u_taken a_u_vars a_u_marks a_u_outcomes a_u_indexes v_s_things v_s_looked v_s_lookedTooOften v_s_arraysMade v_s_cellsMade a_s_classes a_s_starts a_s_lengths a_s_cells a_L a_K a_vc a_vd a_si a_sj a_iv a_inn a_ac) := hD
            refine lv_goto (tgt := 172) hx hb dX1_next_107 (by decide) ?_
            subst hAe
            rw [hQ]
            exact W.vret hx hb hr (fun t ht hW => ⟨⟨_, rfl, ⟨v_b_digits, (0 : Int32), v_b_size, l1_5, rfl, by exact ⟨⟨by omega, by omega⟩, ⟨by omega, by omega⟩, ⟨by omega, by omega⟩, ⟨by omega, by omega⟩, by omega, fun q => by omega⟩⟩, by rw [ht]; exact hP, va_K.moved hW.alike hK, hD⟩, hS.F ht⟩) hS.2.2 dX1_next_172
        refine m_icmp_le (X := v_b_size.toInt) (Y := v_b_limit.toInt) (tgt := 86) hx hb dX1_next_59 (by decide) rfl rfl (fun c59 => ?_) (fun c59 => ?_)
        · skip
          exact J86 H locs ls hP hD hS (lv_sub hl [0, 1] rfl)
        · skip
          refine lv_iload_n hx hb dX1_next_62 rfl (lv_at hl 1 rfl) ?_
          refine lv_aload_n hx hb dX1_next_63 rfl (lv_at hl 0 rfl) ?_
          refine va_get (D := D) (ci := 0) (v := .int v_b_limit) (C := RX1) (T := TX1) (N := 7) hx hb hts hinX1 hown hK hP 11 rfl rfl 2 (by decide) k_9_15 (fun _ h9 => h9) rfl dX1_next_64 ?_
          refine m_icmp_lt (X := l1_5.toInt) (Y := v_b_limit.toInt) (tgt := 86) hx hb dX1_next_67 (by decide) rfl rfl (fun c67 => ?_) (fun c67 => ?_)
          · skip
            exact J86 H locs ls hP hD hS (lv_sub hl [0, 1] rfl)
          · skip
            refine lv_aload_n hx hb dX1_next_70 rfl (lv_at hl 0 rfl) ?_
            refine lv_iconst (v := 1) hx hb dX1_next_71 (by decide) ?_
            refine va_put (D := D) (ci := 0) (v := .int 1) (ty := .int) (C := RX1) (T := TX1) (N := 7) hx hb hts hinX1 tyX1 tyX1_ok nmX1 hown hK hP hD hS 11 rfl rfl 4 (by decide) k_9_22 (fun _ h9 => h9) rfl (by decide +kernel) rfl rfl (Nat.le_of_ble_eq_true rfl) dX1_next_72 (fun H locs hP hD hS => ?_)
            have hP : va_P D vwCl (tw cs q v_t_tapeSize v_t_textSize v_t_faultKind a_t_tape a_t_text a_g_beyond v_g_size a_g_steps a_h_beyond v_h_size a_h_steps a_r_scratch a_r_now v_r_takes v_r_negative v_r_namePlace v_r_faultKind v_r_faultPlace v_a_size v_a_limit v_a_digits v_a_kind v_a_from v_a_to v_o_size a_o_out v_b_size v_b_limit v_b_digits (1 : Int32) l1_5 l1_5 a_u_atom a_u_other a_u_hand v_u_marksMade v_u_came v_u_guesses v_u_right v_u_taken a_u_vars a_u_marks a_u_outcomes a_u_indexes v_s_things v_s_looked v_s_lookedTooOften v_s_arraysMade v_s_cellsMade a_s_classes a_s_starts a_s_lengths a_s_cells a_L a_K a_vc a_vd a_si a_sj a_iv a_inn a_ac) H := hP
            have hD : va_D A (tw cs q v_t_tapeSize v_t_textSize v_t_faultKind a_t_tape a_t_text a_g_beyond v_g_size a_g_steps a_h_beyond v_h_size a_h_steps a_r_scratch a_r_now v_r_takes v_r_negative v_r_namePlace v_r_faultKind v_r_faultPlace v_a_size v_a_limit v_a_digits v_a_kind v_a_from v_a_to v_o_size a_o_out v_b_size v_b_limit v_b_digits (1 : Int32) l1_5 l1_5 a_u_atom a_u_other a_u_hand v_u_marksMade v_u_came v_u_guesses v_u_right v_u_taken a_u_vars a_u_marks a_u_outcomes a_u_indexes v_s_things v_s_looked v_s_lookedTooOften v_s_arraysMade v_s_cellsMade a_s_classes a_s_starts a_s_lengths a_s_cells a_L a_K a_vc a_vd a_si a_sj a_iv a_inn a_ac) := hD
            refine lv_aload_n hx hb dX1_next_75 rfl (lv_at hl 0 rfl) ?_
            refine lv_aload_n hx hb dX1_next_76 rfl (lv_at hl 0 rfl) ?_
            refine va_get (D := D) (ci := 0) (v := .int v_b_limit) (C := RX1) (T := TX1) (N := 7) hx hb hts hinX1 hown hK hP 11 rfl rfl 2 (by decide) k_9_15 (fun _ h9 => h9) rfl dX1_next_77 ?_
            refine va_put (D := D) (ci := 0) (v := .int v_b_limit) (ty := .int) (C := RX1) (T := TX1) (N := 7) hx hb hts hinX1 tyX1 tyX1_ok nmX1 hown hK hP hD hS 11 rfl rfl 5 (by decide) k_9_21 (fun _ h9 => h9) rfl (by decide +kernel) rfl rfl (Nat.le_of_ble_eq_true rfl) dX1_next_80 (fun H locs hP hD hS => ?_)
            have hP : va_P D vwCl (tw cs q v_t_tapeSize v_t_textSize v_t_faultKind a_t_tape a_t_text a_g_beyond v_g_size a_g_steps a_h_beyond v_h_size a_h_steps a_r_scratch a_r_now v_r_takes v_r_negative v_r_namePlace v_r_faultKind v_r_faultPlace v_a_size v_a_limit v_a_digits v_a_kind v_a_from v_a_to v_o_size a_o_out v_b_size v_b_limit v_b_digits (1 : Int32) v_b_limit l1_5 a_u_atom a_u_other a_u_hand v_u_marksMade v_u_came v_u_guesses v_u_right v_u_taken a_u_vars a_u_marks a_u_outcomes a_u_indexes v_s_things v_s_looked v_s_lookedTooOften v_s_arraysMade v_s_cellsMade a_s_classes a_s_starts a_s_lengths a_s_cells a_L a_K a_vc a_vd a_si a_sj a_iv a_inn a_ac) H := hP
            have hD : va_D A (tw cs q v_t_tapeSize v_t_textSize v_t_faultKind a_t_tape a_t_text a_g_beyond v_g_size a_g_steps a_h_beyond v_h_size a_h_steps a_r_scratch a_r_now v_r_takes v_r_negative v_r_namePlace v_r_faultKind v_r_faultPlace v_a_size v_a_limit v_a_digits v_a_kind v_a_from v_a_to v_o_size a_o_out v_b_size v_b_limit v_b_digits (1 : Int32) v_b_limit l1_5 a_u_atom a_u_other a_u_hand v_u_marksMade v_u_came v_u_guesses v_u_right v_u_taken a_u_vars a_u_marks a_u_outcomes a_u_indexes v_s_things v_s_looked v_s_lookedTooOften v_s_arraysMade v_s_cellsMade a_s_classes a_s_starts a_s_lengths a_s_cells a_L a_K a_vc a_vd a_si a_sj a_iv a_inn a_ac) := hD
            refine lv_goto (tgt := 172) hx hb dX1_next_83 (by decide) ?_
            subst hAe
            rw [hQ]
            exact W.vret hx hb hr (fun t ht hW => ⟨⟨_, rfl, ⟨v_b_digits, (1 : Int32), v_b_limit, l1_5, rfl, by exact ⟨⟨by omega, by omega⟩, ⟨by omega, by omega⟩, ⟨by omega, by omega⟩, ⟨by omega, by omega⟩, by omega, fun q => by omega⟩⟩, by rw [ht]; exact hP, va_K.moved hW.alike hK, hD⟩, hS.F ht⟩) hS.2.2 dX1_next_172
      refine m_icmp_ge (X := l1_5.toInt) (Y := v_b_size.toInt) (tgt := 41) hx hb dX1_next_10 (by decide) rfl rfl (fun c10 => ?_) (fun c10 => ?_)
      · skip
        exact J41 H locs ls hP hD hS (lv_sub hl [0, 1] rfl)
      · skip
        refine lv_aload_n hx hb dX1_next_13 rfl (lv_at hl 0 rfl) ?_
        refine va_get (D := D) (ci := 0) (v := .ref (q 2)) (C := RX1) (T := TX1) (N := 7) hx hb hts hinX1 hown hK hP 11 rfl rfl 0 (by decide) k_3_6 (fun _ h9 => h9) rfl dX1_next_14 ?_
        refine lv_iload_n hx hb dX1_next_17 rfl (lv_at hl 1 rfl) ?_
        refine m_bald hx hb hK hP 2 2 rfl rfl (ix (by omega) (by omega)) dX1_next_18 (fun x18 e_x18 => ?_)
        have b_x18 := iB x18
        refine lv_bipush (v := 32) hx hb dX1_next_19 (by decide) ?_
        have J35 : ∀ (H : Heap) (locs : List Loc) (ls : Array Slot), (l1_5.toInt < v_b_size.toInt) → va_P D vwCl (tw cs q v_t_tapeSize v_t_textSize v_t_faultKind a_t_tape a_t_text a_g_beyond v_g_size a_g_steps a_h_beyond v_h_size a_h_steps a_r_scratch a_r_now v_r_takes v_r_negative v_r_namePlace v_r_faultKind v_r_faultPlace v_a_size v_a_limit v_a_digits v_a_kind v_a_from v_a_to v_o_size a_o_out v_b_size v_b_limit v_b_digits v_b_kind v_b_from v_b_to a_u_atom a_u_other a_u_hand v_u_marksMade v_u_came v_u_guesses v_u_right v_u_taken a_u_vars a_u_marks a_u_outcomes a_u_indexes v_s_things v_s_looked v_s_lookedTooOften v_s_arraysMade v_s_cellsMade a_s_classes a_s_starts a_s_lengths a_s_cells a_L a_K a_vc a_vd a_si a_sj a_iv a_inn a_ac) H → va_D A (tw cs q v_t_tapeSize v_t_textSize v_t_faultKind a_t_tape a_t_text a_g_beyond v_g_size a_g_steps a_h_beyond v_h_size a_h_steps a_r_scratch a_r_now v_r_takes v_r_negative v_r_namePlace v_r_faultKind v_r_faultPlace v_a_size v_a_limit v_a_digits v_a_kind v_a_from v_a_to v_o_size a_o_out v_b_size v_b_limit v_b_digits v_b_kind v_b_from v_b_to a_u_atom a_u_other a_u_hand v_u_marksMade v_u_came v_u_guesses v_u_right v_u_taken a_u_vars a_u_marks a_u_outcomes a_u_indexes v_s_things v_s_looked v_s_lookedTooOften v_s_arraysMade v_s_cellsMade a_s_classes a_s_starts a_s_lengths a_s_cells a_L a_K a_vc a_vd a_si a_sj a_iv a_inn a_ac) → va_S A s.heap H locs → lv_has ls 2 [(0, .ref (q 11)), (1, .int l1_5)] → W p l e (headSpec (wG yX1_next cX1_next 2 none) rmX1_next_qb).room s m ([.ref (q 11)] : List Value).toArray below meth c H locs 0 0 Q (F0 m 35 ls []) := by
          intro H locs ls f35_0 hP hD hS hl
          obtain ⟨x35, e_x35⟩ : ∃ z : Int32, z = l1_5 + (1 : Int32) := ⟨_, rfl⟩
          obtain ⟨k_x35, g_x35⟩ : ∃ k : Int, x35.toInt = l1_5.toInt + (1) + k * 4294967296 := by rw [e_x35]; exact iAdd l1_5 (1)
          have b_x35 := iB x35
          try (have q_x35 : x35.toInt = l1_5.toInt + (1) := (by omega); clear g_x35 k_x35)
          refine lv_iinc (v := x35) (lv' := [(1, .int x35), (0, .ref (q 11))]) hx hb dX1_next_35 hl (k := 1) rfl (by rw [e_x35]; rfl) (by decide) rfl (fun ls hl => ?_)
          refine lv_goto (tgt := 5) hx hb dX1_next_38 (by decide) ?_
          exact ih5 x35 H locs ls (by first | assumption | omega | (intros; omega) | decide) (by first | assumption | omega | (intros; omega) | decide) (by omega) hP hD hS (lv_sub hl [1, 0] rfl)
        refine m_icmp_eq (X := x18.toInt) (Y := 32) (tgt := 35) hx hb dX1_next_21 (by decide) rfl (by decide) (fun c21 => ?_) (fun c21 => ?_)
        · skip
          exact J35 H locs ls (by first | assumption | omega | (intros; omega) | decide) hP hD hS (lv_sub hl [0, 1] rfl)
        · skip
          refine lv_aload_n hx hb dX1_next_24 rfl (lv_at hl 0 rfl) ?_
          refine va_get (D := D) (ci := 0) (v := .ref (q 2)) (C := RX1) (T := TX1) (N := 7) hx hb hts hinX1 hown hK hP 11 rfl rfl 0 (by decide) k_3_6 (fun _ h9 => h9) rfl dX1_next_25 ?_
          refine lv_iload_n hx hb dX1_next_28 rfl (lv_at hl 1 rfl) ?_
          refine m_bald hx hb hK hP 2 2 rfl rfl (ix (by omega) (by omega)) dX1_next_29 (fun x29 e_x29 => ?_)
          have b_x29 := iB x29
          refine lv_bipush (v := 10) hx hb dX1_next_30 (by decide) ?_
          refine m_icmp_ne (X := x29.toInt) (Y := 10) (tgt := 41) hx hb dX1_next_32 (by decide) rfl (by decide) (fun c32 => ?_) (fun c32 => ?_)
          · skip
            exact J41 H locs ls hP hD hS (lv_sub hl [0, 1] rfl)
          · skip
            exact J35 H locs ls (by first | assumption | omega | (intros; omega) | decide) hP hD hS (lv_sub hl [0, 1] rfl)
  exact J5 ((2147483647 - v_b_to.toInt).toNat + 1) v_b_to H locs ls (by first | assumption | omega | (intros; omega) | decide) (by first | assumption | omega | (intros; omega) | decide) (by omega) hP hD hS (lv_sub hl [1, 0] rfl)

def rmX1_isSign_qb : Room := { frames := 20, cells := 0, slots := 0, locals := 400 }
set_option maxHeartbeats 4000000 in
set_option maxRecDepth 100000 in
theorem tX1_isSign_qb {l : Launch} {D : va_G} {K : Nat → Nat → Nat} {cs : Nat → ClassId} {q : Nat → Nat} {v_t_tapeSize v_t_textSize v_t_faultKind v_g_size v_h_size v_r_takes v_r_negative v_r_namePlace v_r_faultKind v_r_faultPlace v_a_size v_a_limit v_a_digits v_a_kind v_a_from v_a_to v_o_size v_b_size v_b_limit v_b_digits v_b_kind v_b_from v_b_to v_u_marksMade v_u_came v_u_guesses v_u_right v_u_taken v_s_things v_s_looked v_s_lookedTooOften v_s_arraysMade v_s_cellsMade : Int32} {a_t_tape a_t_text a_o_out a_u_outcomes a_u_indexes a_s_classes a_s_starts a_s_lengths a_vc : Nat → Int32} {a_g_beyond a_h_beyond a_r_scratch a_r_now a_u_atom a_u_other a_u_hand : Nat} {a_g_steps a_h_steps a_u_vars a_u_marks : Nat → Option Nat} {a_s_cells a_vd a_sj : Nat → Int64} {a_L : List Nat} {a_K a_iv a_inn : Nat → Nat} {a_si a_ac : Nat → Nat → Int32} (g9 : Int32) (p_0 : LI 3000 v_b_size v_b_limit v_b_digits v_b_kind v_b_from v_b_to) : CtI l yX1_isSign (wG yX1_isSign cX1_isSign 2 (some .boolean)) rmX1_isSign_qb D (twT cs) K [.ref (q 11), .int g9] (tw cs q v_t_tapeSize v_t_textSize v_t_faultKind a_t_tape a_t_text a_g_beyond v_g_size a_g_steps a_h_beyond v_h_size a_h_steps a_r_scratch a_r_now v_r_takes v_r_negative v_r_namePlace v_r_faultKind v_r_faultPlace v_a_size v_a_limit v_a_digits v_a_kind v_a_from v_a_to v_o_size a_o_out v_b_size v_b_limit v_b_digits v_b_kind v_b_from v_b_to a_u_atom a_u_other a_u_hand v_u_marksMade v_u_came v_u_guesses v_u_right v_u_taken a_u_vars a_u_marks a_u_outcomes a_u_indexes v_s_things v_s_looked v_s_lookedTooOften v_s_arraysMade v_s_cellsMade a_s_classes a_s_starts a_s_lengths a_s_cells a_L a_K a_vc a_vd a_si a_sj a_iv a_inn a_ac) (fun r w1 => w1 = (tw cs q v_t_tapeSize v_t_textSize v_t_faultKind a_t_tape a_t_text a_g_beyond v_g_size a_g_steps a_h_beyond v_h_size a_h_steps a_r_scratch a_r_now v_r_takes v_r_negative v_r_namePlace v_r_faultKind v_r_faultPlace v_a_size v_a_limit v_a_digits v_a_kind v_a_from v_a_to v_o_size a_o_out v_b_size v_b_limit v_b_digits v_b_kind v_b_from v_b_to a_u_atom a_u_other a_u_hand v_u_marksMade v_u_came v_u_guesses v_u_right v_u_taken a_u_vars a_u_marks a_u_outcomes a_u_indexes v_s_things v_s_looked v_s_lookedTooOften v_s_arraysMade v_s_cellsMade a_s_classes a_s_starts a_s_lengths a_s_cells a_L a_K a_vc a_vd a_si a_sj a_iv a_inn a_ac) ∧ (r.toInt = 0 ∨ r.toInt = 1)) 0 0 := by
  intro sz
  refine Met.ofW (cc := cX1_isSign) (maxL := 2) (ret := (some .boolean)) (by decide) rfl ?_
  intro p e s m args below meth c s₁ B hml hv
  obtain ⟨rfl, hsz, hP, hK, hD0, hE⟩ := hv
  have hx := B.exec
  have hb := B.bytes
  have hr := B.returns
  have hts := atoms_spec (ws := (wG yX1_isSign cX1_isSign 2 (some .boolean))) B.pre
  have hown : s.vm.findClass RX1 = some m.cls := findClass_of_methodNamed B.named
  have hlocks := B.notSynchronized
  subst hsz
  have hD := hD0.self (sz := s.heap.size)
  obtain ⟨A, hAe⟩ : ∃ A : Nat → Prop, A = va_A (tw cs q v_t_tapeSize v_t_textSize v_t_faultKind a_t_tape a_t_text a_g_beyond v_g_size a_g_steps a_h_beyond v_h_size a_h_steps a_r_scratch a_r_now v_r_takes v_r_negative v_r_namePlace v_r_faultKind v_r_faultPlace v_a_size v_a_limit v_a_digits v_a_kind v_a_from v_a_to v_o_size a_o_out v_b_size v_b_limit v_b_digits v_b_kind v_b_from v_b_to a_u_atom a_u_other a_u_hand v_u_marksMade v_u_came v_u_guesses v_u_right v_u_taken a_u_vars a_u_marks a_u_outcomes a_u_indexes v_s_things v_s_looked v_s_lookedTooOften v_s_arraysMade v_s_cellsMade a_s_classes a_s_starts a_s_lengths a_s_cells a_L a_K a_vc a_vd a_si a_sj a_iv a_inn a_ac) s.heap.size := ⟨_, rfl⟩
  rw [← hAe] at hD hE
  have hA : ∀ q : Nat, s.heap.size ≤ q → A q := fun q h => by rw [hAe]; exact Or.inr h
  have hS : va_S A s.heap s.heap [] := va_S.rf
  have hl := lv_entry ([.ref (q 11), .int g9]) (n := 2) (Nat.le_of_ble_eq_true rfl)
  rw [lg_entry_eq]
  generalize (lg_sl ([.ref (q 11), .int g9]) ++ List.replicate (2 - (lg_sl ([.ref (q 11), .int g9])).length) Slot.unset).toArray = ls at hl ⊢
  have hl : lv_has ls 2 [(0, .ref (q 11)), (1, .int g9)] := hl
  refine wq (fun Q hQ => ?_)
  have hinX1 : ∀ w ∈ wsX10, w ∈ (wG yX1_isSign cX1_isSign 2 (some .boolean)) := fun w h => List.mem_cons_of_mem _ (inlX1 w h)
  have kc0 : (0 : Int32).toInt = 0 := by decide
  have kc1 : (1 : Int32).toInt = 1 := by decide
  have kc2 : (4 : Int32).toInt = 4 := by decide
  have k_9_22 := hts (.fieldLink RX1 37 "ArrayTrainer$Lexer" "kind" "I") (List.mem_cons_of_mem _ (wr9 _ (List.mem_of_getElem? (i := 22) rfl)))
  have k_9_21 := hts (.fieldLink RX1 34 "ArrayTrainer$Lexer" "from" "I") (List.mem_cons_of_mem _ (wr9 _ (List.mem_of_getElem? (i := 21) rfl)))
  have k_9_14 := hts (.fieldLink RX1 24 "ArrayTrainer$Lexer" "size" "I") (List.mem_cons_of_mem _ (wr9 _ (List.mem_of_getElem? (i := 14) rfl)))
  have k_3_6 := hts (.fieldLink RX1 9 "ArrayTrainer$Lexer" "text" "[B") (List.mem_cons_of_mem _ (wr3 _ (List.mem_of_getElem? (i := 6) rfl)))
  obtain ⟨H, hH⟩ : ∃ H : Heap, H = s.heap := ⟨_, rfl⟩
  obtain ⟨locs, hlc⟩ : ∃ L : List Loc, L = [] := ⟨_, rfl⟩
  have hP : va_P D vwCl (tw cs q v_t_tapeSize v_t_textSize v_t_faultKind a_t_tape a_t_text a_g_beyond v_g_size a_g_steps a_h_beyond v_h_size a_h_steps a_r_scratch a_r_now v_r_takes v_r_negative v_r_namePlace v_r_faultKind v_r_faultPlace v_a_size v_a_limit v_a_digits v_a_kind v_a_from v_a_to v_o_size a_o_out v_b_size v_b_limit v_b_digits v_b_kind v_b_from v_b_to a_u_atom a_u_other a_u_hand v_u_marksMade v_u_came v_u_guesses v_u_right v_u_taken a_u_vars a_u_marks a_u_outcomes a_u_indexes v_s_things v_s_looked v_s_lookedTooOften v_s_arraysMade v_s_cellsMade a_s_classes a_s_starts a_s_lengths a_s_cells a_L a_K a_vc a_vd a_si a_sj a_iv a_inn a_ac) H := by rw [hH]; exact hP
  have hS : va_S A s.heap H locs := by rw [hH, hlc]; exact hS
  refine wHL hH hlc ?_
  have b_g9 := iB g9
  obtain ⟨⟨h1, h2⟩, ⟨h3, h4⟩, ⟨h5, h6⟩, ⟨h7, h8⟩, h9, h10⟩ := id p_0
  refine lv_aload_n hx hb dX1_isSign_0 rfl (lv_at hl 0 rfl) ?_
  refine va_get (D := D) (ci := 0) (v := .int v_b_kind) (C := RX1) (T := TX1) (N := 7) hx hb hts hinX1 hown hK hP 11 rfl rfl 4 (by decide) k_9_22 (fun _ h9 => h9) rfl dX1_isSign_1 ?_
  refine lv_iconst (v := 4) hx hb dX1_isSign_4 (by decide) ?_
  refine m_icmp_ne (X := v_b_kind.toInt) (Y := 4) (tgt := 36) hx hb dX1_isSign_5 (by decide) rfl (by decide) (fun c5 => ?_) (fun c5 => ?_)
  · skip
    refine lv_iconst (v := 0) hx hb dX1_isSign_36 (by decide) ?_
    subst hAe
    rw [hQ]
    exact W.zret (v := 0) hx hb hr (by decide) (fun t ht hW => ⟨⟨0, _, rfl, ⟨rfl, by first | assumption | omega | (intros; omega) | decide⟩, by rw [ht]; exact hP, va_K.moved hW.alike hK, hD⟩, hS.F ht⟩) hS.2.2 dX1_isSign_37
  · skip
    refine lv_aload_n hx hb dX1_isSign_8 rfl (lv_at hl 0 rfl) ?_
    refine va_get (D := D) (ci := 0) (v := .int v_b_from) (C := RX1) (T := TX1) (N := 7) hx hb hts hinX1 hown hK hP 11 rfl rfl 5 (by decide) k_9_21 (fun _ h9 => h9) rfl dX1_isSign_9 ?_
    refine lv_aload_n hx hb dX1_isSign_12 rfl (lv_at hl 0 rfl) ?_
    refine va_get (D := D) (ci := 0) (v := .int v_b_size) (C := RX1) (T := TX1) (N := 7) hx hb hts hinX1 hown hK hP 11 rfl rfl 1 (by decide) k_9_14 (fun _ h9 => h9) rfl dX1_isSign_13 ?_
    refine m_icmp_ge (X := v_b_from.toInt) (Y := v_b_size.toInt) (tgt := 36) hx hb dX1_isSign_16 (by decide) rfl rfl (fun c16 => ?_) (fun c16 => ?_)
    · skip
      refine lv_iconst (v := 0) hx hb dX1_isSign_36 (by decide) ?_
      subst hAe
      rw [hQ]
      exact W.zret (v := 0) hx hb hr (by decide) (fun t ht hW => ⟨⟨0, _, rfl, ⟨rfl, by first | assumption | omega | (intros; omega) | decide⟩, by rw [ht]; exact hP, va_K.moved hW.alike hK, hD⟩, hS.F ht⟩) hS.2.2 dX1_isSign_37
    · skip
      refine lv_aload_n hx hb dX1_isSign_19 rfl (lv_at hl 0 rfl) ?_
      refine va_get (D := D) (ci := 0) (v := .ref (q 2)) (C := RX1) (T := TX1) (N := 7) hx hb hts hinX1 hown hK hP 11 rfl rfl 0 (by decide) k_3_6 (fun _ h9 => h9) rfl dX1_isSign_20 ?_
      refine lv_aload_n hx hb dX1_isSign_23 rfl (lv_at hl 0 rfl) ?_
      refine va_get (D := D) (ci := 0) (v := .int v_b_from) (C := RX1) (T := TX1) (N := 7) hx hb hts hinX1 hown hK hP 11 rfl rfl 5 (by decide) k_9_21 (fun _ h9 => h9) rfl dX1_isSign_24 ?_
      refine m_bald hx hb hK hP 2 2 rfl rfl (ix (by omega) (by omega)) dX1_isSign_27 (fun x27 e_x27 => ?_)
      have b_x27 := iB x27
      refine lv_iload_n hx hb dX1_isSign_28 rfl (lv_at hl 1 rfl) ?_
      refine m_icmp_ne (X := x27.toInt) (Y := g9.toInt) (tgt := 36) hx hb dX1_isSign_29 (by decide) rfl rfl (fun c29 => ?_) (fun c29 => ?_)
      · skip
        refine lv_iconst (v := 0) hx hb dX1_isSign_36 (by decide) ?_
        subst hAe
        rw [hQ]
        exact W.zret (v := 0) hx hb hr (by decide) (fun t ht hW => ⟨⟨0, _, rfl, ⟨rfl, by first | assumption | omega | (intros; omega) | decide⟩, by rw [ht]; exact hP, va_K.moved hW.alike hK, hD⟩, hS.F ht⟩) hS.2.2 dX1_isSign_37
      · skip
        refine lv_iconst (v := 1) hx hb dX1_isSign_32 (by decide) ?_
        refine lv_goto (tgt := 37) hx hb dX1_isSign_33 (by decide) ?_
        subst hAe
        rw [hQ]
        exact W.zret (v := 1) hx hb hr (by decide) (fun t ht hW => ⟨⟨1, _, rfl, ⟨rfl, by first | assumption | omega | (intros; omega) | decide⟩, by rw [ht]; exact hP, va_K.moved hW.alike hK, hD⟩, hS.F ht⟩) hS.2.2 dX1_isSign_37

def rmX1_spelledFrom_qb : Room := { frames := 20, cells := 0, slots := 0, locals := 400 }
set_option maxHeartbeats 4000000 in
set_option maxRecDepth 100000 in
theorem tX1_spelledFrom_qb {l : Launch} {D : va_G} {K : Nat → Nat → Nat} {cs : Nat → ClassId} {q : Nat → Nat} {v_t_tapeSize v_t_textSize v_t_faultKind v_g_size v_h_size v_r_takes v_r_negative v_r_namePlace v_r_faultKind v_r_faultPlace v_a_size v_a_limit v_a_digits v_a_kind v_a_from v_a_to v_o_size v_b_size v_b_limit v_b_digits v_b_kind v_b_from v_b_to v_u_marksMade v_u_came v_u_guesses v_u_right v_u_taken v_s_things v_s_looked v_s_lookedTooOften v_s_arraysMade v_s_cellsMade : Int32} {a_t_tape a_t_text a_o_out a_u_outcomes a_u_indexes a_s_classes a_s_starts a_s_lengths a_vc : Nat → Int32} {a_g_beyond a_h_beyond a_r_scratch a_r_now a_u_atom a_u_other a_u_hand : Nat} {a_g_steps a_h_steps a_u_vars a_u_marks : Nat → Option Nat} {a_s_cells a_vd a_sj : Nat → Int64} {a_L : List Nat} {a_K a_iv a_inn : Nat → Nat} {a_si a_ac : Nat → Nat → Int32} (p_0 : LI 3000 v_b_size v_b_limit v_b_digits v_b_kind v_b_from v_b_to) : CtI l yX1_spelledFrom (wG yX1_spelledFrom cX1_spelledFrom 2 (some .int)) rmX1_spelledFrom_qb D (twT cs) K [.ref (q 11)] (tw cs q v_t_tapeSize v_t_textSize v_t_faultKind a_t_tape a_t_text a_g_beyond v_g_size a_g_steps a_h_beyond v_h_size a_h_steps a_r_scratch a_r_now v_r_takes v_r_negative v_r_namePlace v_r_faultKind v_r_faultPlace v_a_size v_a_limit v_a_digits v_a_kind v_a_from v_a_to v_o_size a_o_out v_b_size v_b_limit v_b_digits v_b_kind v_b_from v_b_to a_u_atom a_u_other a_u_hand v_u_marksMade v_u_came v_u_guesses v_u_right v_u_taken a_u_vars a_u_marks a_u_outcomes a_u_indexes v_s_things v_s_looked v_s_lookedTooOften v_s_arraysMade v_s_cellsMade a_s_classes a_s_starts a_s_lengths a_s_cells a_L a_K a_vc a_vd a_si a_sj a_iv a_inn a_ac) (fun r w1 => w1 = (tw cs q v_t_tapeSize v_t_textSize v_t_faultKind a_t_tape a_t_text a_g_beyond v_g_size a_g_steps a_h_beyond v_h_size a_h_steps a_r_scratch a_r_now v_r_takes v_r_negative v_r_namePlace v_r_faultKind v_r_faultPlace v_a_size v_a_limit v_a_digits v_a_kind v_a_from v_a_to v_o_size a_o_out v_b_size v_b_limit v_b_digits v_b_kind v_b_from v_b_to a_u_atom a_u_other a_u_hand v_u_marksMade v_u_came v_u_guesses v_u_right v_u_taken a_u_vars a_u_marks a_u_outcomes a_u_indexes v_s_things v_s_looked v_s_lookedTooOften v_s_arraysMade v_s_cellsMade a_s_classes a_s_starts a_s_lengths a_s_cells a_L a_K a_vc a_vd a_si a_sj a_iv a_inn a_ac) ∧ (0 ≤ r.toInt)) 0 0 := by
  intro sz
  refine Met.ofW (cc := cX1_spelledFrom) (maxL := 2) (ret := (some .int)) (by decide) rfl ?_
  intro p e s m args below meth c s₁ B hml hv
  obtain ⟨rfl, hsz, hP, hK, hD0, hE⟩ := hv
  have hx := B.exec
  have hb := B.bytes
  have hr := B.returns
  have hts := atoms_spec (ws := (wG yX1_spelledFrom cX1_spelledFrom 2 (some .int))) B.pre
  have hown : s.vm.findClass RX1 = some m.cls := findClass_of_methodNamed B.named
  have hlocks := B.notSynchronized
  subst hsz
  have hD := hD0.self (sz := s.heap.size)
  obtain ⟨A, hAe⟩ : ∃ A : Nat → Prop, A = va_A (tw cs q v_t_tapeSize v_t_textSize v_t_faultKind a_t_tape a_t_text a_g_beyond v_g_size a_g_steps a_h_beyond v_h_size a_h_steps a_r_scratch a_r_now v_r_takes v_r_negative v_r_namePlace v_r_faultKind v_r_faultPlace v_a_size v_a_limit v_a_digits v_a_kind v_a_from v_a_to v_o_size a_o_out v_b_size v_b_limit v_b_digits v_b_kind v_b_from v_b_to a_u_atom a_u_other a_u_hand v_u_marksMade v_u_came v_u_guesses v_u_right v_u_taken a_u_vars a_u_marks a_u_outcomes a_u_indexes v_s_things v_s_looked v_s_lookedTooOften v_s_arraysMade v_s_cellsMade a_s_classes a_s_starts a_s_lengths a_s_cells a_L a_K a_vc a_vd a_si a_sj a_iv a_inn a_ac) s.heap.size := ⟨_, rfl⟩
  rw [← hAe] at hD hE
  have hA : ∀ q : Nat, s.heap.size ≤ q → A q := fun q h => by rw [hAe]; exact Or.inr h
  have hS : va_S A s.heap s.heap [] := va_S.rf
  have hl := lv_entry ([.ref (q 11)]) (n := 2) (Nat.le_of_ble_eq_true rfl)
  rw [lg_entry_eq]
  generalize (lg_sl ([.ref (q 11)]) ++ List.replicate (2 - (lg_sl ([.ref (q 11)])).length) Slot.unset).toArray = ls at hl ⊢
  have hl : lv_has ls 2 [(0, .ref (q 11))] := hl
  refine wq (fun Q hQ => ?_)
  have hinX1 : ∀ w ∈ wsX10, w ∈ (wG yX1_spelledFrom cX1_spelledFrom 2 (some .int)) := fun w h => List.mem_cons_of_mem _ (inlX1 w h)
  have kc0 : (1 : Int32).toInt = 1 := by decide
  have kc1 : (3 : Int32).toInt = 3 := by decide
  have kc2 : (48 : Int32).toInt = 48 := by decide
  have k_9_21 := hts (.fieldLink RX1 34 "ArrayTrainer$Lexer" "from" "I") (List.mem_cons_of_mem _ (wr9 _ (List.mem_of_getElem? (i := 21) rfl)))
  have k_9_22 := hts (.fieldLink RX1 37 "ArrayTrainer$Lexer" "kind" "I") (List.mem_cons_of_mem _ (wr9 _ (List.mem_of_getElem? (i := 22) rfl)))
  have k_10_6 := hts (.fieldLink RX1 51 "ArrayTrainer$Lexer" "digits" "I") (List.mem_cons_of_mem _ (wr10 _ (List.mem_of_getElem? (i := 6) rfl)))
  have k_3_6 := hts (.fieldLink RX1 9 "ArrayTrainer$Lexer" "text" "[B") (List.mem_cons_of_mem _ (wr3 _ (List.mem_of_getElem? (i := 6) rfl)))
  obtain ⟨H, hH⟩ : ∃ H : Heap, H = s.heap := ⟨_, rfl⟩
  obtain ⟨locs, hlc⟩ : ∃ L : List Loc, L = [] := ⟨_, rfl⟩
  have hP : va_P D vwCl (tw cs q v_t_tapeSize v_t_textSize v_t_faultKind a_t_tape a_t_text a_g_beyond v_g_size a_g_steps a_h_beyond v_h_size a_h_steps a_r_scratch a_r_now v_r_takes v_r_negative v_r_namePlace v_r_faultKind v_r_faultPlace v_a_size v_a_limit v_a_digits v_a_kind v_a_from v_a_to v_o_size a_o_out v_b_size v_b_limit v_b_digits v_b_kind v_b_from v_b_to a_u_atom a_u_other a_u_hand v_u_marksMade v_u_came v_u_guesses v_u_right v_u_taken a_u_vars a_u_marks a_u_outcomes a_u_indexes v_s_things v_s_looked v_s_lookedTooOften v_s_arraysMade v_s_cellsMade a_s_classes a_s_starts a_s_lengths a_s_cells a_L a_K a_vc a_vd a_si a_sj a_iv a_inn a_ac) H := by rw [hH]; exact hP
  have hS : va_S A s.heap H locs := by rw [hH, hlc]; exact hS
  refine wHL hH hlc ?_
  obtain ⟨⟨h1, h2⟩, ⟨h3, h4⟩, ⟨h5, h6⟩, ⟨h7, h8⟩, h9, h10⟩ := id p_0
  refine lv_aload_n hx hb dX1_spelledFrom_0 rfl (lv_at hl 0 rfl) ?_
  refine va_get (D := D) (ci := 0) (v := .int v_b_from) (C := RX1) (T := TX1) (N := 7) hx hb hts hinX1 hown hK hP 11 rfl rfl 5 (by decide) k_9_21 (fun _ h9 => h9) rfl dX1_spelledFrom_1 ?_
  refine lv_istore_n (lv' := [(1, .int v_b_from), (0, .ref (q 11))]) hx hb dX1_spelledFrom_4 rfl hl (by decide) rfl (fun ls hl => ?_)
  refine lv_aload_n hx hb dX1_spelledFrom_5 rfl (lv_at hl 1 rfl) ?_
  refine va_get (D := D) (ci := 0) (v := .int v_b_kind) (C := RX1) (T := TX1) (N := 7) hx hb hts hinX1 hown hK hP 11 rfl rfl 4 (by decide) k_9_22 (fun _ h9 => h9) rfl dX1_spelledFrom_6 ?_
  refine lv_iconst (v := 3) hx hb dX1_spelledFrom_9 (by decide) ?_
  have J13 : ∀ (n13 : Nat) (l1_13 : Int32) (H : Heap) (locs : List Loc) (ls : Array Slot), (v_b_kind.toInt = 3) → (v_b_from.toInt ≤ l1_13.toInt) → (l1_13.toInt ≤ v_b_from.toInt + v_b_digits.toInt) → (v_b_from.toInt + v_b_digits.toInt - l1_13.toInt < (n13 : Int)) → va_P D vwCl (tw cs q v_t_tapeSize v_t_textSize v_t_faultKind a_t_tape a_t_text a_g_beyond v_g_size a_g_steps a_h_beyond v_h_size a_h_steps a_r_scratch a_r_now v_r_takes v_r_negative v_r_namePlace v_r_faultKind v_r_faultPlace v_a_size v_a_limit v_a_digits v_a_kind v_a_from v_a_to v_o_size a_o_out v_b_size v_b_limit v_b_digits v_b_kind v_b_from v_b_to a_u_atom a_u_other a_u_hand v_u_marksMade v_u_came v_u_guesses v_u_right v_u_taken a_u_vars a_u_marks a_u_outcomes a_u_indexes v_s_things v_s_looked v_s_lookedTooOften v_s_arraysMade v_s_cellsMade a_s_classes a_s_starts a_s_lengths a_s_cells a_L a_K a_vc a_vd a_si a_sj a_iv a_inn a_ac) H → va_D A (tw cs q v_t_tapeSize v_t_textSize v_t_faultKind a_t_tape a_t_text a_g_beyond v_g_size a_g_steps a_h_beyond v_h_size a_h_steps a_r_scratch a_r_now v_r_takes v_r_negative v_r_namePlace v_r_faultKind v_r_faultPlace v_a_size v_a_limit v_a_digits v_a_kind v_a_from v_a_to v_o_size a_o_out v_b_size v_b_limit v_b_digits v_b_kind v_b_from v_b_to a_u_atom a_u_other a_u_hand v_u_marksMade v_u_came v_u_guesses v_u_right v_u_taken a_u_vars a_u_marks a_u_outcomes a_u_indexes v_s_things v_s_looked v_s_lookedTooOften v_s_arraysMade v_s_cellsMade a_s_classes a_s_starts a_s_lengths a_s_cells a_L a_K a_vc a_vd a_si a_sj a_iv a_inn a_ac) → va_S A s.heap H locs → lv_has ls 2 [(0, .ref (q 11)), (1, .int l1_13)] → W p l e (headSpec (wG yX1_spelledFrom cX1_spelledFrom 2 (some .int)) rmX1_spelledFrom_qb).room s m ([.ref (q 11)] : List Value).toArray below meth c H locs 0 0 Q (F0 m 13 ls []) := by
    intro n13
    induction n13 with
    | zero =>
      intro l1_13 H locs ls f13_0 f13_1 f13_2 hm13
      exfalso
      omega
    | succ n13 ih13 =>
      intro l1_13 H locs ls f13_0 f13_1 f13_2 hm13 hP hD hS hl
      refine lv_iload_n hx hb dX1_spelledFrom_13 rfl (lv_at hl 1 rfl) ?_
      refine lv_iconst (v := 1) hx hb dX1_spelledFrom_14 (by decide) ?_
      refine m_iadd (X := l1_13.toInt) (Y := 1) hx hb dX1_spelledFrom_15 rfl (by decide) (fun x15 e_x15 g9 => ?_)
      obtain ⟨k_x15, g_x15⟩ := g9
      have b_x15 := iB x15
      try (have q_x15 : x15.toInt = l1_13.toInt + 1 := (by omega); clear g_x15 k_x15)
      refine lv_aload_n hx hb dX1_spelledFrom_16 rfl (lv_at hl 0 rfl) ?_
      refine va_get (D := D) (ci := 0) (v := .int v_b_from) (C := RX1) (T := TX1) (N := 7) hx hb hts hinX1 hown hK hP 11 rfl rfl 5 (by decide) k_9_21 (fun _ h9 => h9) rfl dX1_spelledFrom_17 ?_
      refine lv_aload_n hx hb dX1_spelledFrom_20 rfl (lv_at hl 0 rfl) ?_
      refine va_get (D := D) (ci := 0) (v := .int v_b_digits) (C := RX1) (T := TX1) (N := 7) hx hb hts hinX1 hown hK hP 11 rfl rfl 3 (by decide) k_10_6 (fun _ h9 => h9) rfl dX1_spelledFrom_21 ?_
      refine m_iadd (X := v_b_from.toInt) (Y := v_b_digits.toInt) hx hb dX1_spelledFrom_24 rfl rfl (fun x24 e_x24 g9 => ?_)
      obtain ⟨k_x24, g_x24⟩ := g9
      have b_x24 := iB x24
      try (have q_x24 : x24.toInt = v_b_from.toInt + v_b_digits.toInt := (by omega); clear g_x24 k_x24)
      refine m_icmp_ge (X := x15.toInt) (Y := x24.toInt) (tgt := 45) hx hb dX1_spelledFrom_25 (by decide) rfl rfl (fun c25 => ?_) (fun c25 => ?_)
      · skip
        refine lv_iload_n hx hb dX1_spelledFrom_45 rfl (lv_at hl 1 rfl) ?_
        subst hAe
        rw [hQ]
        exact W.iret (v := l1_13) hx hb hr (fun t ht hW => ⟨⟨l1_13, _, rfl, ⟨rfl, by first | assumption | omega | (intros; omega) | decide⟩, by rw [ht]; exact hP, va_K.moved hW.alike hK, hD⟩, hS.F ht⟩) hS.2.2 dX1_spelledFrom_46
      · skip
        refine lv_aload_n hx hb dX1_spelledFrom_28 rfl (lv_at hl 0 rfl) ?_
        refine va_get (D := D) (ci := 0) (v := .ref (q 2)) (C := RX1) (T := TX1) (N := 7) hx hb hts hinX1 hown hK hP 11 rfl rfl 0 (by decide) k_3_6 (fun _ h9 => h9) rfl dX1_spelledFrom_29 ?_
        refine lv_iload_n hx hb dX1_spelledFrom_32 rfl (lv_at hl 1 rfl) ?_
        refine m_bald hx hb hK hP 2 2 rfl rfl (ix (by omega) (by omega)) dX1_spelledFrom_33 (fun x33 e_x33 => ?_)
        have b_x33 := iB x33
        refine lv_bipush (v := 48) hx hb dX1_spelledFrom_34 (by decide) ?_
        refine m_icmp_ne (X := x33.toInt) (Y := 48) (tgt := 45) hx hb dX1_spelledFrom_36 (by decide) rfl (by decide) (fun c36 => ?_) (fun c36 => ?_)
        · skip
          refine lv_iload_n hx hb dX1_spelledFrom_45 rfl (lv_at hl 1 rfl) ?_
          subst hAe
          rw [hQ]
          exact W.iret (v := l1_13) hx hb hr (fun t ht hW => ⟨⟨l1_13, _, rfl, ⟨rfl, by first | assumption | omega | (intros; omega) | decide⟩, by rw [ht]; exact hP, va_K.moved hW.alike hK, hD⟩, hS.F ht⟩) hS.2.2 dX1_spelledFrom_46
        · skip
          obtain ⟨x39, e_x39⟩ : ∃ z : Int32, z = l1_13 + (1 : Int32) := ⟨_, rfl⟩
          obtain ⟨k_x39, g_x39⟩ : ∃ k : Int, x39.toInt = l1_13.toInt + (1) + k * 4294967296 := by rw [e_x39]; exact iAdd l1_13 (1)
          have b_x39 := iB x39
          try (have q_x39 : x39.toInt = l1_13.toInt + (1) := (by omega); clear g_x39 k_x39)
          refine lv_iinc (v := x39) (lv' := [(1, .int x39), (0, .ref (q 11))]) hx hb dX1_spelledFrom_39 hl (k := 1) rfl (by rw [e_x39]; rfl) (by decide) rfl (fun ls hl => ?_)
          refine lv_goto (tgt := 13) hx hb dX1_spelledFrom_42 (by decide) ?_
          exact ih13 x39 H locs ls (by first | assumption | omega | (intros; omega) | decide) (by first | assumption | omega | (intros; omega) | decide) (by first | assumption | omega | (intros; omega) | decide) (by omega) hP hD hS (lv_sub hl [1, 0] rfl)
  refine m_icmp_ne (X := v_b_kind.toInt) (Y := 3) (tgt := 45) hx hb dX1_spelledFrom_10 (by decide) rfl (by decide) (fun c10 => ?_) (fun c10 => ?_)
  · skip
    refine lv_iload_n hx hb dX1_spelledFrom_45 rfl (lv_at hl 0 rfl) ?_
    subst hAe
    rw [hQ]
    exact W.iret (v := v_b_from) hx hb hr (fun t ht hW => ⟨⟨v_b_from, _, rfl, ⟨rfl, by first | assumption | omega | (intros; omega) | decide⟩, by rw [ht]; exact hP, va_K.moved hW.alike hK, hD⟩, hS.F ht⟩) hS.2.2 dX1_spelledFrom_46
  · skip
    exact J13 ((v_b_from.toInt + v_b_digits.toInt - v_b_from.toInt).toNat + 1) v_b_from H locs ls (by first | assumption | omega | (intros; omega) | decide) (by first | assumption | omega | (intros; omega) | decide) (by first | assumption | omega | (intros; omega) | decide) (by omega) hP hD hS (lv_sub hl [1, 0] rfl)

def rmX1_byteAt_qb : Room := { frames := 20, cells := 0, slots := 0, locals := 400 }
set_option maxHeartbeats 4000000 in
set_option maxRecDepth 100000 in
theorem tX1_byteAt_qb {l : Launch} {D : va_G} {K : Nat → Nat → Nat} {cs : Nat → ClassId} {q : Nat → Nat} {v_t_tapeSize v_t_textSize v_t_faultKind v_g_size v_h_size v_r_takes v_r_negative v_r_namePlace v_r_faultKind v_r_faultPlace v_a_size v_a_limit v_a_digits v_a_kind v_a_from v_a_to v_o_size v_b_size v_b_limit v_b_digits v_b_kind v_b_from v_b_to v_u_marksMade v_u_came v_u_guesses v_u_right v_u_taken v_s_things v_s_looked v_s_lookedTooOften v_s_arraysMade v_s_cellsMade : Int32} {a_t_tape a_t_text a_o_out a_u_outcomes a_u_indexes a_s_classes a_s_starts a_s_lengths a_vc : Nat → Int32} {a_g_beyond a_h_beyond a_r_scratch a_r_now a_u_atom a_u_other a_u_hand : Nat} {a_g_steps a_h_steps a_u_vars a_u_marks : Nat → Option Nat} {a_s_cells a_vd a_sj : Nat → Int64} {a_L : List Nat} {a_K a_iv a_inn : Nat → Nat} {a_si a_ac : Nat → Nat → Int32} (i9 : Int32) (p_0 : 0 ≤ v_b_size.toInt) (p_1 : v_b_size.toInt ≤ 3000) : CtI l yX1_byteAt (wG yX1_byteAt cX1_byteAt 2 (some .int)) rmX1_byteAt_qb D (twT cs) K [.ref (q 11), .int i9] (tw cs q v_t_tapeSize v_t_textSize v_t_faultKind a_t_tape a_t_text a_g_beyond v_g_size a_g_steps a_h_beyond v_h_size a_h_steps a_r_scratch a_r_now v_r_takes v_r_negative v_r_namePlace v_r_faultKind v_r_faultPlace v_a_size v_a_limit v_a_digits v_a_kind v_a_from v_a_to v_o_size a_o_out v_b_size v_b_limit v_b_digits v_b_kind v_b_from v_b_to a_u_atom a_u_other a_u_hand v_u_marksMade v_u_came v_u_guesses v_u_right v_u_taken a_u_vars a_u_marks a_u_outcomes a_u_indexes v_s_things v_s_looked v_s_lookedTooOften v_s_arraysMade v_s_cellsMade a_s_classes a_s_starts a_s_lengths a_s_cells a_L a_K a_vc a_vd a_si a_sj a_iv a_inn a_ac) (fun r w1 => w1 = (tw cs q v_t_tapeSize v_t_textSize v_t_faultKind a_t_tape a_t_text a_g_beyond v_g_size a_g_steps a_h_beyond v_h_size a_h_steps a_r_scratch a_r_now v_r_takes v_r_negative v_r_namePlace v_r_faultKind v_r_faultPlace v_a_size v_a_limit v_a_digits v_a_kind v_a_from v_a_to v_o_size a_o_out v_b_size v_b_limit v_b_digits v_b_kind v_b_from v_b_to a_u_atom a_u_other a_u_hand v_u_marksMade v_u_came v_u_guesses v_u_right v_u_taken a_u_vars a_u_marks a_u_outcomes a_u_indexes v_s_things v_s_looked v_s_lookedTooOften v_s_arraysMade v_s_cellsMade a_s_classes a_s_starts a_s_lengths a_s_cells a_L a_K a_vc a_vd a_si a_sj a_iv a_inn a_ac)) 0 0 := by
  intro sz
  refine Met.ofW (cc := cX1_byteAt) (maxL := 2) (ret := (some .int)) (by decide) rfl ?_
  intro p e s m args below meth c s₁ B hml hv
  obtain ⟨rfl, hsz, hP, hK, hD0, hE⟩ := hv
  have hx := B.exec
  have hb := B.bytes
  have hr := B.returns
  have hts := atoms_spec (ws := (wG yX1_byteAt cX1_byteAt 2 (some .int))) B.pre
  have hown : s.vm.findClass RX1 = some m.cls := findClass_of_methodNamed B.named
  have hlocks := B.notSynchronized
  subst hsz
  have hD := hD0.self (sz := s.heap.size)
  obtain ⟨A, hAe⟩ : ∃ A : Nat → Prop, A = va_A (tw cs q v_t_tapeSize v_t_textSize v_t_faultKind a_t_tape a_t_text a_g_beyond v_g_size a_g_steps a_h_beyond v_h_size a_h_steps a_r_scratch a_r_now v_r_takes v_r_negative v_r_namePlace v_r_faultKind v_r_faultPlace v_a_size v_a_limit v_a_digits v_a_kind v_a_from v_a_to v_o_size a_o_out v_b_size v_b_limit v_b_digits v_b_kind v_b_from v_b_to a_u_atom a_u_other a_u_hand v_u_marksMade v_u_came v_u_guesses v_u_right v_u_taken a_u_vars a_u_marks a_u_outcomes a_u_indexes v_s_things v_s_looked v_s_lookedTooOften v_s_arraysMade v_s_cellsMade a_s_classes a_s_starts a_s_lengths a_s_cells a_L a_K a_vc a_vd a_si a_sj a_iv a_inn a_ac) s.heap.size := ⟨_, rfl⟩
  rw [← hAe] at hD hE
  have hA : ∀ q : Nat, s.heap.size ≤ q → A q := fun q h => by rw [hAe]; exact Or.inr h
  have hS : va_S A s.heap s.heap [] := va_S.rf
  have hl := lv_entry ([.ref (q 11), .int i9]) (n := 2) (Nat.le_of_ble_eq_true rfl)
  rw [lg_entry_eq]
  generalize (lg_sl ([.ref (q 11), .int i9]) ++ List.replicate (2 - (lg_sl ([.ref (q 11), .int i9])).length) Slot.unset).toArray = ls at hl ⊢
  have hl : lv_has ls 2 [(0, .ref (q 11)), (1, .int i9)] := hl
  refine wq (fun Q hQ => ?_)
  have hinX1 : ∀ w ∈ wsX10, w ∈ (wG yX1_byteAt cX1_byteAt 2 (some .int)) := fun w h => List.mem_cons_of_mem _ (inlX1 w h)
  have kc0 : (0 : Int32).toInt = 0 := by decide
  have k_9_14 := hts (.fieldLink RX1 24 "ArrayTrainer$Lexer" "size" "I") (List.mem_cons_of_mem _ (wr9 _ (List.mem_of_getElem? (i := 14) rfl)))
  have k_3_6 := hts (.fieldLink RX1 9 "ArrayTrainer$Lexer" "text" "[B") (List.mem_cons_of_mem _ (wr3 _ (List.mem_of_getElem? (i := 6) rfl)))
  obtain ⟨H, hH⟩ : ∃ H : Heap, H = s.heap := ⟨_, rfl⟩
  obtain ⟨locs, hlc⟩ : ∃ L : List Loc, L = [] := ⟨_, rfl⟩
  have hP : va_P D vwCl (tw cs q v_t_tapeSize v_t_textSize v_t_faultKind a_t_tape a_t_text a_g_beyond v_g_size a_g_steps a_h_beyond v_h_size a_h_steps a_r_scratch a_r_now v_r_takes v_r_negative v_r_namePlace v_r_faultKind v_r_faultPlace v_a_size v_a_limit v_a_digits v_a_kind v_a_from v_a_to v_o_size a_o_out v_b_size v_b_limit v_b_digits v_b_kind v_b_from v_b_to a_u_atom a_u_other a_u_hand v_u_marksMade v_u_came v_u_guesses v_u_right v_u_taken a_u_vars a_u_marks a_u_outcomes a_u_indexes v_s_things v_s_looked v_s_lookedTooOften v_s_arraysMade v_s_cellsMade a_s_classes a_s_starts a_s_lengths a_s_cells a_L a_K a_vc a_vd a_si a_sj a_iv a_inn a_ac) H := by rw [hH]; exact hP
  have hS : va_S A s.heap H locs := by rw [hH, hlc]; exact hS
  refine wHL hH hlc ?_
  have b_i9 := iB i9
  refine lv_iload_n hx hb dX1_byteAt_0 rfl (lv_at hl 1 rfl) ?_
  refine m_if_lt (X := i9.toInt) (tgt := 21) hx hb dX1_byteAt_1 (by decide) rfl (fun c1 => ?_) (fun c1 => ?_)
  · skip
    refine lv_iconst (v := 0) hx hb dX1_byteAt_21 (by decide) ?_
    subst hAe
    rw [hQ]
    exact W.iret (v := 0) hx hb hr (fun t ht hW => ⟨⟨0, _, rfl, rfl, by rw [ht]; exact hP, va_K.moved hW.alike hK, hD⟩, hS.F ht⟩) hS.2.2 dX1_byteAt_22
  · skip
    refine lv_iload_n hx hb dX1_byteAt_4 rfl (lv_at hl 1 rfl) ?_
    refine lv_aload_n hx hb dX1_byteAt_5 rfl (lv_at hl 0 rfl) ?_
    refine va_get (D := D) (ci := 0) (v := .int v_b_size) (C := RX1) (T := TX1) (N := 7) hx hb hts hinX1 hown hK hP 11 rfl rfl 1 (by decide) k_9_14 (fun _ h9 => h9) rfl dX1_byteAt_6 ?_
    refine m_icmp_ge (X := i9.toInt) (Y := v_b_size.toInt) (tgt := 21) hx hb dX1_byteAt_9 (by decide) rfl rfl (fun c9 => ?_) (fun c9 => ?_)
    · skip
      refine lv_iconst (v := 0) hx hb dX1_byteAt_21 (by decide) ?_
      subst hAe
      rw [hQ]
      exact W.iret (v := 0) hx hb hr (fun t ht hW => ⟨⟨0, _, rfl, rfl, by rw [ht]; exact hP, va_K.moved hW.alike hK, hD⟩, hS.F ht⟩) hS.2.2 dX1_byteAt_22
    · skip
      refine lv_aload_n hx hb dX1_byteAt_12 rfl (lv_at hl 0 rfl) ?_
      refine va_get (D := D) (ci := 0) (v := .ref (q 2)) (C := RX1) (T := TX1) (N := 7) hx hb hts hinX1 hown hK hP 11 rfl rfl 0 (by decide) k_3_6 (fun _ h9 => h9) rfl dX1_byteAt_13 ?_
      refine lv_iload_n hx hb dX1_byteAt_16 rfl (lv_at hl 1 rfl) ?_
      refine m_bald hx hb hK hP 2 2 rfl rfl (ix (by omega) (by omega)) dX1_byteAt_17 (fun x17 e_x17 => ?_)
      have b_x17 := iB x17
      refine lv_goto (tgt := 22) hx hb dX1_byteAt_18 (by decide) ?_
      subst hAe
      rw [hQ]
      exact W.iret (v := x17) hx hb hr (fun t ht hW => ⟨⟨x17, _, rfl, rfl, by rw [ht]; exact hP, va_K.moved hW.alike hK, hD⟩, hS.F ht⟩) hS.2.2 dX1_byteAt_22
