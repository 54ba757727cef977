def rmX3_stepAt_qg : Room := { frames := 60, cells := 3, slots := 21, locals := 1200 }
set_option maxHeartbeats 4000000 in
set_option maxRecDepth 100000 in
theorem tX3_stepAt_qg {l : Launch} {D : va_G} {K : Nat → Nat → Nat} {cs : Nat → ClassId} {q : Nat → Nat} {v_t_tapeSize v_t_textSize v_t_faultKind v_g_size v_h_size v_r_takes v_r_negative v_r_namePlace v_r_faultKind v_r_faultPlace v_a_size v_a_limit v_a_digits v_a_kind v_a_from v_a_to v_o_size v_b_size v_b_limit v_b_digits v_b_kind v_b_from v_b_to v_u_marksMade v_u_came v_u_guesses v_u_right v_u_taken v_s_things v_s_looked v_s_lookedTooOften v_s_arraysMade v_s_cellsMade : Int32} {a_t_tape a_t_text a_o_out a_u_outcomes a_u_indexes a_s_classes a_s_starts a_s_lengths a_vc : Nat → Int32} {a_g_beyond a_h_beyond a_r_scratch a_r_now a_u_atom a_u_other a_u_hand : Nat} {a_g_steps a_h_steps a_u_vars a_u_marks : Nat → Option Nat} {a_s_cells a_vd a_sj : Nat → Int64} {a_L : List Nat} {a_K a_iv a_inn : Nat → Nat} {a_si a_ac : Nat → Nat → Int32} (k9 : Int32) (p_0 : RF a_L a_K a_g_beyond a_h_beyond a_r_scratch a_g_steps a_h_steps a_u_atom a_u_other a_u_hand a_u_vars a_u_marks) (p_1 : PI a_L a_K a_si a_iv a_inn) : CtR l yX3_stepAt (wG yX3_stepAt cX3_stepAt 3 (some (.object "ArrayTrainer$Step"))) rmX3_stepAt_qg D (twT cs) K [.ref (q 3), .int k9] (tw cs q v_t_tapeSize v_t_textSize v_t_faultKind a_t_tape a_t_text a_g_beyond v_g_size a_g_steps a_h_beyond v_h_size a_h_steps a_r_scratch a_r_now v_r_takes v_r_negative v_r_namePlace v_r_faultKind v_r_faultPlace v_a_size v_a_limit v_a_digits v_a_kind v_a_from v_a_to v_o_size a_o_out v_b_size v_b_limit v_b_digits v_b_kind v_b_from v_b_to a_u_atom a_u_other a_u_hand v_u_marksMade v_u_came v_u_guesses v_u_right v_u_taken a_u_vars a_u_marks a_u_outcomes a_u_indexes v_s_things v_s_looked v_s_lookedTooOften v_s_arraysMade v_s_cellsMade a_s_classes a_s_starts a_s_lengths a_s_cells a_L a_K a_vc a_vd a_si a_sj a_iv a_inn a_ac) (fun r w1 => ∃ (a_g_steps' : Nat → Option Nat) (a_L' : List Nat) (a_K' : Nat → Nat) (a_si' : Nat → Nat → Int32) (a_sj' : Nat → Int64) (a_iv' : Nat → Nat) (a_inn' : Nat → Nat) (a_ac' : Nat → Nat → Int32), w1 = (tw cs q v_t_tapeSize v_t_textSize v_t_faultKind a_t_tape a_t_text a_g_beyond v_g_size a_g_steps' a_h_beyond v_h_size a_h_steps a_r_scratch a_r_now v_r_takes v_r_negative v_r_namePlace v_r_faultKind v_r_faultPlace v_a_size v_a_limit v_a_digits v_a_kind v_a_from v_a_to v_o_size a_o_out v_b_size v_b_limit v_b_digits v_b_kind v_b_from v_b_to a_u_atom a_u_other a_u_hand v_u_marksMade v_u_came v_u_guesses v_u_right v_u_taken a_u_vars a_u_marks a_u_outcomes a_u_indexes v_s_things v_s_looked v_s_lookedTooOften v_s_arraysMade v_s_cellsMade a_s_classes a_s_starts a_s_lengths a_s_cells a_L' a_K' a_vc a_vd a_si' a_sj' a_iv' a_inn' a_ac') ∧ (aS a_L' a_K' r) ∧ (RF a_L' a_K' a_g_beyond a_h_beyond a_r_scratch a_g_steps' a_h_steps a_u_atom a_u_other a_u_hand a_u_vars a_u_marks) ∧ (PI a_L' a_K' a_si' a_iv' a_inn') ∧ (∀ x, x ∈ a_L → x ∈ a_L') ∧ (∀ x, x ∈ a_L → a_K' x = a_K x)) 3 21 := by
  intro sz
  refine Met.ofW (cc := cX3_stepAt) (maxL := 3) (ret := (some (.object "ArrayTrainer$Step"))) (by decide) rfl ?_
  intro p e s m args below meth c s₁ B hml hv
  obtain ⟨rfl, hsz, hP, hK, hD0, hE⟩ := hv
  have hx := B.exec
  have hb := B.bytes
  have hr := B.returns
  have hts := atoms_spec (ws := (wG yX3_stepAt cX3_stepAt 3 (some (.object "ArrayTrainer$Step")))) B.pre
  have hown : s.vm.findClass RX3 = some m.cls := findClass_of_methodNamed B.named
  have hlocks := B.notSynchronized
  subst hsz
  have hD := hD0.self (sz := s.heap.size)
  obtain ⟨A, hAe⟩ : ∃ A : Nat → Prop, A = va_A (tw cs q v_t_tapeSize v_t_textSize v_t_faultKind a_t_tape a_t_text a_g_beyond v_g_size a_g_steps a_h_beyond v_h_size a_h_steps a_r_scratch a_r_now v_r_takes v_r_negative v_r_namePlace v_r_faultKind v_r_faultPlace v_a_size v_a_limit v_a_digits v_a_kind v_a_from v_a_to v_o_size a_o_out v_b_size v_b_limit v_b_digits v_b_kind v_b_from v_b_to a_u_atom a_u_other a_u_hand v_u_marksMade v_u_came v_u_guesses v_u_right v_u_taken a_u_vars a_u_marks a_u_outcomes a_u_indexes v_s_things v_s_looked v_s_lookedTooOften v_s_arraysMade v_s_cellsMade a_s_classes a_s_starts a_s_lengths a_s_cells a_L a_K a_vc a_vd a_si a_sj a_iv a_inn a_ac) s.heap.size := ⟨_, rfl⟩
  rw [← hAe] at hD hE
  have hA : ∀ q : Nat, s.heap.size ≤ q → A q := fun q h => by rw [hAe]; exact Or.inr h
  have hS : va_S A s.heap s.heap [] := va_S.rf
  have hl := lv_entry ([.ref (q 3), .int k9]) (n := 3) (Nat.le_of_ble_eq_true rfl)
  rw [lg_entry_eq]
  generalize (lg_sl ([.ref (q 3), .int k9]) ++ List.replicate (3 - (lg_sl ([.ref (q 3), .int k9])).length) Slot.unset).toArray = ls at hl ⊢
  have hl : lv_has ls 3 [(0, .ref (q 3)), (1, .int k9)] := hl
  refine wq (fun Q hQ => ?_)
  have hinX3 : ∀ w ∈ wsX30, w ∈ (wG yX3_stepAt cX3_stepAt 3 (some (.object "ArrayTrainer$Step"))) := fun w h => List.mem_cons_of_mem _ (inlX3 w h)
  have hinX6 : ∀ w ∈ wsX60, w ∈ (wG yX3_stepAt cX3_stepAt 3 (some (.object "ArrayTrainer$Step"))) := fun w h => List.mem_cons_of_mem _ (inlX6 w h)
  have k_2_19 := hts (.fieldLink RX3 18 "ArrayTrainer$Program" "beyond" "LArrayTrainer$Step;") (List.mem_cons_of_mem _ (wr2 _ (List.mem_of_getElem? (i := 19) rfl)))
  have k_2_16 := hts (.fieldLink RX3 11 "ArrayTrainer$Program" "steps" "[LArrayTrainer$Step;") (List.mem_cons_of_mem _ (wr2 _ (List.mem_of_getElem? (i := 16) rfl)))
  have k_2_15 := hts (.classLink RX3 9 RX6) (List.mem_cons_of_mem _ (wr2 _ (List.mem_of_getElem? (i := 15) rfl)))
  have k_2_17 := hts (.instantiable RX6 15) (List.mem_cons_of_mem _ (wr2 _ (List.mem_of_getElem? (i := 17) rfl)))
  have k_2_18 := hts (.initialized RX6) (List.mem_cons_of_mem _ (wr2 _ (List.mem_of_getElem? (i := 18) rfl)))
  have k_2_20 := hts (.instanceMethod yX6_init) (List.mem_cons_of_mem _ (wr2 _ (List.mem_of_getElem? (i := 20) rfl)))
  obtain ⟨H, hH⟩ : ∃ H : Heap, H = s.heap := ⟨_, rfl⟩
  obtain ⟨locs, hlc⟩ : ∃ L : List Loc, L = [] := ⟨_, rfl⟩
  have hP : va_P D vwCl (tw cs q v_t_tapeSize v_t_textSize v_t_faultKind a_t_tape a_t_text a_g_beyond v_g_size a_g_steps a_h_beyond v_h_size a_h_steps a_r_scratch a_r_now v_r_takes v_r_negative v_r_namePlace v_r_faultKind v_r_faultPlace v_a_size v_a_limit v_a_digits v_a_kind v_a_from v_a_to v_o_size a_o_out v_b_size v_b_limit v_b_digits v_b_kind v_b_from v_b_to a_u_atom a_u_other a_u_hand v_u_marksMade v_u_came v_u_guesses v_u_right v_u_taken a_u_vars a_u_marks a_u_outcomes a_u_indexes v_s_things v_s_looked v_s_lookedTooOften v_s_arraysMade v_s_cellsMade a_s_classes a_s_starts a_s_lengths a_s_cells a_L a_K a_vc a_vd a_si a_sj a_iv a_inn a_ac) H := by rw [hH]; exact hP
  have hS : va_S A s.heap H locs := by rw [hH, hlc]; exact hS
  refine wHL hH hlc ?_
  have b_k9 := iB k9
  refine lv_iload_n hx hb dX3_stepAt_0 rfl (lv_at hl 1 rfl) ?_
  refine m_if_lt (X := k9.toInt) (tgt := 13) hx hb dX3_stepAt_1 (by decide) rfl (fun c1 => ?_) (fun c1 => ?_)
  · skip
    refine lv_aload_n hx hb dX3_stepAt_13 rfl (lv_at hl 0 rfl) ?_
    have hf14 : aS a_L a_K a_g_beyond := by first | assumption | exact RF.z_gB (by assumption)
    refine va_get (D := D) (ci := 2) (v := .ref a_g_beyond) (C := RX3) (T := TX3) (N := 3) hx hb hts hinX3 hown hK hP 3 rfl rfl 1 (by decide) k_2_19 (fun _ h9 => h9) rfl dX3_stepAt_14 ?_
    refine W.widen (k := 3) (n := 21) (by omega) (by omega) ?_
    subst hAe
    rw [hQ]
    exact W.aret (v := .ref a_g_beyond) hx hb hr (Or.inl ⟨_, rfl⟩) (Or.inr ⟨_, rfl⟩) (fun t ht hW => ⟨⟨_, _, rfl, trivial, ⟨⟨a_g_steps, a_L, a_K, a_si, a_sj, a_iv, a_inn, a_ac, rfl, by first | assumption | omega | (intros; omega) | decide, by first | assumption | omega | (intros; omega) | decide, by first | assumption | omega | (intros; omega) | decide, by first | exact fun _ h => h | assumption, by first | exact fun _ _ => rfl | assumption⟩, by rw [ht]; exact hP, va_K.moved hW.alike hK, hD⟩⟩, hS.F ht⟩) hS.2.2 dX3_stepAt_17
  · skip
    refine lv_iload_n hx hb dX3_stepAt_4 rfl (lv_at hl 1 rfl) ?_
    refine lv_aload_n hx hb dX3_stepAt_5 rfl (lv_at hl 0 rfl) ?_
    refine va_get (D := D) (ci := 2) (v := .ref (q 4)) (C := RX3) (T := TX3) (N := 3) hx hb hts hinX3 hown hK hP 3 rfl rfl 0 (by decide) k_2_16 (fun _ h9 => h9) rfl dX3_stepAt_6 ?_
    refine m_alen hx hb hK hP 4 4 rfl rfl (show 100 < 2147483648 by decide) dX3_stepAt_9 (fun x9 g_x9 => ?_)
    have g_x9 : x9.toInt = 100 := g_x9
    refine m_icmp_lt (X := k9.toInt) (Y := x9.toInt) (tgt := 18) hx hb dX3_stepAt_10 (by decide) rfl rfl (fun c10 => ?_) (fun c10 => ?_)
    · skip
      refine lv_aload_n hx hb dX3_stepAt_18 rfl (lv_at hl 0 rfl) ?_
      refine va_get (D := D) (ci := 2) (v := .ref (q 4)) (C := RX3) (T := TX3) (N := 3) hx hb hts hinX3 hown hK hP 3 rfl rfl 0 (by decide) k_2_16 (fun _ h9 => h9) rfl dX3_stepAt_19 ?_
      refine lv_iload_n hx hb dX3_stepAt_22 rfl (lv_at hl 1 rfl) ?_
      rcases RF.z_gS (by assumption) k9.toNatClampNeg (by have t9 := tn (i := k9) (by omega); omega) with e_x23 | ⟨x23, e_x23, h_x23⟩
      · skip
        refine m_aldn hx hb hK hP 4 4 rfl rfl (ix (by omega) (by omega)) e_x23 dX3_stepAt_23 ?_
        refine lv_astore_nN (lv' := [(2, .null), (0, .ref (q 3)), (1, .int k9)]) hx hb dX3_stepAt_24 rfl hl (by decide) rfl (fun ls hl => ?_)
        refine lv_aload_nN hx hb dX3_stepAt_25 rfl (lv_at hl 0 rfl) ?_
        refine lv_ifnonnullN hx hb dX3_stepAt_26 ?_
        refine va_new (ci := 5) (fs := [.int 0, .int 0, .int 0, .int 0, .int 0, .int 0, .int 0, .int 0, .int 0, .int 0, .null, .null, .int 0, .int 0, .long 0]) (C := RX6) (T := TX6) (N := 15) hx hb hts hinX6 tyX6 tyX6_ok hown k_2_15 k_2_17 k_2_18 hK hP hD hS hA rfl (by decide +kernel) (Nat.le_of_ble_eq_true rfl) (Nat.le_of_ble_eq_true rfl) dX3_stepAt_29 (fun q29 H hP hD hS => ?_)
        refine lv_dup hx hb dX3_stepAt_32 rfl ?_
        refine call_vIN (As := []) (rest := [.ref q29]) (wr := (tw cs q v_t_tapeSize v_t_textSize v_t_faultKind a_t_tape a_t_text a_g_beyond v_g_size a_g_steps a_h_beyond v_h_size a_h_steps a_r_scratch a_r_now v_r_takes v_r_negative v_r_namePlace v_r_faultKind v_r_faultPlace v_a_size v_a_limit v_a_digits v_a_kind v_a_from v_a_to v_o_size a_o_out v_b_size v_b_limit v_b_digits v_b_kind v_b_from v_b_to a_u_atom a_u_other a_u_hand v_u_marksMade v_u_came v_u_guesses v_u_right v_u_taken a_u_vars a_u_marks a_u_outcomes a_u_indexes v_s_things v_s_looked v_s_lookedTooOften v_s_arraysMade v_s_cellsMade a_s_classes a_s_starts a_s_lengths a_s_cells a_L a_K a_vc a_vd a_si a_sj a_iv a_inn a_ac)) (wc := [(q29, .inr (5, [.int 0, .int 0, .int 0, .int 0, .int 0, .int 0, .int 0, .int 0, .int 0, .int 0, .null, .null, .int 0, .int 0, .long 0]))]) ⟨hx, hb, hml, hown, hts⟩ (tX6_init (l := l) q29) ⟨va_cnB 0 hts (gI (wr2 _ (List.mem_of_getElem? (i := 21) rfl))) rfl rfl rfl hE.2.2.2.2.2.2.2.1 k_2_18 (by decide +kernel) ⟨(Nat.le_of_ble_eq_true rfl), (Nat.le_of_ble_eq_true rfl)⟩, rfl, k_2_20⟩ hK hP hD hE hS hA rfl hl.1 rfl (Nat.le_of_ble_eq_true rfl) dX3_stepAt_33 ⟨(Nat.le_of_ble_eq_true rfl), (Nat.le_of_ble_eq_true rfl)⟩ (fun w9 H locs hw29 hP hD hS => ?_)
        obtain ⟨qa29, qb29, rfl⟩ := hw29
        obtain ⟨m1, m2, m3, m4, m5, m6⟩ := fresh3 (X := (twX cs q v_t_tapeSize v_t_textSize v_t_faultKind a_t_tape a_t_text a_g_beyond v_g_size a_g_steps a_h_beyond v_h_size a_h_steps a_r_scratch a_r_now v_r_takes v_r_negative v_r_namePlace v_r_faultKind v_r_faultPlace v_a_size v_a_limit v_a_digits v_a_kind v_a_from v_a_to v_o_size a_o_out v_b_size v_b_limit v_b_digits v_b_kind v_b_from v_b_to a_u_atom a_u_other a_u_hand v_u_marksMade v_u_came v_u_guesses v_u_right v_u_taken a_u_vars a_u_marks a_u_outcomes a_u_indexes v_s_things v_s_looked v_s_lookedTooOften v_s_arraysMade v_s_cellsMade a_s_classes a_s_starts a_s_lengths a_s_cells)) hD
        obtain ⟨a_L_29, e_a_L_29⟩ : ∃ g, g = a_L ++ [q29, qa29, qb29] := ⟨_, rfl⟩
        obtain ⟨a_K_29, e_a_K_29⟩ : ∃ g, g = kAdd a_K q29 qa29 qb29 := ⟨_, rfl⟩
        obtain ⟨a_si_29, e_a_si_29⟩ : ∃ g, g = va_up a_si q29 (fun _ => 0) := ⟨_, rfl⟩
        obtain ⟨a_sj_29, e_a_sj_29⟩ : ∃ g, g = va_up a_sj q29 0 := ⟨_, rfl⟩
        obtain ⟨a_iv_29, e_a_iv_29⟩ : ∃ g, g = va_up a_iv q29 qa29 := ⟨_, rfl⟩
        obtain ⟨a_inn_29, e_a_inn_29⟩ : ∃ g, g = va_up a_inn q29 qb29 := ⟨_, rfl⟩
        obtain ⟨a_ac_29, e_a_ac_29⟩ : ∃ g, g = va_up (va_up a_ac qa29 (fun _ => 0)) qb29 (fun _ => 0) := ⟨_, rfl⟩
        have hP : va_P D vwCl (tw cs q v_t_tapeSize v_t_textSize v_t_faultKind a_t_tape a_t_text a_g_beyond v_g_size a_g_steps a_h_beyond v_h_size a_h_steps a_r_scratch a_r_now v_r_takes v_r_negative v_r_namePlace v_r_faultKind v_r_faultPlace v_a_size v_a_limit v_a_digits v_a_kind v_a_from v_a_to v_o_size a_o_out v_b_size v_b_limit v_b_digits v_b_kind v_b_from v_b_to a_u_atom a_u_other a_u_hand v_u_marksMade v_u_came v_u_guesses v_u_right v_u_taken a_u_vars a_u_marks a_u_outcomes a_u_indexes v_s_things v_s_looked v_s_lookedTooOften v_s_arraysMade v_s_cellsMade a_s_classes a_s_starts a_s_lengths a_s_cells a_L_29 a_K_29 a_vc a_vd a_si_29 a_sj_29 a_iv_29 a_inn_29 a_ac_29) H := by rw [e_a_L_29, e_a_K_29, e_a_si_29, e_a_sj_29, e_a_iv_29, e_a_inn_29, e_a_ac_29]; exact vaP_eq (pool_add m1 m2 m3 m4 m5 m6) hP
        have hD : va_D A (tw cs q v_t_tapeSize v_t_textSize v_t_faultKind a_t_tape a_t_text a_g_beyond v_g_size a_g_steps a_h_beyond v_h_size a_h_steps a_r_scratch a_r_now v_r_takes v_r_negative v_r_namePlace v_r_faultKind v_r_faultPlace v_a_size v_a_limit v_a_digits v_a_kind v_a_from v_a_to v_o_size a_o_out v_b_size v_b_limit v_b_digits v_b_kind v_b_from v_b_to a_u_atom a_u_other a_u_hand v_u_marksMade v_u_came v_u_guesses v_u_right v_u_taken a_u_vars a_u_marks a_u_outcomes a_u_indexes v_s_things v_s_looked v_s_lookedTooOften v_s_arraysMade v_s_cellsMade a_s_classes a_s_starts a_s_lengths a_s_cells a_L_29 a_K_29 a_vc a_vd a_si_29 a_sj_29 a_iv_29 a_inn_29 a_ac_29) := by rw [e_a_L_29, e_a_K_29, e_a_si_29, e_a_sj_29, e_a_iv_29, e_a_inn_29, e_a_ac_29]; exact vaD_eq (pool_add m1 m2 m3 m4 m5 m6) hD
        have hPI : PI a_L_29 a_K_29 a_si_29 a_iv_29 a_inn_29 := by rw [e_a_L_29, e_a_K_29, e_a_si_29, e_a_iv_29, e_a_inn_29]; exact PI.add (by assumption) m1 m2 m3 m4 m5 m6
        have hRF : RF a_L_29 a_K_29 a_g_beyond a_h_beyond a_r_scratch a_g_steps a_h_steps a_u_atom a_u_other a_u_hand a_u_vars a_u_marks := by rw [e_a_L_29, e_a_K_29]; exact RF.grow grow_L (grow_K m1 m2 m3) (by assumption)
        have h_q29 : aS a_L_29 a_K_29 q29 := by rw [e_a_L_29, e_a_K_29]; exact aS.new m4 m5
        have gL29 : ∀ x, x ∈ a_L → x ∈ a_L_29 := by rw [e_a_L_29]; exact grow_L
        have gK29 : ∀ x, x ∈ a_L → a_K_29 x = a_K x := by rw [e_a_K_29]; exact grow_K m1 m2 m3
        refine lv_astore_n (lv' := [(2, .ref q29), (0, .ref (q 3)), (1, .int k9)]) hx hb dX3_stepAt_36 rfl hl (by decide) rfl (fun ls hl => ?_)
        refine lv_aload_n hx hb dX3_stepAt_37 rfl (lv_at hl 1 rfl) ?_
        refine va_get (D := D) (ci := 2) (v := .ref (q 4)) (C := RX3) (T := TX3) (N := 3) hx hb hts hinX3 hown hK hP 3 rfl rfl 0 (by decide) k_2_16 (fun _ h9 => h9) rfl dX3_stepAt_38 ?_
        refine lv_iload_n hx hb dX3_stepAt_41 rfl (lv_at hl 2 rfl) ?_
        refine lv_aload_n hx hb dX3_stepAt_42 rfl (lv_at hl 0 rfl) ?_
        obtain ⟨k43_, hk43_⟩ := pl_S (X := (twX cs q v_t_tapeSize v_t_textSize v_t_faultKind a_t_tape a_t_text a_g_beyond v_g_size a_g_steps a_h_beyond v_h_size a_h_steps a_r_scratch a_r_now v_r_takes v_r_negative v_r_namePlace v_r_faultKind v_r_faultPlace v_a_size v_a_limit v_a_digits v_a_kind v_a_from v_a_to v_o_size a_o_out v_b_size v_b_limit v_b_digits v_b_kind v_b_from v_b_to a_u_atom a_u_other a_u_hand v_u_marksMade v_u_came v_u_guesses v_u_right v_u_taken a_u_vars a_u_marks a_u_outcomes a_u_indexes v_s_things v_s_looked v_s_lookedTooOften v_s_arraysMade v_s_cellsMade a_s_classes a_s_starts a_s_lengths a_s_cells)) (cI := cs 0) (vc := a_vc) (vd := a_vd) (si := a_si_29) (sj := a_sj_29) (iv := a_iv_29) (inn := a_inn_29) (ac := a_ac_29) h_q29
        refine va_astq hx hb hK hP hD hS 4 4 k43_ 5 rfl rfl hk43_ rfl (ix (by omega) (by omega)) dX3_stepAt_43 (fun H locs hP hD hS => ?_)
        obtain ⟨a_g_steps_43, e_a_g_steps_43⟩ : ∃ g, g = va_up a_g_steps k9.toNatClampNeg (some q29) := ⟨_, rfl⟩
        have hP : va_P D vwCl (tw cs q v_t_tapeSize v_t_textSize v_t_faultKind a_t_tape a_t_text a_g_beyond v_g_size a_g_steps_43 a_h_beyond v_h_size a_h_steps a_r_scratch a_r_now v_r_takes v_r_negative v_r_namePlace v_r_faultKind v_r_faultPlace v_a_size v_a_limit v_a_digits v_a_kind v_a_from v_a_to v_o_size a_o_out v_b_size v_b_limit v_b_digits v_b_kind v_b_from v_b_to a_u_atom a_u_other a_u_hand v_u_marksMade v_u_came v_u_guesses v_u_right v_u_taken a_u_vars a_u_marks a_u_outcomes a_u_indexes v_s_things v_s_looked v_s_lookedTooOften v_s_arraysMade v_s_cellsMade a_s_classes a_s_starts a_s_lengths a_s_cells a_L_29 a_K_29 a_vc a_vd a_si_29 a_sj_29 a_iv_29 a_inn_29 a_ac_29) H := by rw [e_a_g_steps_43]; exact hP
        have hD : va_D A (tw cs q v_t_tapeSize v_t_textSize v_t_faultKind a_t_tape a_t_text a_g_beyond v_g_size a_g_steps_43 a_h_beyond v_h_size a_h_steps a_r_scratch a_r_now v_r_takes v_r_negative v_r_namePlace v_r_faultKind v_r_faultPlace v_a_size v_a_limit v_a_digits v_a_kind v_a_from v_a_to v_o_size a_o_out v_b_size v_b_limit v_b_digits v_b_kind v_b_from v_b_to a_u_atom a_u_other a_u_hand v_u_marksMade v_u_came v_u_guesses v_u_right v_u_taken a_u_vars a_u_marks a_u_outcomes a_u_indexes v_s_things v_s_looked v_s_lookedTooOften v_s_arraysMade v_s_cellsMade a_s_classes a_s_starts a_s_lengths a_s_cells a_L_29 a_K_29 a_vc a_vd a_si_29 a_sj_29 a_iv_29 a_inn_29 a_ac_29) := by rw [e_a_g_steps_43]; exact hD
        have hRF : RF a_L_29 a_K_29 a_g_beyond a_h_beyond a_r_scratch a_g_steps_43 a_h_steps a_u_atom a_u_other a_u_hand a_u_vars a_u_marks := RF.setG (by assumption) h_q29 e_a_g_steps_43
        refine lv_aload_n hx hb dX3_stepAt_44 rfl (lv_at hl 0 rfl) ?_
        refine W.widen (k := 3) (n := 21) (by omega) (by omega) ?_
        subst hAe
        rw [hQ]
        exact W.aret (v := .ref q29) hx hb hr (Or.inl ⟨_, rfl⟩) (Or.inr ⟨_, rfl⟩) (fun t ht hW => ⟨⟨_, _, rfl, trivial, ⟨⟨a_g_steps_43, a_L_29, a_K_29, a_si_29, a_sj_29, a_iv_29, a_inn_29, a_ac_29, rfl, by first | assumption | omega | (intros; omega) | decide, by first | assumption | omega | (intros; omega) | decide, by first | assumption | omega | (intros; omega) | decide, by first | exact fun _ h => h | assumption, by first | exact fun _ _ => rfl | assumption⟩, by rw [ht]; exact hP, va_K.moved hW.alike hK, hD⟩⟩, hS.F ht⟩) hS.2.2 dX3_stepAt_45
      · skip
        refine m_aldq hx hb hK hP 4 4 rfl rfl (ix (by omega) (by omega)) e_x23 dX3_stepAt_23 ?_
        refine lv_astore_n (lv' := [(2, .ref x23), (0, .ref (q 3)), (1, .int k9)]) hx hb dX3_stepAt_24 rfl hl (by decide) rfl (fun ls hl => ?_)
        refine lv_aload_n hx hb dX3_stepAt_25 rfl (lv_at hl 0 rfl) ?_
        refine lv_ifnonnull (tgt := 44) hx hb dX3_stepAt_26 (by decide) ?_
        refine lv_aload_n hx hb dX3_stepAt_44 rfl (lv_at hl 0 rfl) ?_
        refine W.widen (k := 3) (n := 21) (by omega) (by omega) ?_
        subst hAe
        rw [hQ]
        exact W.aret (v := .ref x23) hx hb hr (Or.inl ⟨_, rfl⟩) (Or.inr ⟨_, rfl⟩) (fun t ht hW => ⟨⟨_, _, rfl, trivial, ⟨⟨a_g_steps, a_L, a_K, a_si, a_sj, a_iv, a_inn, a_ac, rfl, by first | assumption | omega | (intros; omega) | decide, by first | assumption | omega | (intros; omega) | decide, by first | assumption | omega | (intros; omega) | decide, by first | exact fun _ h => h | assumption, by first | exact fun _ _ => rfl | assumption⟩, by rw [ht]; exact hP, va_K.moved hW.alike hK, hD⟩⟩, hS.F ht⟩) hS.2.2 dX3_stepAt_45
    · skip
      refine lv_aload_n hx hb dX3_stepAt_13 rfl (lv_at hl 0 rfl) ?_
      have hf14 : aS a_L a_K a_g_beyond := by first | assumption | exact RF.z_gB (by assumption)
      refine va_get (D := D) (ci := 2) (v := .ref a_g_beyond) (C := RX3) (T := TX3) (N := 3) hx hb hts hinX3 hown hK hP 3 rfl rfl 1 (by decide) k_2_19 (fun _ h9 => h9) rfl dX3_stepAt_14 ?_
      refine W.widen (k := 3) (n := 21) (by omega) (by omega) ?_
      subst hAe
      rw [hQ]
      exact W.aret (v := .ref a_g_beyond) hx hb hr (Or.inl ⟨_, rfl⟩) (Or.inr ⟨_, rfl⟩) (fun t ht hW => ⟨⟨_, _, rfl, trivial, ⟨⟨a_g_steps, a_L, a_K, a_si, a_sj, a_iv, a_inn, a_ac, rfl, by first | assumption | omega | (intros; omega) | decide, by first | assumption | omega | (intros; omega) | decide, by first | assumption | omega | (intros; omega) | decide, by first | exact fun _ h => h | assumption, by first | exact fun _ _ => rfl | assumption⟩, by rw [ht]; exact hP, va_K.moved hW.alike hK, hD⟩⟩, hS.F ht⟩) hS.2.2 dX3_stepAt_17

def rmX3_stepAt_qh : Room := { frames := 60, cells := 3, slots := 21, locals := 1200 }
set_option maxHeartbeats 4000000 in
set_option maxRecDepth 100000 in
theorem tX3_stepAt_qh {l : Launch} {D : va_G} {K : Nat → Nat → Nat} {cs : Nat → ClassId} {q : Nat → Nat} {v_t_tapeSize v_t_textSize v_t_faultKind v_g_size v_h_size v_r_takes v_r_negative v_r_namePlace v_r_faultKind v_r_faultPlace v_a_size v_a_limit v_a_digits v_a_kind v_a_from v_a_to v_o_size v_b_size v_b_limit v_b_digits v_b_kind v_b_from v_b_to v_u_marksMade v_u_came v_u_guesses v_u_right v_u_taken v_s_things v_s_looked v_s_lookedTooOften v_s_arraysMade v_s_cellsMade : Int32} {a_t_tape a_t_text a_o_out a_u_outcomes a_u_indexes a_s_classes a_s_starts a_s_lengths a_vc : Nat → Int32} {a_g_beyond a_h_beyond a_r_scratch a_r_now a_u_atom a_u_other a_u_hand : Nat} {a_g_steps a_h_steps a_u_vars a_u_marks : Nat → Option Nat} {a_s_cells a_vd a_sj : Nat → Int64} {a_L : List Nat} {a_K a_iv a_inn : Nat → Nat} {a_si a_ac : Nat → Nat → Int32} (k9 : Int32) (p_0 : RF a_L a_K a_g_beyond a_h_beyond a_r_scratch a_g_steps a_h_steps a_u_atom a_u_other a_u_hand a_u_vars a_u_marks) (p_1 : PI a_L a_K a_si a_iv a_inn) : CtR l yX3_stepAt (wG yX3_stepAt cX3_stepAt 3 (some (.object "ArrayTrainer$Step"))) rmX3_stepAt_qh D (twT cs) K [.ref (q 5), .int k9] (tw cs q v_t_tapeSize v_t_textSize v_t_faultKind a_t_tape a_t_text a_g_beyond v_g_size a_g_steps a_h_beyond v_h_size a_h_steps a_r_scratch a_r_now v_r_takes v_r_negative v_r_namePlace v_r_faultKind v_r_faultPlace v_a_size v_a_limit v_a_digits v_a_kind v_a_from v_a_to v_o_size a_o_out v_b_size v_b_limit v_b_digits v_b_kind v_b_from v_b_to a_u_atom a_u_other a_u_hand v_u_marksMade v_u_came v_u_guesses v_u_right v_u_taken a_u_vars a_u_marks a_u_outcomes a_u_indexes v_s_things v_s_looked v_s_lookedTooOften v_s_arraysMade v_s_cellsMade a_s_classes a_s_starts a_s_lengths a_s_cells a_L a_K a_vc a_vd a_si a_sj a_iv a_inn a_ac) (fun r w1 => ∃ (a_h_steps' : Nat → Option Nat) (a_L' : List Nat) (a_K' : Nat → Nat) (a_si' : Nat → Nat → Int32) (a_sj' : Nat → Int64) (a_iv' : Nat → Nat) (a_inn' : Nat → Nat) (a_ac' : Nat → Nat → Int32), w1 = (tw cs q v_t_tapeSize v_t_textSize v_t_faultKind a_t_tape a_t_text a_g_beyond v_g_size a_g_steps a_h_beyond v_h_size a_h_steps' a_r_scratch a_r_now v_r_takes v_r_negative v_r_namePlace v_r_faultKind v_r_faultPlace v_a_size v_a_limit v_a_digits v_a_kind v_a_from v_a_to v_o_size a_o_out v_b_size v_b_limit v_b_digits v_b_kind v_b_from v_b_to a_u_atom a_u_other a_u_hand v_u_marksMade v_u_came v_u_guesses v_u_right v_u_taken a_u_vars a_u_marks a_u_outcomes a_u_indexes v_s_things v_s_looked v_s_lookedTooOften v_s_arraysMade v_s_cellsMade a_s_classes a_s_starts a_s_lengths a_s_cells a_L' a_K' a_vc a_vd a_si' a_sj' a_iv' a_inn' a_ac') ∧ (aS a_L' a_K' r) ∧ (RF a_L' a_K' a_g_beyond a_h_beyond a_r_scratch a_g_steps a_h_steps' a_u_atom a_u_other a_u_hand a_u_vars a_u_marks) ∧ (PI a_L' a_K' a_si' a_iv' a_inn') ∧ (∀ x, x ∈ a_L → x ∈ a_L') ∧ (∀ x, x ∈ a_L → a_K' x = a_K x)) 3 21 := by
  intro sz
  refine Met.ofW (cc := cX3_stepAt) (maxL := 3) (ret := (some (.object "ArrayTrainer$Step"))) (by decide) rfl ?_
  intro p e s m args below meth c s₁ B hml hv
  obtain ⟨rfl, hsz, hP, hK, hD0, hE⟩ := hv
  have hx := B.exec
  have hb := B.bytes
  have hr := B.returns
  have hts := atoms_spec (ws := (wG yX3_stepAt cX3_stepAt 3 (some (.object "ArrayTrainer$Step")))) B.pre
  have hown : s.vm.findClass RX3 = some m.cls := findClass_of_methodNamed B.named
  have hlocks := B.notSynchronized
  subst hsz
  have hD := hD0.self (sz := s.heap.size)
  obtain ⟨A, hAe⟩ : ∃ A : Nat → Prop, A = va_A (tw cs q v_t_tapeSize v_t_textSize v_t_faultKind a_t_tape a_t_text a_g_beyond v_g_size a_g_steps a_h_beyond v_h_size a_h_steps a_r_scratch a_r_now v_r_takes v_r_negative v_r_namePlace v_r_faultKind v_r_faultPlace v_a_size v_a_limit v_a_digits v_a_kind v_a_from v_a_to v_o_size a_o_out v_b_size v_b_limit v_b_digits v_b_kind v_b_from v_b_to a_u_atom a_u_other a_u_hand v_u_marksMade v_u_came v_u_guesses v_u_right v_u_taken a_u_vars a_u_marks a_u_outcomes a_u_indexes v_s_things v_s_looked v_s_lookedTooOften v_s_arraysMade v_s_cellsMade a_s_classes a_s_starts a_s_lengths a_s_cells a_L a_K a_vc a_vd a_si a_sj a_iv a_inn a_ac) s.heap.size := ⟨_, rfl⟩
  rw [← hAe] at hD hE
  have hA : ∀ q : Nat, s.heap.size ≤ q → A q := fun q h => by rw [hAe]; exact Or.inr h
  have hS : va_S A s.heap s.heap [] := va_S.rf
  have hl := lv_entry ([.ref (q 5), .int k9]) (n := 3) (Nat.le_of_ble_eq_true rfl)
  rw [lg_entry_eq]
  generalize (lg_sl ([.ref (q 5), .int k9]) ++ List.replicate (3 - (lg_sl ([.ref (q 5), .int k9])).length) Slot.unset).toArray = ls at hl ⊢
  have hl : lv_has ls 3 [(0, .ref (q 5)), (1, .int k9)] := hl
  refine wq (fun Q hQ => ?_)
  have hinX3 : ∀ w ∈ wsX30, w ∈ (wG yX3_stepAt cX3_stepAt 3 (some (.object "ArrayTrainer$Step"))) := fun w h => List.mem_cons_of_mem _ (inlX3 w h)
  have hinX6 : ∀ w ∈ wsX60, w ∈ (wG yX3_stepAt cX3_stepAt 3 (some (.object "ArrayTrainer$Step"))) := fun w h => List.mem_cons_of_mem _ (inlX6 w h)
  have k_2_19 := hts (.fieldLink RX3 18 "ArrayTrainer$Program" "beyond" "LArrayTrainer$Step;") (List.mem_cons_of_mem _ (wr2 _ (List.mem_of_getElem? (i := 19) rfl)))
  have k_2_16 := hts (.fieldLink RX3 11 "ArrayTrainer$Program" "steps" "[LArrayTrainer$Step;") (List.mem_cons_of_mem _ (wr2 _ (List.mem_of_getElem? (i := 16) rfl)))
  have k_2_15 := hts (.classLink RX3 9 RX6) (List.mem_cons_of_mem _ (wr2 _ (List.mem_of_getElem? (i := 15) rfl)))
  have k_2_17 := hts (.instantiable RX6 15) (List.mem_cons_of_mem _ (wr2 _ (List.mem_of_getElem? (i := 17) rfl)))
  have k_2_18 := hts (.initialized RX6) (List.mem_cons_of_mem _ (wr2 _ (List.mem_of_getElem? (i := 18) rfl)))
  have k_2_20 := hts (.instanceMethod yX6_init) (List.mem_cons_of_mem _ (wr2 _ (List.mem_of_getElem? (i := 20) rfl)))
  obtain ⟨H, hH⟩ : ∃ H : Heap, H = s.heap := ⟨_, rfl⟩
  obtain ⟨locs, hlc⟩ : ∃ L : List Loc, L = [] := ⟨_, rfl⟩
  have hP : va_P D vwCl (tw cs q v_t_tapeSize v_t_textSize v_t_faultKind a_t_tape a_t_text a_g_beyond v_g_size a_g_steps a_h_beyond v_h_size a_h_steps a_r_scratch a_r_now v_r_takes v_r_negative v_r_namePlace v_r_faultKind v_r_faultPlace v_a_size v_a_limit v_a_digits v_a_kind v_a_from v_a_to v_o_size a_o_out v_b_size v_b_limit v_b_digits v_b_kind v_b_from v_b_to a_u_atom a_u_other a_u_hand v_u_marksMade v_u_came v_u_guesses v_u_right v_u_taken a_u_vars a_u_marks a_u_outcomes a_u_indexes v_s_things v_s_looked v_s_lookedTooOften v_s_arraysMade v_s_cellsMade a_s_classes a_s_starts a_s_lengths a_s_cells a_L a_K a_vc a_vd a_si a_sj a_iv a_inn a_ac) H := by rw [hH]; exact hP
  have hS : va_S A s.heap H locs := by rw [hH, hlc]; exact hS
  refine wHL hH hlc ?_
  have b_k9 := iB k9
  refine lv_iload_n hx hb dX3_stepAt_0 rfl (lv_at hl 1 rfl) ?_
  refine m_if_lt (X := k9.toInt) (tgt := 13) hx hb dX3_stepAt_1 (by decide) rfl (fun c1 => ?_) (fun c1 => ?_)
  · skip
    refine lv_aload_n hx hb dX3_stepAt_13 rfl (lv_at hl 0 rfl) ?_
    have hf14 : aS a_L a_K a_h_beyond := by first | assumption | exact RF.z_hB (by assumption)
    refine va_get (D := D) (ci := 2) (v := .ref a_h_beyond) (C := RX3) (T := TX3) (N := 3) hx hb hts hinX3 hown hK hP 5 rfl rfl 1 (by decide) k_2_19 (fun _ h9 => h9) rfl dX3_stepAt_14 ?_
    refine W.widen (k := 3) (n := 21) (by omega) (by omega) ?_
    subst hAe
    rw [hQ]
    exact W.aret (v := .ref a_h_beyond) hx hb hr (Or.inl ⟨_, rfl⟩) (Or.inr ⟨_, rfl⟩) (fun t ht hW => ⟨⟨_, _, rfl, trivial, ⟨⟨a_h_steps, a_L, a_K, a_si, a_sj, a_iv, a_inn, a_ac, rfl, by first | assumption | omega | (intros; omega) | decide, by first | assumption | omega | (intros; omega) | decide, by first | assumption | omega | (intros; omega) | decide, by first | exact fun _ h => h | assumption, by first | exact fun _ _ => rfl | assumption⟩, by rw [ht]; exact hP, va_K.moved hW.alike hK, hD⟩⟩, hS.F ht⟩) hS.2.2 dX3_stepAt_17
  · skip
    refine lv_iload_n hx hb dX3_stepAt_4 rfl (lv_at hl 1 rfl) ?_
    refine lv_aload_n hx hb dX3_stepAt_5 rfl (lv_at hl 0 rfl) ?_
    refine va_get (D := D) (ci := 2) (v := .ref (q 6)) (C := RX3) (T := TX3) (N := 3) hx hb hts hinX3 hown hK hP 5 rfl rfl 0 (by decide) k_2_16 (fun _ h9 => h9) rfl dX3_stepAt_6 ?_
    refine m_alen hx hb hK hP 6 4 rfl rfl (show 100 < 2147483648 by decide) dX3_stepAt_9 (fun x9 g_x9 => ?_)
    have g_x9 : x9.toInt = 100 := g_x9
    refine m_icmp_lt (X := k9.toInt) (Y := x9.toInt) (tgt := 18) hx hb dX3_stepAt_10 (by decide) rfl rfl (fun c10 => ?_) (fun c10 => ?_)
    · skip
      refine lv_aload_n hx hb dX3_stepAt_18 rfl (lv_at hl 0 rfl) ?_
      refine va_get (D := D) (ci := 2) (v := .ref (q 6)) (C := RX3) (T := TX3) (N := 3) hx hb hts hinX3 hown hK hP 5 rfl rfl 0 (by decide) k_2_16 (fun _ h9 => h9) rfl dX3_stepAt_19 ?_
      refine lv_iload_n hx hb dX3_stepAt_22 rfl (lv_at hl 1 rfl) ?_
      rcases RF.z_hS (by assumption) k9.toNatClampNeg (by have t9 := tn (i := k9) (by omega); omega) with e_x23 | ⟨x23, e_x23, h_x23⟩
      · skip
        refine m_aldn hx hb hK hP 6 4 rfl rfl (ix (by omega) (by omega)) e_x23 dX3_stepAt_23 ?_
        refine lv_astore_nN (lv' := [(2, .null), (0, .ref (q 5)), (1, .int k9)]) hx hb dX3_stepAt_24 rfl hl (by decide) rfl (fun ls hl => ?_)
        refine lv_aload_nN hx hb dX3_stepAt_25 rfl (lv_at hl 0 rfl) ?_
        refine lv_ifnonnullN hx hb dX3_stepAt_26 ?_
        refine va_new (ci := 5) (fs := [.int 0, .int 0, .int 0, .int 0, .int 0, .int 0, .int 0, .int 0, .int 0, .int 0, .null, .null, .int 0, .int 0, .long 0]) (C := RX6) (T := TX6) (N := 15) hx hb hts hinX6 tyX6 tyX6_ok hown k_2_15 k_2_17 k_2_18 hK hP hD hS hA rfl (by decide +kernel) (Nat.le_of_ble_eq_true rfl) (Nat.le_of_ble_eq_true rfl) dX3_stepAt_29 (fun q29 H hP hD hS => ?_)
        refine lv_dup hx hb dX3_stepAt_32 rfl ?_
        refine call_vIN (As := []) (rest := [.ref q29]) (wr := (tw cs q v_t_tapeSize v_t_textSize v_t_faultKind a_t_tape a_t_text a_g_beyond v_g_size a_g_steps a_h_beyond v_h_size a_h_steps a_r_scratch a_r_now v_r_takes v_r_negative v_r_namePlace v_r_faultKind v_r_faultPlace v_a_size v_a_limit v_a_digits v_a_kind v_a_from v_a_to v_o_size a_o_out v_b_size v_b_limit v_b_digits v_b_kind v_b_from v_b_to a_u_atom a_u_other a_u_hand v_u_marksMade v_u_came v_u_guesses v_u_right v_u_taken a_u_vars a_u_marks a_u_outcomes a_u_indexes v_s_things v_s_looked v_s_lookedTooOften v_s_arraysMade v_s_cellsMade a_s_classes a_s_starts a_s_lengths a_s_cells a_L a_K a_vc a_vd a_si a_sj a_iv a_inn a_ac)) (wc := [(q29, .inr (5, [.int 0, .int 0, .int 0, .int 0, .int 0, .int 0, .int 0, .int 0, .int 0, .int 0, .null, .null, .int 0, .int 0, .long 0]))]) ⟨hx, hb, hml, hown, hts⟩ (tX6_init (l := l) q29) ⟨va_cnB 0 hts (gI (wr2 _ (List.mem_of_getElem? (i := 21) rfl))) rfl rfl rfl hE.2.2.2.2.2.2.2.1 k_2_18 (by decide +kernel) ⟨(Nat.le_of_ble_eq_true rfl), (Nat.le_of_ble_eq_true rfl)⟩, rfl, k_2_20⟩ hK hP hD hE hS hA rfl hl.1 rfl (Nat.le_of_ble_eq_true rfl) dX3_stepAt_33 ⟨(Nat.le_of_ble_eq_true rfl), (Nat.le_of_ble_eq_true rfl)⟩ (fun w9 H locs hw29 hP hD hS => ?_)
        obtain ⟨qa29, qb29, rfl⟩ := hw29
        obtain ⟨m1, m2, m3, m4, m5, m6⟩ := fresh3 (X := (twX cs q v_t_tapeSize v_t_textSize v_t_faultKind a_t_tape a_t_text a_g_beyond v_g_size a_g_steps a_h_beyond v_h_size a_h_steps a_r_scratch a_r_now v_r_takes v_r_negative v_r_namePlace v_r_faultKind v_r_faultPlace v_a_size v_a_limit v_a_digits v_a_kind v_a_from v_a_to v_o_size a_o_out v_b_size v_b_limit v_b_digits v_b_kind v_b_from v_b_to a_u_atom a_u_other a_u_hand v_u_marksMade v_u_came v_u_guesses v_u_right v_u_taken a_u_vars a_u_marks a_u_outcomes a_u_indexes v_s_things v_s_looked v_s_lookedTooOften v_s_arraysMade v_s_cellsMade a_s_classes a_s_starts a_s_lengths a_s_cells)) hD
        obtain ⟨a_L_29, e_a_L_29⟩ : ∃ g, g = a_L ++ [q29, qa29, qb29] := ⟨_, rfl⟩
        obtain ⟨a_K_29, e_a_K_29⟩ : ∃ g, g = kAdd a_K q29 qa29 qb29 := ⟨_, rfl⟩
        obtain ⟨a_si_29, e_a_si_29⟩ : ∃ g, g = va_up a_si q29 (fun _ => 0) := ⟨_, rfl⟩
        obtain ⟨a_sj_29, e_a_sj_29⟩ : ∃ g, g = va_up a_sj q29 0 := ⟨_, rfl⟩
        obtain ⟨a_iv_29, e_a_iv_29⟩ : ∃ g, g = va_up a_iv q29 qa29 := ⟨_, rfl⟩
        obtain ⟨a_inn_29, e_a_inn_29⟩ : ∃ g, g = va_up a_inn q29 qb29 := ⟨_, rfl⟩
        obtain ⟨a_ac_29, e_a_ac_29⟩ : ∃ g, g = va_up (va_up a_ac qa29 (fun _ => 0)) qb29 (fun _ => 0) := ⟨_, rfl⟩
        have hP : va_P D vwCl (tw cs q v_t_tapeSize v_t_textSize v_t_faultKind a_t_tape a_t_text a_g_beyond v_g_size a_g_steps a_h_beyond v_h_size a_h_steps a_r_scratch a_r_now v_r_takes v_r_negative v_r_namePlace v_r_faultKind v_r_faultPlace v_a_size v_a_limit v_a_digits v_a_kind v_a_from v_a_to v_o_size a_o_out v_b_size v_b_limit v_b_digits v_b_kind v_b_from v_b_to a_u_atom a_u_other a_u_hand v_u_marksMade v_u_came v_u_guesses v_u_right v_u_taken a_u_vars a_u_marks a_u_outcomes a_u_indexes v_s_things v_s_looked v_s_lookedTooOften v_s_arraysMade v_s_cellsMade a_s_classes a_s_starts a_s_lengths a_s_cells a_L_29 a_K_29 a_vc a_vd a_si_29 a_sj_29 a_iv_29 a_inn_29 a_ac_29) H := by rw [e_a_L_29, e_a_K_29, e_a_si_29, e_a_sj_29, e_a_iv_29, e_a_inn_29, e_a_ac_29]; exact vaP_eq (pool_add m1 m2 m3 m4 m5 m6) hP
        have hD : va_D A (tw cs q v_t_tapeSize v_t_textSize v_t_faultKind a_t_tape a_t_text a_g_beyond v_g_size a_g_steps a_h_beyond v_h_size a_h_steps a_r_scratch a_r_now v_r_takes v_r_negative v_r_namePlace v_r_faultKind v_r_faultPlace v_a_size v_a_limit v_a_digits v_a_kind v_a_from v_a_to v_o_size a_o_out v_b_size v_b_limit v_b_digits v_b_kind v_b_from v_b_to a_u_atom a_u_other a_u_hand v_u_marksMade v_u_came v_u_guesses v_u_right v_u_taken a_u_vars a_u_marks a_u_outcomes a_u_indexes v_s_things v_s_looked v_s_lookedTooOften v_s_arraysMade v_s_cellsMade a_s_classes a_s_starts a_s_lengths a_s_cells a_L_29 a_K_29 a_vc a_vd a_si_29 a_sj_29 a_iv_29 a_inn_29 a_ac_29) := by rw [e_a_L_29, e_a_K_29, e_a_si_29, e_a_sj_29, e_a_iv_29, e_a_inn_29, e_a_ac_29]; exact vaD_eq (pool_add m1 m2 m3 m4 m5 m6) hD
        have hPI : PI a_L_29 a_K_29 a_si_29 a_iv_29 a_inn_29 := by rw [e_a_L_29, e_a_K_29, e_a_si_29, e_a_iv_29, e_a_inn_29]; exact PI.add (by assumption) m1 m2 m3 m4 m5 m6
        have hRF : RF a_L_29 a_K_29 a_g_beyond a_h_beyond a_r_scratch a_g_steps a_h_steps a_u_atom a_u_other a_u_hand a_u_vars a_u_marks := by rw [e_a_L_29, e_a_K_29]; exact RF.grow grow_L (grow_K m1 m2 m3) (by assumption)
        have h_q29 : aS a_L_29 a_K_29 q29 := by rw [e_a_L_29, e_a_K_29]; exact aS.new m4 m5
        have gL29 : ∀ x, x ∈ a_L → x ∈ a_L_29 := by rw [e_a_L_29]; exact grow_L
        have gK29 : ∀ x, x ∈ a_L → a_K_29 x = a_K x := by rw [e_a_K_29]; exact grow_K m1 m2 m3
        refine lv_astore_n (lv' := [(2, .ref q29), (0, .ref (q 5)), (1, .int k9)]) hx hb dX3_stepAt_36 rfl hl (by decide) rfl (fun ls hl => ?_)
        refine lv_aload_n hx hb dX3_stepAt_37 rfl (lv_at hl 1 rfl) ?_
        refine va_get (D := D) (ci := 2) (v := .ref (q 6)) (C := RX3) (T := TX3) (N := 3) hx hb hts hinX3 hown hK hP 5 rfl rfl 0 (by decide) k_2_16 (fun _ h9 => h9) rfl dX3_stepAt_38 ?_
        refine lv_iload_n hx hb dX3_stepAt_41 rfl (lv_at hl 2 rfl) ?_
        refine lv_aload_n hx hb dX3_stepAt_42 rfl (lv_at hl 0 rfl) ?_
        obtain ⟨k43_, hk43_⟩ := pl_S (X := (twX cs q v_t_tapeSize v_t_textSize v_t_faultKind a_t_tape a_t_text a_g_beyond v_g_size a_g_steps a_h_beyond v_h_size a_h_steps a_r_scratch a_r_now v_r_takes v_r_negative v_r_namePlace v_r_faultKind v_r_faultPlace v_a_size v_a_limit v_a_digits v_a_kind v_a_from v_a_to v_o_size a_o_out v_b_size v_b_limit v_b_digits v_b_kind v_b_from v_b_to a_u_atom a_u_other a_u_hand v_u_marksMade v_u_came v_u_guesses v_u_right v_u_taken a_u_vars a_u_marks a_u_outcomes a_u_indexes v_s_things v_s_looked v_s_lookedTooOften v_s_arraysMade v_s_cellsMade a_s_classes a_s_starts a_s_lengths a_s_cells)) (cI := cs 0) (vc := a_vc) (vd := a_vd) (si := a_si_29) (sj := a_sj_29) (iv := a_iv_29) (inn := a_inn_29) (ac := a_ac_29) h_q29
        refine va_astq hx hb hK hP hD hS 6 4 k43_ 5 rfl rfl hk43_ rfl (ix (by omega) (by omega)) dX3_stepAt_43 (fun H locs hP hD hS => ?_)
        obtain ⟨a_h_steps_43, e_a_h_steps_43⟩ : ∃ g, g = va_up a_h_steps k9.toNatClampNeg (some q29) := ⟨_, rfl⟩
        have hP : va_P D vwCl (tw cs q v_t_tapeSize v_t_textSize v_t_faultKind a_t_tape a_t_text a_g_beyond v_g_size a_g_steps a_h_beyond v_h_size a_h_steps_43 a_r_scratch a_r_now v_r_takes v_r_negative v_r_namePlace v_r_faultKind v_r_faultPlace v_a_size v_a_limit v_a_digits v_a_kind v_a_from v_a_to v_o_size a_o_out v_b_size v_b_limit v_b_digits v_b_kind v_b_from v_b_to a_u_atom a_u_other a_u_hand v_u_marksMade v_u_came v_u_guesses v_u_right v_u_taken a_u_vars a_u_marks a_u_outcomes a_u_indexes v_s_things v_s_looked v_s_lookedTooOften v_s_arraysMade v_s_cellsMade a_s_classes a_s_starts a_s_lengths a_s_cells a_L_29 a_K_29 a_vc a_vd a_si_29 a_sj_29 a_iv_29 a_inn_29 a_ac_29) H := by rw [e_a_h_steps_43]; exact hP
        have hD : va_D A (tw cs q v_t_tapeSize v_t_textSize v_t_faultKind a_t_tape a_t_text a_g_beyond v_g_size a_g_steps a_h_beyond v_h_size a_h_steps_43 a_r_scratch a_r_now v_r_takes v_r_negative v_r_namePlace v_r_faultKind v_r_faultPlace v_a_size v_a_limit v_a_digits v_a_kind v_a_from v_a_to v_o_size a_o_out v_b_size v_b_limit v_b_digits v_b_kind v_b_from v_b_to a_u_atom a_u_other a_u_hand v_u_marksMade v_u_came v_u_guesses v_u_right v_u_taken a_u_vars a_u_marks a_u_outcomes a_u_indexes v_s_things v_s_looked v_s_lookedTooOften v_s_arraysMade v_s_cellsMade a_s_classes a_s_starts a_s_lengths a_s_cells a_L_29 a_K_29 a_vc a_vd a_si_29 a_sj_29 a_iv_29 a_inn_29 a_ac_29) := by rw [e_a_h_steps_43]; exact hD
        have hRF : RF a_L_29 a_K_29 a_g_beyond a_h_beyond a_r_scratch a_g_steps a_h_steps_43 a_u_atom a_u_other a_u_hand a_u_vars a_u_marks := RF.setH (by assumption) h_q29 e_a_h_steps_43
        refine lv_aload_n hx hb dX3_stepAt_44 rfl (lv_at hl 0 rfl) ?_
        refine W.widen (k := 3) (n := 21) (by omega) (by omega) ?_
        subst hAe
        rw [hQ]
        exact W.aret (v := .ref q29) hx hb hr (Or.inl ⟨_, rfl⟩) (Or.inr ⟨_, rfl⟩) (fun t ht hW => ⟨⟨_, _, rfl, trivial, ⟨⟨a_h_steps_43, a_L_29, a_K_29, a_si_29, a_sj_29, a_iv_29, a_inn_29, a_ac_29, rfl, by first | assumption | omega | (intros; omega) | decide, by first | assumption | omega | (intros; omega) | decide, by first | assumption | omega | (intros; omega) | decide, by first | exact fun _ h => h | assumption, by first | exact fun _ _ => rfl | assumption⟩, by rw [ht]; exact hP, va_K.moved hW.alike hK, hD⟩⟩, hS.F ht⟩) hS.2.2 dX3_stepAt_45
      · skip
        refine m_aldq hx hb hK hP 6 4 rfl rfl (ix (by omega) (by omega)) e_x23 dX3_stepAt_23 ?_
        refine lv_astore_n (lv' := [(2, .ref x23), (0, .ref (q 5)), (1, .int k9)]) hx hb dX3_stepAt_24 rfl hl (by decide) rfl (fun ls hl => ?_)
        refine lv_aload_n hx hb dX3_stepAt_25 rfl (lv_at hl 0 rfl) ?_
        refine lv_ifnonnull (tgt := 44) hx hb dX3_stepAt_26 (by decide) ?_
        refine lv_aload_n hx hb dX3_stepAt_44 rfl (lv_at hl 0 rfl) ?_
        refine W.widen (k := 3) (n := 21) (by omega) (by omega) ?_
        subst hAe
        rw [hQ]
        exact W.aret (v := .ref x23) hx hb hr (Or.inl ⟨_, rfl⟩) (Or.inr ⟨_, rfl⟩) (fun t ht hW => ⟨⟨_, _, rfl, trivial, ⟨⟨a_h_steps, a_L, a_K, a_si, a_sj, a_iv, a_inn, a_ac, rfl, by first | assumption | omega | (intros; omega) | decide, by first | assumption | omega | (intros; omega) | decide, by first | assumption | omega | (intros; omega) | decide, by first | exact fun _ h => h | assumption, by first | exact fun _ _ => rfl | assumption⟩, by rw [ht]; exact hP, va_K.moved hW.alike hK, hD⟩⟩, hS.F ht⟩) hS.2.2 dX3_stepAt_45
    · skip
      refine lv_aload_n hx hb dX3_stepAt_13 rfl (lv_at hl 0 rfl) ?_
      have hf14 : aS a_L a_K a_h_beyond := by first | assumption | exact RF.z_hB (by assumption)
      refine va_get (D := D) (ci := 2) (v := .ref a_h_beyond) (C := RX3) (T := TX3) (N := 3) hx hb hts hinX3 hown hK hP 5 rfl rfl 1 (by decide) k_2_19 (fun _ h9 => h9) rfl dX3_stepAt_14 ?_
      refine W.widen (k := 3) (n := 21) (by omega) (by omega) ?_
      subst hAe
      rw [hQ]
      exact W.aret (v := .ref a_h_beyond) hx hb hr (Or.inl ⟨_, rfl⟩) (Or.inr ⟨_, rfl⟩) (fun t ht hW => ⟨⟨_, _, rfl, trivial, ⟨⟨a_h_steps, a_L, a_K, a_si, a_sj, a_iv, a_inn, a_ac, rfl, by first | assumption | omega | (intros; omega) | decide, by first | assumption | omega | (intros; omega) | decide, by first | assumption | omega | (intros; omega) | decide, by first | exact fun _ h => h | assumption, by first | exact fun _ _ => rfl | assumption⟩, by rw [ht]; exact hP, va_K.moved hW.alike hK, hD⟩⟩, hS.F ht⟩) hS.2.2 dX3_stepAt_17
