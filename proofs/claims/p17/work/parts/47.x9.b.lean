def rmX4_runAll : Room := { frames := 200, cells := 306, slots := 2142, locals := 4000 }
set_option maxHeartbeats 4000000 in
set_option maxRecDepth 100000 in
theorem tX4_runAll {l : Launch} {D : va_G} {K : Nat → Nat → Nat} {cs : Nat → ClassId} {q : Nat → Nat} {v_t_tapeSize v_t_textSize v_t_faultKind v_g_size v_h_size v_r_takes v_r_negative v_r_namePlace v_r_faultKind v_r_faultPlace v_a_size v_a_limit v_a_digits v_a_kind v_a_from v_a_to v_o_size v_b_size v_b_limit v_b_digits v_b_kind v_b_from v_b_to v_u_marksMade v_u_came v_u_guesses v_u_right v_u_taken v_s_things v_s_looked v_s_lookedTooOften v_s_arraysMade v_s_cellsMade : Int32} {a_t_tape a_t_text a_o_out a_u_outcomes a_u_indexes a_s_classes a_s_starts a_s_lengths a_vc : Nat → Int32} {a_g_beyond a_h_beyond a_r_scratch a_r_now a_u_atom a_u_other a_u_hand : Nat} {a_g_steps a_h_steps a_u_vars a_u_marks : Nat → Option Nat} {a_s_cells a_vd a_sj : Nat → Int64} {a_L : List Nat} {a_K a_iv a_inn : Nat → Nat} {a_si a_ac : Nat → Nat → Int32} (p_0 : RF a_L a_K a_g_beyond a_h_beyond a_r_scratch a_g_steps a_h_steps a_u_atom a_u_other a_u_hand a_u_vars a_u_marks) (p_1 : STO v_s_things v_s_cellsMade a_s_starts a_s_lengths) (p_2 : PI a_L a_K a_si a_iv a_inn) (p_3 : aS a_L a_K a_r_now) : CtI l yX4_runAll (wG yX4_runAll cX4_runAll 5 (some .int)) rmX4_runAll D (twT cs) K [.ref (q 12), .ref (q 3)] (tw cs q v_t_tapeSize v_t_textSize v_t_faultKind a_t_tape a_t_text a_g_beyond v_g_size a_g_steps a_h_beyond v_h_size a_h_steps a_r_scratch a_r_now v_r_takes v_r_negative v_r_namePlace v_r_faultKind v_r_faultPlace v_a_size v_a_limit v_a_digits v_a_kind v_a_from v_a_to v_o_size a_o_out v_b_size v_b_limit v_b_digits v_b_kind v_b_from v_b_to a_u_atom a_u_other a_u_hand v_u_marksMade v_u_came v_u_guesses v_u_right v_u_taken a_u_vars a_u_marks a_u_outcomes a_u_indexes v_s_things v_s_looked v_s_lookedTooOften v_s_arraysMade v_s_cellsMade a_s_classes a_s_starts a_s_lengths a_s_cells a_L a_K a_vc a_vd a_si a_sj a_iv a_inn a_ac) (fun r w1 => ∃ (a_g_steps' : Nat → Option Nat) (v_u_marksMade' : Int32) (v_u_came' : Int32) (v_u_guesses' : Int32) (v_u_right' : Int32) (v_u_taken' : Int32) (a_u_outcomes' : Nat → Int32) (a_u_indexes' : Nat → Int32) (v_s_things' : Int32) (v_s_looked' : Int32) (v_s_lookedTooOften' : Int32) (v_s_arraysMade' : Int32) (v_s_cellsMade' : Int32) (a_s_classes' : Nat → Int32) (a_s_starts' : Nat → Int32) (a_s_lengths' : Nat → Int32) (a_s_cells' : Nat → Int64) (a_L' : List Nat) (a_K' : Nat → Nat) (a_vc' : Nat → Int32) (a_vd' : Nat → Int64) (a_si' : Nat → Nat → Int32) (a_sj' : Nat → Int64) (a_iv' : Nat → Nat) (a_inn' : Nat → Nat) (a_ac' : Nat → Nat → Int32), w1 = (tw cs q v_t_tapeSize v_t_textSize v_t_faultKind a_t_tape a_t_text a_g_beyond v_g_size a_g_steps' a_h_beyond v_h_size a_h_steps a_r_scratch a_r_now v_r_takes v_r_negative v_r_namePlace v_r_faultKind v_r_faultPlace v_a_size v_a_limit v_a_digits v_a_kind v_a_from v_a_to v_o_size a_o_out v_b_size v_b_limit v_b_digits v_b_kind v_b_from v_b_to a_u_atom a_u_other a_u_hand v_u_marksMade' v_u_came' v_u_guesses' v_u_right' v_u_taken' a_u_vars a_u_marks a_u_outcomes' a_u_indexes' v_s_things' v_s_looked' v_s_lookedTooOften' v_s_arraysMade' v_s_cellsMade' a_s_classes' a_s_starts' a_s_lengths' a_s_cells' a_L' a_K' a_vc' a_vd' a_si' a_sj' a_iv' a_inn' a_ac') ∧ (RF a_L' a_K' a_g_beyond a_h_beyond a_r_scratch a_g_steps' a_h_steps a_u_atom a_u_other a_u_hand a_u_vars a_u_marks) ∧ (STO v_s_things' v_s_cellsMade' a_s_starts' a_s_lengths') ∧ (PI a_L' a_K' a_si' a_iv' a_inn') ∧ (aS a_L' a_K' a_r_now) ∧ (0 ≤ v_u_marksMade'.toInt)) 306 2142 := by
  intro sz
  refine Met.ofW (cc := cX4_runAll) (maxL := 5) (ret := (some .int)) (by decide) rfl ?_
  intro p e s m args below meth c s₁ B hml hv
  obtain ⟨rfl, hsz, hP, hK, hD0, hE⟩ := hv
  have hx := B.exec
  have hb := B.bytes
  have hr := B.returns
  have hts := atoms_spec (ws := (wG yX4_runAll cX4_runAll 5 (some .int))) B.pre
  have hown : s.vm.findClass RX4 = some m.cls := findClass_of_methodNamed B.named
  have hlocks := B.notSynchronized
  subst hsz
  have hD := hD0.self (sz := s.heap.size)
  obtain ⟨A, hAe⟩ : ∃ A : Nat → Prop, A = va_A (tw cs q v_t_tapeSize v_t_textSize v_t_faultKind a_t_tape a_t_text a_g_beyond v_g_size a_g_steps a_h_beyond v_h_size a_h_steps a_r_scratch a_r_now v_r_takes v_r_negative v_r_namePlace v_r_faultKind v_r_faultPlace v_a_size v_a_limit v_a_digits v_a_kind v_a_from v_a_to v_o_size a_o_out v_b_size v_b_limit v_b_digits v_b_kind v_b_from v_b_to a_u_atom a_u_other a_u_hand v_u_marksMade v_u_came v_u_guesses v_u_right v_u_taken a_u_vars a_u_marks a_u_outcomes a_u_indexes v_s_things v_s_looked v_s_lookedTooOften v_s_arraysMade v_s_cellsMade a_s_classes a_s_starts a_s_lengths a_s_cells a_L a_K a_vc a_vd a_si a_sj a_iv a_inn a_ac) s.heap.size := ⟨_, rfl⟩
  rw [← hAe] at hD hE
  have hA : ∀ q : Nat, s.heap.size ≤ q → A q := fun q h => by rw [hAe]; exact Or.inr h
  have hS : va_S A s.heap s.heap [] := va_S.rf
  have hl := lv_entry ([.ref (q 12), .ref (q 3)]) (n := 5) (Nat.le_of_ble_eq_true rfl)
  rw [lg_entry_eq]
  generalize (lg_sl ([.ref (q 12), .ref (q 3)]) ++ List.replicate (5 - (lg_sl ([.ref (q 12), .ref (q 3)])).length) Slot.unset).toArray = ls at hl ⊢
  have hl : lv_has ls 5 [(0, .ref (q 12)), (1, .ref (q 3))] := hl
  refine wq (fun Q hQ => ?_)
  have hinX3 : ∀ w ∈ wsX30, w ∈ (wG yX4_runAll cX4_runAll 5 (some .int)) := fun w h => List.mem_cons_of_mem _ (inlX3 w h)
  have hinX4 : ∀ w ∈ wsX40, w ∈ (wG yX4_runAll cX4_runAll 5 (some .int)) := fun w h => List.mem_cons_of_mem _ (inlX4 w h)
  have hinX6 : ∀ w ∈ wsX60, w ∈ (wG yX4_runAll cX4_runAll 5 (some .int)) := fun w h => List.mem_cons_of_mem _ (inlX6 w h)
  have kc0 : (-1 : Int32).toInt = -1 := by decide
  have kc1 : (0 : Int32).toInt = 0 := by decide
  have kc2 : (1 : Int32).toInt = 1 := by decide
  have kc3 : (100 : Int32).toInt = 100 := by decide
  have k_35_19 := hts (.fieldLink RX4 77 "ArrayTrainer$Program" "size" "I") (List.mem_cons_of_mem _ (wr35 _ (List.mem_of_getElem? (i := 19) rfl)))
  have k_4_8 := hts (.fieldLink RX4 27 "ArrayTrainer$Runner" "outcomes" "[I") (List.mem_cons_of_mem _ (wr4 _ (List.mem_of_getElem? (i := 8) rfl)))
  have k_21_12 := hts (.fieldLink RX4 62 "ArrayTrainer$Runner" "came" "I") (List.mem_cons_of_mem _ (wr21 _ (List.mem_of_getElem? (i := 12) rfl)))
  have k_35_20 := hts (.fieldLink RX4 90 "ArrayTrainer$Step" "guess" "I") (List.mem_cons_of_mem _ (wr35 _ (List.mem_of_getElem? (i := 20) rfl)))
  have k_35_21 := hts (.fieldLink RX4 93 "ArrayTrainer$Step" "take" "I") (List.mem_cons_of_mem _ (wr35 _ (List.mem_of_getElem? (i := 21) rfl)))
  have k_21_15 := hts (.fieldLink RX4 71 "ArrayTrainer$Runner" "taken" "I") (List.mem_cons_of_mem _ (wr21 _ (List.mem_of_getElem? (i := 15) rfl)))
  have k_21_13 := hts (.fieldLink RX4 65 "ArrayTrainer$Runner" "guesses" "I") (List.mem_cons_of_mem _ (wr21 _ (List.mem_of_getElem? (i := 13) rfl)))
  have k_21_14 := hts (.fieldLink RX4 68 "ArrayTrainer$Runner" "right" "I") (List.mem_cons_of_mem _ (wr21 _ (List.mem_of_getElem? (i := 14) rfl)))
  obtain ⟨H, hH⟩ : ∃ H : Heap, H = s.heap := ⟨_, rfl⟩
  obtain ⟨locs, hlc⟩ : ∃ L : List Loc, L = [] := ⟨_, rfl⟩
  have hP : va_P D vwCl (tw cs q v_t_tapeSize v_t_textSize v_t_faultKind a_t_tape a_t_text a_g_beyond v_g_size a_g_steps a_h_beyond v_h_size a_h_steps a_r_scratch a_r_now v_r_takes v_r_negative v_r_namePlace v_r_faultKind v_r_faultPlace v_a_size v_a_limit v_a_digits v_a_kind v_a_from v_a_to v_o_size a_o_out v_b_size v_b_limit v_b_digits v_b_kind v_b_from v_b_to a_u_atom a_u_other a_u_hand v_u_marksMade v_u_came v_u_guesses v_u_right v_u_taken a_u_vars a_u_marks a_u_outcomes a_u_indexes v_s_things v_s_looked v_s_lookedTooOften v_s_arraysMade v_s_cellsMade a_s_classes a_s_starts a_s_lengths a_s_cells a_L a_K a_vc a_vd a_si a_sj a_iv a_inn a_ac) H := by rw [hH]; exact hP
  have hS : va_S A s.heap H locs := by rw [hH, hlc]; exact hS
  refine wHL hH hlc ?_
  refine lv_aload_n hx hb dX4_runAll_0 rfl (lv_at hl 0 rfl) ?_
  refine call_v (As := []) (rest := []) ⟨hx, hb, hml, hown, hts⟩ (tX4_forget (l := l)  (by first | assumption | omega | (intros; omega) | decide) (by first | assumption | omega | (intros; omega) | decide)) (cwV 0 hts (gV (wr35 _ (List.mem_of_getElem? (i := 22) rfl)) (wr21 _ (List.mem_of_getElem? (i := 8) rfl)) (wr21 _ (List.mem_of_getElem? (i := 9) rfl)) (wr2 _ (List.mem_of_getElem? (i := 10) rfl)) (wr21 _ (List.mem_of_getElem? (i := 10) rfl))) rfl rfl rfl (by decide +kernel) ⟨Nat.le_of_ble_eq_true rfl, Nat.le_of_ble_eq_true rfl⟩) (va_recv hK hP (ci := 3) (q0 := 12) rfl rfl) hK hP hD hE hS hA rfl hl.1 rfl (Nat.le_of_ble_eq_true rfl) dX4_runAll_1 ⟨by show _ ≤ 306; omega, by show _ ≤ 2142; omega⟩ (fun w9 H locs hw1 hP hD hS => ?_)
  obtain ⟨v_u_marksMade_1, v_u_came_1, v_u_guesses_1, v_u_right_1, v_u_taken_1, a_u_outcomes_1, v_s_things_1, v_s_arraysMade_1, v_s_cellsMade_1, a_vc_1, a_vd_1, rfl, hw1_0, hw1_1⟩ := hw1
  have b_v_u_marksMade_1 := iB v_u_marksMade_1
  have b_v_u_came_1 := iB v_u_came_1
  have b_v_u_guesses_1 := iB v_u_guesses_1
  have b_v_u_right_1 := iB v_u_right_1
  have b_v_u_taken_1 := iB v_u_taken_1
  have b_v_s_things_1 := iB v_s_things_1
  have b_v_s_arraysMade_1 := iB v_s_arraysMade_1
  have b_v_s_cellsMade_1 := iB v_s_cellsMade_1
  refine lv_iconst (v := 0) hx hb dX4_runAll_4 (by decide) ?_
  refine lv_istore_n (lv' := [(2, .int 0), (0, .ref (q 12)), (1, .ref (q 3))]) hx hb dX4_runAll_5 rfl hl (by decide) rfl (fun ls hl => ?_)
  have J6 : ∀ (n6 : Nat) (l2_6 : Int32) (a_K_6 : Nat → Nat) (a_L_6 : List Nat) (a_ac_6 : Nat → Nat → Int32) (a_iv_6 : Nat → Nat) (a_si_6 : Nat → Nat → Int32) (a_sj_6 : Nat → Int64) (a_vc_6 : Nat → Int32) (a_vd_6 : Nat → Int64) (a_inn_6 : Nat → Nat) (a_g_steps_6 : Nat → Option Nat) (v_s_arraysMade_6 : Int32) (a_s_cells_6 : Nat → Int64) (v_s_cellsMade_6 : Int32) (a_s_classes_6 : Nat → Int32) (a_s_lengths_6 : Nat → Int32) (v_s_looked_6 : Int32) (v_s_lookedTooOften_6 : Int32) (a_s_starts_6 : Nat → Int32) (v_s_things_6 : Int32) (v_u_came_6 : Int32) (v_u_guesses_6 : Int32) (a_u_indexes_6 : Nat → Int32) (v_u_marksMade_6 : Int32) (a_u_outcomes_6 : Nat → Int32) (v_u_right_6 : Int32) (v_u_taken_6 : Int32) (H : Heap) (locs : List Loc) (ls : Array Slot), (0 ≤ l2_6.toInt) → (l2_6.toInt ≤ 100) → (RF a_L_6 a_K_6 a_g_beyond a_h_beyond a_r_scratch a_g_steps_6 a_h_steps a_u_atom a_u_other a_u_hand a_u_vars a_u_marks) → (PI a_L_6 a_K_6 a_si_6 a_iv_6 a_inn_6) → (STO v_s_things_6 v_s_cellsMade_6 a_s_starts_6 a_s_lengths_6) → (0 ≤ v_u_marksMade_6.toInt) → (v_u_marksMade_6.toInt ≤ l2_6.toInt) → (aS a_L_6 a_K_6 a_r_now) → (n6 ≤ 102) → (100 - l2_6.toInt < (n6 : Int)) → va_P D vwCl (tw cs q v_t_tapeSize v_t_textSize v_t_faultKind a_t_tape a_t_text a_g_beyond v_g_size a_g_steps_6 a_h_beyond v_h_size a_h_steps a_r_scratch a_r_now v_r_takes v_r_negative v_r_namePlace v_r_faultKind v_r_faultPlace v_a_size v_a_limit v_a_digits v_a_kind v_a_from v_a_to v_o_size a_o_out v_b_size v_b_limit v_b_digits v_b_kind v_b_from v_b_to a_u_atom a_u_other a_u_hand v_u_marksMade_6 v_u_came_6 v_u_guesses_6 v_u_right_6 v_u_taken_6 a_u_vars a_u_marks a_u_outcomes_6 a_u_indexes_6 v_s_things_6 v_s_looked_6 v_s_lookedTooOften_6 v_s_arraysMade_6 v_s_cellsMade_6 a_s_classes_6 a_s_starts_6 a_s_lengths_6 a_s_cells_6 a_L_6 a_K_6 a_vc_6 a_vd_6 a_si_6 a_sj_6 a_iv_6 a_inn_6 a_ac_6) H → va_D A (tw cs q v_t_tapeSize v_t_textSize v_t_faultKind a_t_tape a_t_text a_g_beyond v_g_size a_g_steps_6 a_h_beyond v_h_size a_h_steps a_r_scratch a_r_now v_r_takes v_r_negative v_r_namePlace v_r_faultKind v_r_faultPlace v_a_size v_a_limit v_a_digits v_a_kind v_a_from v_a_to v_o_size a_o_out v_b_size v_b_limit v_b_digits v_b_kind v_b_from v_b_to a_u_atom a_u_other a_u_hand v_u_marksMade_6 v_u_came_6 v_u_guesses_6 v_u_right_6 v_u_taken_6 a_u_vars a_u_marks a_u_outcomes_6 a_u_indexes_6 v_s_things_6 v_s_looked_6 v_s_lookedTooOften_6 v_s_arraysMade_6 v_s_cellsMade_6 a_s_classes_6 a_s_starts_6 a_s_lengths_6 a_s_cells_6 a_L_6 a_K_6 a_vc_6 a_vd_6 a_si_6 a_sj_6 a_iv_6 a_inn_6 a_ac_6) → va_S A s.heap H locs → lv_has ls 5 [(0, .ref (q 12)), (1, .ref (q 3)), (2, .int l2_6)] → W p l e (headSpec (wG yX4_runAll cX4_runAll 5 (some .int)) rmX4_runAll).room s m ([.ref (q 12), .ref (q 3)] : List Value).toArray below meth c H locs (3 * (102 - (n6))) (21 * (102 - (n6))) Q (F0 m 6 ls []) := by
    intro n6
    induction n6 with
    | zero =>
      intro l2_6 a_K_6 a_L_6 a_ac_6 a_iv_6 a_si_6 a_sj_6 a_vc_6 a_vd_6 a_inn_6 a_g_steps_6 v_s_arraysMade_6 a_s_cells_6 v_s_cellsMade_6 a_s_classes_6 a_s_lengths_6 v_s_looked_6 v_s_lookedTooOften_6 a_s_starts_6 v_s_things_6 v_u_came_6 v_u_guesses_6 a_u_indexes_6 v_u_marksMade_6 a_u_outcomes_6 v_u_right_6 v_u_taken_6 H locs ls f6_0 f6_1 f6_2 f6_3 f6_4 f6_5 f6_6 f6_7 f6_8 hm6
      exfalso
      omega
    | succ n6 ih6 =>
      intro l2_6 a_K_6 a_L_6 a_ac_6 a_iv_6 a_si_6 a_sj_6 a_vc_6 a_vd_6 a_inn_6 a_g_steps_6 v_s_arraysMade_6 a_s_cells_6 v_s_cellsMade_6 a_s_classes_6 a_s_lengths_6 v_s_looked_6 v_s_lookedTooOften_6 a_s_starts_6 v_s_things_6 v_u_came_6 v_u_guesses_6 a_u_indexes_6 v_u_marksMade_6 a_u_outcomes_6 v_u_right_6 v_u_taken_6 H locs ls f6_0 f6_1 f6_2 f6_3 f6_4 f6_5 f6_6 f6_7 f6_8 hm6 hP hD hS hl
      refine lv_iload_n hx hb dX4_runAll_6 rfl (lv_at hl 2 rfl) ?_
      refine lv_aload_n hx hb dX4_runAll_7 rfl (lv_at hl 1 rfl) ?_
      refine va_get (D := D) (ci := 2) (v := .int v_g_size) (C := RX3) (T := TX3) (N := 3) hx hb hts hinX3 hown hK hP 3 rfl rfl 2 (by decide) k_35_19 (fun _ h9 => h9) rfl dX4_runAll_8 ?_
      refine m_icmp_ge (X := l2_6.toInt) (Y := v_g_size.toInt) (tgt := 126) hx hb dX4_runAll_11 (by decide) rfl rfl (fun c11 => ?_) (fun c11 => ?_)
      · skip
        refine lv_iconst (v := 0) hx hb dX4_runAll_126 (by decide) ?_
        refine W.widen (k := 306) (n := 2142) (by omega) (by omega) ?_
        subst hAe
        rw [hQ]
        exact W.iret (v := 0) hx hb hr (fun t ht hW => ⟨⟨0, _, rfl, ⟨a_g_steps_6, v_u_marksMade_6, v_u_came_6, v_u_guesses_6, v_u_right_6, v_u_taken_6, a_u_outcomes_6, a_u_indexes_6, v_s_things_6, v_s_looked_6, v_s_lookedTooOften_6, v_s_arraysMade_6, v_s_cellsMade_6, a_s_classes_6, a_s_starts_6, a_s_lengths_6, a_s_cells_6, a_L_6, a_K_6, a_vc_6, a_vd_6, a_si_6, a_sj_6, a_iv_6, a_inn_6, a_ac_6, rfl, by first | assumption | omega | (intros; omega) | decide, by first | assumption | omega | (intros; omega) | decide, by first | assumption | omega | (intros; omega) | decide, by first | assumption | exact aS.grow hw22_3 hw22_4 (by assumption), by first | assumption | omega | (intros; omega) | decide⟩, by rw [ht]; exact hP, va_K.moved hW.alike hK, hD⟩, hS.F ht⟩) hS.2.2 dX4_runAll_127
      · skip
        refine lv_iload_n hx hb dX4_runAll_14 rfl (lv_at hl 2 rfl) ?_
        refine lv_bipush (v := 100) hx hb dX4_runAll_15 (by decide) ?_
        refine m_icmp_ge (X := l2_6.toInt) (Y := 100) (tgt := 126) hx hb dX4_runAll_17 (by decide) rfl (by decide) (fun c17 => ?_) (fun c17 => ?_)
        · skip
          refine lv_iconst (v := 0) hx hb dX4_runAll_126 (by decide) ?_
          refine W.widen (k := 306) (n := 2142) (by omega) (by omega) ?_
          subst hAe
          rw [hQ]
          exact W.iret (v := 0) hx hb hr (fun t ht hW => ⟨⟨0, _, rfl, ⟨a_g_steps_6, v_u_marksMade_6, v_u_came_6, v_u_guesses_6, v_u_right_6, v_u_taken_6, a_u_outcomes_6, a_u_indexes_6, v_s_things_6, v_s_looked_6, v_s_lookedTooOften_6, v_s_arraysMade_6, v_s_cellsMade_6, a_s_classes_6, a_s_starts_6, a_s_lengths_6, a_s_cells_6, a_L_6, a_K_6, a_vc_6, a_vd_6, a_si_6, a_sj_6, a_iv_6, a_inn_6, a_ac_6, rfl, by first | assumption | omega | (intros; omega) | decide, by first | assumption | omega | (intros; omega) | decide, by first | assumption | omega | (intros; omega) | decide, by first | assumption | exact aS.grow hw22_3 hw22_4 (by assumption), by first | assumption | omega | (intros; omega) | decide⟩, by rw [ht]; exact hP, va_K.moved hW.alike hK, hD⟩, hS.F ht⟩) hS.2.2 dX4_runAll_127
        · skip
          refine lv_aload_n hx hb dX4_runAll_20 rfl (lv_at hl 1 rfl) ?_
          refine lv_iload_n hx hb dX4_runAll_21 rfl (lv_at hl 2 rfl) ?_
          refine call_r (As := [.int l2_6]) (rest := []) ⟨hx, hb, hml, hown, hts⟩ (tX3_stepAt_qg (l := l) l2_6 (by first | assumption | omega | (intros; omega) | decide) (by first | assumption | omega | (intros; omega) | decide)) (cwV 1 hts (gV (wr35 _ (List.mem_of_getElem? (i := 23) rfl)) (wr16 _ (List.mem_of_getElem? (i := 1) rfl)) (wr16 _ (List.mem_of_getElem? (i := 2) rfl)) (wr1 _ (List.mem_of_getElem? (i := 18) rfl)) (wr16 _ (List.mem_of_getElem? (i := 3) rfl))) rfl rfl rfl (by decide +kernel) ⟨Nat.le_of_ble_eq_true rfl, Nat.le_of_ble_eq_true rfl⟩) (va_recv hK hP (ci := 2) (q0 := 3) rfl rfl) hK hP hD hE hS hA rfl hl.1 rfl (Nat.le_of_ble_eq_true rfl) dX4_runAll_22 ⟨by show _ ≤ 306; omega, by show _ ≤ 2142; omega⟩ (fun r22 w9 H locs hw22 hP hD hS => ?_)
          obtain ⟨a_g_steps_22, a_L_22, a_K_22, a_si_22, a_sj_22, a_iv_22, a_inn_22, a_ac_22, rfl, hw22_0, hw22_1, hw22_2, hw22_3, hw22_4⟩ := hw22
          refine lv_astore_n (lv' := [(3, .ref r22), (0, .ref (q 12)), (1, .ref (q 3)), (2, .int l2_6)]) hx hb dX4_runAll_25 rfl hl (by decide) rfl (fun ls hl => ?_)
          refine lv_aload_n hx hb dX4_runAll_26 rfl (lv_at hl 1 rfl) ?_
          refine lv_aload_n hx hb dX4_runAll_27 rfl (lv_at hl 0 rfl) ?_
          refine call_i (As := [.ref r22]) (rest := []) ⟨hx, hb, hml, hown, hts⟩ (tX4_perform (l := l) r22 hw22_0 (by first | assumption | omega | (intros; omega) | decide) (by first | assumption | omega | (intros; omega) | decide) (by first | assumption | omega | (intros; omega) | decide) (by first | assumption | omega | (intros; omega) | decide) (by first | assumption | omega | (intros; omega) | decide)) (cwV 1 hts (gV (wr36 _ (List.mem_of_getElem? (i := 0) rfl)) (wr36 _ (List.mem_of_getElem? (i := 1) rfl)) (wr36 _ (List.mem_of_getElem? (i := 2) rfl)) (wr2 _ (List.mem_of_getElem? (i := 10) rfl)) (wr36 _ (List.mem_of_getElem? (i := 3) rfl))) rfl rfl rfl (by decide +kernel) ⟨Nat.le_of_ble_eq_true rfl, Nat.le_of_ble_eq_true rfl⟩) (va_recv hK hP (ci := 3) (q0 := 12) rfl rfl) hK hP hD hE hS hA rfl hl.1 rfl (Nat.le_of_ble_eq_true rfl) dX4_runAll_28 ⟨by show _ ≤ 306; omega, by show _ ≤ 2142; omega⟩ (fun r28 w9 H locs hw28 hP hD hS => ?_)
          obtain ⟨v_u_marksMade_28, a_u_indexes_28, v_s_things_28, v_s_looked_28, v_s_lookedTooOften_28, v_s_arraysMade_28, v_s_cellsMade_28, a_s_classes_28, a_s_starts_28, a_s_lengths_28, a_s_cells_28, a_vc_28, a_vd_28, rfl, hw28_0, hw28_1, hw28_2⟩ := hw28
          have b_v_u_marksMade_28 := iB v_u_marksMade_28
          have b_v_s_things_28 := iB v_s_things_28
          have b_v_s_looked_28 := iB v_s_looked_28
          have b_v_s_lookedTooOften_28 := iB v_s_lookedTooOften_28
          have b_v_s_arraysMade_28 := iB v_s_arraysMade_28
          have b_v_s_cellsMade_28 := iB v_s_cellsMade_28
          have b_r28 := iB r28
          refine lv_istore (lv' := [(4, .int r28), (3, .ref r22), (0, .ref (q 12)), (1, .ref (q 3)), (2, .int l2_6)]) hx hb dX4_runAll_31 hl (by decide) rfl (fun ls hl => ?_)
          refine lv_aload_n hx hb dX4_runAll_33 rfl (lv_at hl 2 rfl) ?_
          refine va_get (D := D) (ci := 3) (v := .ref (q 15)) (C := RX4) (T := TX4) (N := 13) hx hb hts hinX4 hown hK hP 12 rfl rfl 3 (by decide) k_4_8 (fun _ h9 => h9) rfl dX4_runAll_34 ?_
          refine lv_iload_n hx hb dX4_runAll_37 rfl (lv_at hl 4 rfl) ?_
          refine lv_iload hx hb dX4_runAll_38 (lv_at hl 0 rfl) ?_
          refine va_iast hx hb hK hP hD hS 15 0 rfl rfl (ix (by omega) (by omega)) dX4_runAll_40 (fun H locs hP hD hS => ?_)
          obtain ⟨a_u_outcomes_40, e_a_u_outcomes_40⟩ : ∃ g, g = upd a_u_outcomes_6 l2_6.toNatClampNeg r28 := ⟨_, rfl⟩
          have hP : va_P D vwCl (tw cs q v_t_tapeSize v_t_textSize v_t_faultKind a_t_tape a_t_text a_g_beyond v_g_size a_g_steps_22 a_h_beyond v_h_size a_h_steps a_r_scratch a_r_now v_r_takes v_r_negative v_r_namePlace v_r_faultKind v_r_faultPlace v_a_size v_a_limit v_a_digits v_a_kind v_a_from v_a_to v_o_size a_o_out v_b_size v_b_limit v_b_digits v_b_kind v_b_from v_b_to a_u_atom a_u_other a_u_hand v_u_marksMade_28 v_u_came_6 v_u_guesses_6 v_u_right_6 v_u_taken_6 a_u_vars a_u_marks a_u_outcomes_40 a_u_indexes_28 v_s_things_28 v_s_looked_28 v_s_lookedTooOften_28 v_s_arraysMade_28 v_s_cellsMade_28 a_s_classes_28 a_s_starts_28 a_s_lengths_28 a_s_cells_28 a_L_22 a_K_22 a_vc_28 a_vd_28 a_si_22 a_sj_22 a_iv_22 a_inn_22 a_ac_22) H := by rw [e_a_u_outcomes_40]; exact hP
          have hD : va_D A (tw cs q v_t_tapeSize v_t_textSize v_t_faultKind a_t_tape a_t_text a_g_beyond v_g_size a_g_steps_22 a_h_beyond v_h_size a_h_steps a_r_scratch a_r_now v_r_takes v_r_negative v_r_namePlace v_r_faultKind v_r_faultPlace v_a_size v_a_limit v_a_digits v_a_kind v_a_from v_a_to v_o_size a_o_out v_b_size v_b_limit v_b_digits v_b_kind v_b_from v_b_to a_u_atom a_u_other a_u_hand v_u_marksMade_28 v_u_came_6 v_u_guesses_6 v_u_right_6 v_u_taken_6 a_u_vars a_u_marks a_u_outcomes_40 a_u_indexes_28 v_s_things_28 v_s_looked_28 v_s_lookedTooOften_28 v_s_arraysMade_28 v_s_cellsMade_28 a_s_classes_28 a_s_starts_28 a_s_lengths_28 a_s_cells_28 a_L_22 a_K_22 a_vc_28 a_vd_28 a_si_22 a_sj_22 a_iv_22 a_inn_22 a_ac_22) := by rw [e_a_u_outcomes_40]; exact hD
          refine lv_aload_n hx hb dX4_runAll_41 rfl (lv_at hl 2 rfl) ?_
          refine lv_dup hx hb dX4_runAll_42 rfl ?_
          refine va_get (D := D) (ci := 3) (v := .int v_u_came_6) (C := RX4) (T := TX4) (N := 13) hx hb hts hinX4 hown hK hP 12 rfl rfl 9 (by decide) k_21_12 (fun _ h9 => h9) rfl dX4_runAll_43 ?_
          refine lv_iconst (v := 1) hx hb dX4_runAll_46 (by decide) ?_
          refine m_iadd (X := v_u_came_6.toInt) (Y := 1) hx hb dX4_runAll_47 rfl (by decide) (fun x47 e_x47 g9 => ?_)
          obtain ⟨k_x47, g_x47⟩ := g9
          have b_x47 := iB x47
          try (have q_x47 : x47.toInt = v_u_came_6.toInt + 1 := (by omega); clear g_x47 k_x47)
          refine va_put (D := D) (ci := 3) (v := .int x47) (ty := .int) (C := RX4) (T := TX4) (N := 13) hx hb hts hinX4 tyX4 tyX4_ok nmX4 hown hK hP hD hS 12 rfl rfl 9 (by decide) k_21_12 (fun _ h9 => h9) rfl (by decide +kernel) rfl rfl (Nat.le_of_ble_eq_true rfl) dX4_runAll_48 (fun H locs hP hD hS => ?_)
          have hP : va_P D vwCl (tw cs q v_t_tapeSize v_t_textSize v_t_faultKind a_t_tape a_t_text a_g_beyond v_g_size a_g_steps_22 a_h_beyond v_h_size a_h_steps a_r_scratch a_r_now v_r_takes v_r_negative v_r_namePlace v_r_faultKind v_r_faultPlace v_a_size v_a_limit v_a_digits v_a_kind v_a_from v_a_to v_o_size a_o_out v_b_size v_b_limit v_b_digits v_b_kind v_b_from v_b_to a_u_atom a_u_other a_u_hand v_u_marksMade_28 x47 v_u_guesses_6 v_u_right_6 v_u_taken_6 a_u_vars a_u_marks a_u_outcomes_40 a_u_indexes_28 v_s_things_28 v_s_looked_28 v_s_lookedTooOften_28 v_s_arraysMade_28 v_s_cellsMade_28 a_s_classes_28 a_s_starts_28 a_s_lengths_28 a_s_cells_28 a_L_22 a_K_22 a_vc_28 a_vd_28 a_si_22 a_sj_22 a_iv_22 a_inn_22 a_ac_22) H := hP
          have hD : va_D A (tw cs q v_t_tapeSize v_t_textSize v_t_faultKind a_t_tape a_t_text a_g_beyond v_g_size a_g_steps_22 a_h_beyond v_h_size a_h_steps a_r_scratch a_r_now v_r_takes v_r_negative v_r_namePlace v_r_faultKind v_r_faultPlace v_a_size v_a_limit v_a_digits v_a_kind v_a_from v_a_to v_o_size a_o_out v_b_size v_b_limit v_b_digits v_b_kind v_b_from v_b_to a_u_atom a_u_other a_u_hand v_u_marksMade_28 x47 v_u_guesses_6 v_u_right_6 v_u_taken_6 a_u_vars a_u_marks a_u_outcomes_40 a_u_indexes_28 v_s_things_28 v_s_looked_28 v_s_lookedTooOften_28 v_s_arraysMade_28 v_s_cellsMade_28 a_s_classes_28 a_s_starts_28 a_s_lengths_28 a_s_cells_28 a_L_22 a_K_22 a_vc_28 a_vd_28 a_si_22 a_sj_22 a_iv_22 a_inn_22 a_ac_22) := hD
          refine lv_aload_n hx hb dX4_runAll_51 rfl (lv_at hl 1 rfl) ?_
          obtain ⟨k52_, hk52_⟩ := pl_S (X := (twX cs q v_t_tapeSize v_t_textSize v_t_faultKind a_t_tape a_t_text a_g_beyond v_g_size a_g_steps_22 a_h_beyond v_h_size a_h_steps a_r_scratch a_r_now v_r_takes v_r_negative v_r_namePlace v_r_faultKind v_r_faultPlace v_a_size v_a_limit v_a_digits v_a_kind v_a_from v_a_to v_o_size a_o_out v_b_size v_b_limit v_b_digits v_b_kind v_b_from v_b_to a_u_atom a_u_other a_u_hand v_u_marksMade_28 x47 v_u_guesses_6 v_u_right_6 v_u_taken_6 a_u_vars a_u_marks a_u_outcomes_40 a_u_indexes_28 v_s_things_28 v_s_looked_28 v_s_lookedTooOften_28 v_s_arraysMade_28 v_s_cellsMade_28 a_s_classes_28 a_s_starts_28 a_s_lengths_28 a_s_cells_28)) (cI := cs 0) (vc := a_vc_28) (vd := a_vd_28) (si := a_si_22) (sj := a_sj_22) (iv := a_iv_22) (inn := a_inn_22) (ac := a_ac_22) hw22_0
          refine va_get (D := D) (ci := 5) (v := .int (a_si_22 r22 1)) (C := RX6) (T := TX6) (N := 15) hx hb hts hinX6 hown hK hP k52_ hk52_ rfl 1 (by decide) k_35_20 (fun _ h9 => h9) rfl dX4_runAll_52 ?_
          refine lv_topi (fun x52 e_x52 => ?_)
          have b_x52 := iB x52
          refine lv_iconst (v := (-1)) hx hb dX4_runAll_55 (by decide) ?_
          have J92 : ∀ (v_u_guesses_92 : Int32) (v_u_right_92 : Int32) (H : Heap) (locs : List Loc) (ls : Array Slot), va_P D vwCl (tw cs q v_t_tapeSize v_t_textSize v_t_faultKind a_t_tape a_t_text a_g_beyond v_g_size a_g_steps_22 a_h_beyond v_h_size a_h_steps a_r_scratch a_r_now v_r_takes v_r_negative v_r_namePlace v_r_faultKind v_r_faultPlace v_a_size v_a_limit v_a_digits v_a_kind v_a_from v_a_to v_o_size a_o_out v_b_size v_b_limit v_b_digits v_b_kind v_b_from v_b_to a_u_atom a_u_other a_u_hand v_u_marksMade_28 x47 v_u_guesses_92 v_u_right_92 v_u_taken_6 a_u_vars a_u_marks a_u_outcomes_40 a_u_indexes_28 v_s_things_28 v_s_looked_28 v_s_lookedTooOften_28 v_s_arraysMade_28 v_s_cellsMade_28 a_s_classes_28 a_s_starts_28 a_s_lengths_28 a_s_cells_28 a_L_22 a_K_22 a_vc_28 a_vd_28 a_si_22 a_sj_22 a_iv_22 a_inn_22 a_ac_22) H → va_D A (tw cs q v_t_tapeSize v_t_textSize v_t_faultKind a_t_tape a_t_text a_g_beyond v_g_size a_g_steps_22 a_h_beyond v_h_size a_h_steps a_r_scratch a_r_now v_r_takes v_r_negative v_r_namePlace v_r_faultKind v_r_faultPlace v_a_size v_a_limit v_a_digits v_a_kind v_a_from v_a_to v_o_size a_o_out v_b_size v_b_limit v_b_digits v_b_kind v_b_from v_b_to a_u_atom a_u_other a_u_hand v_u_marksMade_28 x47 v_u_guesses_92 v_u_right_92 v_u_taken_6 a_u_vars a_u_marks a_u_outcomes_40 a_u_indexes_28 v_s_things_28 v_s_looked_28 v_s_lookedTooOften_28 v_s_arraysMade_28 v_s_cellsMade_28 a_s_classes_28 a_s_starts_28 a_s_lengths_28 a_s_cells_28 a_L_22 a_K_22 a_vc_28 a_vd_28 a_si_22 a_sj_22 a_iv_22 a_inn_22 a_ac_22) → va_S A s.heap H locs → lv_has ls 5 [(0, .ref (q 12)), (1, .ref (q 3)), (2, .int l2_6), (3, .ref r22), (4, .int r28)] → W p l e (headSpec (wG yX4_runAll cX4_runAll 5 (some .int)) rmX4_runAll).room s m ([.ref (q 12), .ref (q 3)] : List Value).toArray below meth c H locs (3 * (102 - (n6 + 1)) + 3) (21 * (102 - (n6 + 1)) + 21) Q (F0 m 92 ls []) := by
            intro v_u_guesses_92 v_u_right_92 H locs ls hP hD hS hl
            refine lv_iload hx hb dX4_runAll_92 (lv_at hl 4 rfl) ?_
            have J120 : ∀ (v_u_taken_120 : Int32) (H : Heap) (locs : List Loc) (ls : Array Slot), va_P D vwCl (tw cs q v_t_tapeSize v_t_textSize v_t_faultKind a_t_tape a_t_text a_g_beyond v_g_size a_g_steps_22 a_h_beyond v_h_size a_h_steps a_r_scratch a_r_now v_r_takes v_r_negative v_r_namePlace v_r_faultKind v_r_faultPlace v_a_size v_a_limit v_a_digits v_a_kind v_a_from v_a_to v_o_size a_o_out v_b_size v_b_limit v_b_digits v_b_kind v_b_from v_b_to a_u_atom a_u_other a_u_hand v_u_marksMade_28 x47 v_u_guesses_92 v_u_right_92 v_u_taken_120 a_u_vars a_u_marks a_u_outcomes_40 a_u_indexes_28 v_s_things_28 v_s_looked_28 v_s_lookedTooOften_28 v_s_arraysMade_28 v_s_cellsMade_28 a_s_classes_28 a_s_starts_28 a_s_lengths_28 a_s_cells_28 a_L_22 a_K_22 a_vc_28 a_vd_28 a_si_22 a_sj_22 a_iv_22 a_inn_22 a_ac_22) H → va_D A (tw cs q v_t_tapeSize v_t_textSize v_t_faultKind a_t_tape a_t_text a_g_beyond v_g_size a_g_steps_22 a_h_beyond v_h_size a_h_steps a_r_scratch a_r_now v_r_takes v_r_negative v_r_namePlace v_r_faultKind v_r_faultPlace v_a_size v_a_limit v_a_digits v_a_kind v_a_from v_a_to v_o_size a_o_out v_b_size v_b_limit v_b_digits v_b_kind v_b_from v_b_to a_u_atom a_u_other a_u_hand v_u_marksMade_28 x47 v_u_guesses_92 v_u_right_92 v_u_taken_120 a_u_vars a_u_marks a_u_outcomes_40 a_u_indexes_28 v_s_things_28 v_s_looked_28 v_s_lookedTooOften_28 v_s_arraysMade_28 v_s_cellsMade_28 a_s_classes_28 a_s_starts_28 a_s_lengths_28 a_s_cells_28 a_L_22 a_K_22 a_vc_28 a_vd_28 a_si_22 a_sj_22 a_iv_22 a_inn_22 a_ac_22) → va_S A s.heap H locs → lv_has ls 5 [(0, .ref (q 12)), (1, .ref (q 3)), (2, .int l2_6)] → W p l e (headSpec (wG yX4_runAll cX4_runAll 5 (some .int)) rmX4_runAll).room s m ([.ref (q 12), .ref (q 3)] : List Value).toArray below meth c H locs (3 * (102 - (n6 + 1)) + 3) (21 * (102 - (n6 + 1)) + 21) Q (F0 m 120 ls []) := by
              intro v_u_taken_120 H locs ls hP hD hS hl
              obtain ⟨x120, e_x120⟩ : ∃ z : Int32, z = l2_6 + (1 : Int32) := ⟨_, rfl⟩
              obtain ⟨k_x120, g_x120⟩ : ∃ k : Int, x120.toInt = l2_6.toInt + (1) + k * 4294967296 := by rw [e_x120]; exact iAdd l2_6 (1)
              have b_x120 := iB x120
              try (have q_x120 : x120.toInt = l2_6.toInt + (1) := (by omega); clear g_x120 k_x120)
              refine lv_iinc (v := x120) (lv' := [(2, .int x120), (0, .ref (q 12)), (1, .ref (q 3))]) hx hb dX4_runAll_120 hl (k := 2) rfl (by rw [e_x120]; rfl) (by decide) rfl (fun ls hl => ?_)
              refine lv_goto (tgt := 6) hx hb dX4_runAll_123 (by decide) ?_
              refine W.widen (k := 3 * (102 - (n6))) (n := 21 * (102 - (n6))) (by omega) (by omega) ?_
              exact ih6 x120 a_K_22 a_L_22 a_ac_22 a_iv_22 a_si_22 a_sj_22 a_vc_28 a_vd_28 a_inn_22 a_g_steps_22 v_s_arraysMade_28 a_s_cells_28 v_s_cellsMade_28 a_s_classes_28 a_s_lengths_28 v_s_looked_28 v_s_lookedTooOften_28 a_s_starts_28 v_s_things_28 x47 v_u_guesses_92 a_u_indexes_28 v_u_marksMade_28 a_u_outcomes_40 v_u_right_92 v_u_taken_120 H locs ls (by first | assumption | omega | (intros; omega) | decide) (by first | assumption | omega | (intros; omega) | decide) (by first | assumption | omega | (intros; omega) | decide) (by first | assumption | omega | (intros; omega) | decide) (by first | assumption | omega | (intros; omega) | decide) (by first | assumption | omega | (intros; omega) | decide) (by first | assumption | omega | (intros; omega) | decide) (by first | assumption | exact aS.grow hw22_3 hw22_4 (by assumption)) (by first | assumption | omega | (intros; omega) | decide) (by omega) hP hD hS (lv_sub hl [1, 2, 0] rfl)
            refine m_if_eq (X := r28.toInt) (tgt := 120) hx hb dX4_runAll_94 (by decide) rfl (fun c94 => ?_) (fun c94 => ?_)
            · skip
              exact J120 v_u_taken_6 H locs ls hP hD hS (lv_sub hl [0, 1, 2] rfl)
            · skip
              refine lv_aload_n hx hb dX4_runAll_97 rfl (lv_at hl 3 rfl) ?_
              obtain ⟨k98_, hk98_⟩ := pl_S (X := (twX cs q v_t_tapeSize v_t_textSize v_t_faultKind a_t_tape a_t_text a_g_beyond v_g_size a_g_steps_22 a_h_beyond v_h_size a_h_steps a_r_scratch a_r_now v_r_takes v_r_negative v_r_namePlace v_r_faultKind v_r_faultPlace v_a_size v_a_limit v_a_digits v_a_kind v_a_from v_a_to v_o_size a_o_out v_b_size v_b_limit v_b_digits v_b_kind v_b_from v_b_to a_u_atom a_u_other a_u_hand v_u_marksMade_28 x47 v_u_guesses_92 v_u_right_92 v_u_taken_6 a_u_vars a_u_marks a_u_outcomes_40 a_u_indexes_28 v_s_things_28 v_s_looked_28 v_s_lookedTooOften_28 v_s_arraysMade_28 v_s_cellsMade_28 a_s_classes_28 a_s_starts_28 a_s_lengths_28 a_s_cells_28)) (cI := cs 0) (vc := a_vc_28) (vd := a_vd_28) (si := a_si_22) (sj := a_sj_22) (iv := a_iv_22) (inn := a_inn_22) (ac := a_ac_22) hw22_0
              refine va_get (D := D) (ci := 5) (v := .int (a_si_22 r22 2)) (C := RX6) (T := TX6) (N := 15) hx hb hts hinX6 hown hK hP k98_ hk98_ rfl 2 (by decide) k_35_21 (fun _ h9 => h9) rfl dX4_runAll_98 ?_
              refine lv_topi (fun x98 e_x98 => ?_)
              have b_x98 := iB x98
              refine lv_iload hx hb dX4_runAll_101 (lv_at hl 4 rfl) ?_
              refine m_icmp_eq (X := x98.toInt) (Y := r28.toInt) (tgt := 110) hx hb dX4_runAll_103 (by decide) rfl rfl (fun c103 => ?_) (fun c103 => ?_)
              · skip
                refine lv_aload_n hx hb dX4_runAll_110 rfl (lv_at hl 0 rfl) ?_
                refine lv_dup hx hb dX4_runAll_111 rfl ?_
                refine va_get (D := D) (ci := 3) (v := .int v_u_taken_6) (C := RX4) (T := TX4) (N := 13) hx hb hts hinX4 hown hK hP 12 rfl rfl 12 (by decide) k_21_15 (fun _ h9 => h9) rfl dX4_runAll_112 ?_
                refine lv_iconst (v := 1) hx hb dX4_runAll_115 (by decide) ?_
                refine m_iadd (X := v_u_taken_6.toInt) (Y := 1) hx hb dX4_runAll_116 rfl (by decide) (fun x116 e_x116 g9 => ?_)
                obtain ⟨k_x116, g_x116⟩ := g9
                have b_x116 := iB x116
                try (have q_x116 : x116.toInt = v_u_taken_6.toInt + 1 := (by omega); clear g_x116 k_x116)
                refine va_put (D := D) (ci := 3) (v := .int x116) (ty := .int) (C := RX4) (T := TX4) (N := 13) hx hb hts hinX4 tyX4 tyX4_ok nmX4 hown hK hP hD hS 12 rfl rfl 12 (by decide) k_21_15 (fun _ h9 => h9) rfl (by decide +kernel) rfl rfl (Nat.le_of_ble_eq_true rfl) dX4_runAll_117 (fun H locs hP hD hS => ?_)
                have hP : va_P D vwCl (tw cs q v_t_tapeSize v_t_textSize v_t_faultKind a_t_tape a_t_text a_g_beyond v_g_size a_g_steps_22 a_h_beyond v_h_size a_h_steps a_r_scratch a_r_now v_r_takes v_r_negative v_r_namePlace v_r_faultKind v_r_faultPlace v_a_size v_a_limit v_a_digits v_a_kind v_a_from v_a_to v_o_size a_o_out v_b_size v_b_limit v_b_digits v_b_kind v_b_from v_b_to a_u_atom a_u_other a_u_hand v_u_marksMade_28 x47 v_u_guesses_92 v_u_right_92 x116 a_u_vars a_u_marks a_u_outcomes_40 a_u_indexes_28 v_s_things_28 v_s_looked_28 v_s_lookedTooOften_28 v_s_arraysMade_28 v_s_cellsMade_28 a_s_classes_28 a_s_starts_28 a_s_lengths_28 a_s_cells_28 a_L_22 a_K_22 a_vc_28 a_vd_28 a_si_22 a_sj_22 a_iv_22 a_inn_22 a_ac_22) H := hP
                have hD : va_D A (tw cs q v_t_tapeSize v_t_textSize v_t_faultKind a_t_tape a_t_text a_g_beyond v_g_size a_g_steps_22 a_h_beyond v_h_size a_h_steps a_r_scratch a_r_now v_r_takes v_r_negative v_r_namePlace v_r_faultKind v_r_faultPlace v_a_size v_a_limit v_a_digits v_a_kind v_a_from v_a_to v_o_size a_o_out v_b_size v_b_limit v_b_digits v_b_kind v_b_from v_b_to a_u_atom a_u_other a_u_hand v_u_marksMade_28 x47 v_u_guesses_92 v_u_right_92 x116 a_u_vars a_u_marks a_u_outcomes_40 a_u_indexes_28 v_s_things_28 v_s_looked_28 v_s_lookedTooOften_28 v_s_arraysMade_28 v_s_cellsMade_28 a_s_classes_28 a_s_starts_28 a_s_lengths_28 a_s_cells_28 a_L_22 a_K_22 a_vc_28 a_vd_28 a_si_22 a_sj_22 a_iv_22 a_inn_22 a_ac_22) := hD
                exact J120 x116 H locs ls hP hD hS (lv_sub hl [0, 1, 2] rfl)
              · skip
                refine lv_iconst (v := 1) hx hb dX4_runAll_106 (by decide) ?_
                refine lv_iload_n hx hb dX4_runAll_107 rfl (lv_at hl 2 rfl) ?_
                refine m_iadd (X := 1) (Y := l2_6.toInt) hx hb dX4_runAll_108 (by decide) rfl (fun x108 e_x108 g9 => ?_)
                obtain ⟨k_x108, g_x108⟩ := g9
                have b_x108 := iB x108
                try (have q_x108 : x108.toInt = 1 + l2_6.toInt := (by omega); clear g_x108 k_x108)
                refine W.widen (k := 306) (n := 2142) (by omega) (by omega) ?_
                subst hAe
                rw [hQ]
                exact W.iret (v := x108) hx hb hr (fun t ht hW => ⟨⟨x108, _, rfl, ⟨a_g_steps_22, v_u_marksMade_28, x47, v_u_guesses_92, v_u_right_92, v_u_taken_6, a_u_outcomes_40, a_u_indexes_28, v_s_things_28, v_s_looked_28, v_s_lookedTooOften_28, v_s_arraysMade_28, v_s_cellsMade_28, a_s_classes_28, a_s_starts_28, a_s_lengths_28, a_s_cells_28, a_L_22, a_K_22, a_vc_28, a_vd_28, a_si_22, a_sj_22, a_iv_22, a_inn_22, a_ac_22, rfl, by first | assumption | omega | (intros; omega) | decide, by first | assumption | omega | (intros; omega) | decide, by first | assumption | omega | (intros; omega) | decide, by first | assumption | exact aS.grow hw22_3 hw22_4 (by assumption), by first | assumption | omega | (intros; omega) | decide⟩, by rw [ht]; exact hP, va_K.moved hW.alike hK, hD⟩, hS.F ht⟩) hS.2.2 dX4_runAll_109
          refine m_icmp_eq (X := x52.toInt) (Y := (-1)) (tgt := 92) hx hb dX4_runAll_56 (by decide) rfl (by decide) (fun c56 => ?_) (fun c56 => ?_)
          · skip
            exact J92 v_u_guesses_6 v_u_right_6 H locs ls hP hD hS (lv_sub hl [2, 3, 4, 1, 0] rfl)
          · skip
            refine lv_aload_n hx hb dX4_runAll_59 rfl (lv_at hl 2 rfl) ?_
            refine lv_dup hx hb dX4_runAll_60 rfl ?_
            refine va_get (D := D) (ci := 3) (v := .int v_u_guesses_6) (C := RX4) (T := TX4) (N := 13) hx hb hts hinX4 hown hK hP 12 rfl rfl 10 (by decide) k_21_13 (fun _ h9 => h9) rfl dX4_runAll_61 ?_
            refine lv_iconst (v := 1) hx hb dX4_runAll_64 (by decide) ?_
            refine m_iadd (X := v_u_guesses_6.toInt) (Y := 1) hx hb dX4_runAll_65 rfl (by decide) (fun x65 e_x65 g9 => ?_)
            obtain ⟨k_x65, g_x65⟩ := g9
            have b_x65 := iB x65
            try (have q_x65 : x65.toInt = v_u_guesses_6.toInt + 1 := (by omega); clear g_x65 k_x65)
            refine va_put (D := D) (ci := 3) (v := .int x65) (ty := .int) (C := RX4) (T := TX4) (N := 13) hx hb hts hinX4 tyX4 tyX4_ok nmX4 hown hK hP hD hS 12 rfl rfl 10 (by decide) k_21_13 (fun _ h9 => h9) rfl (by decide +kernel) rfl rfl (Nat.le_of_ble_eq_true rfl) dX4_runAll_66 (fun H locs hP hD hS => ?_)
            have hP : va_P D vwCl (tw cs q v_t_tapeSize v_t_textSize v_t_faultKind a_t_tape a_t_text a_g_beyond v_g_size a_g_steps_22 a_h_beyond v_h_size a_h_steps a_r_scratch a_r_now v_r_takes v_r_negative v_r_namePlace v_r_faultKind v_r_faultPlace v_a_size v_a_limit v_a_digits v_a_kind v_a_from v_a_to v_o_size a_o_out v_b_size v_b_limit v_b_digits v_b_kind v_b_from v_b_to a_u_atom a_u_other a_u_hand v_u_marksMade_28 x47 x65 v_u_right_6 v_u_taken_6 a_u_vars a_u_marks a_u_outcomes_40 a_u_indexes_28 v_s_things_28 v_s_looked_28 v_s_lookedTooOften_28 v_s_arraysMade_28 v_s_cellsMade_28 a_s_classes_28 a_s_starts_28 a_s_lengths_28 a_s_cells_28 a_L_22 a_K_22 a_vc_28 a_vd_28 a_si_22 a_sj_22 a_iv_22 a_inn_22 a_ac_22) H := hP
            have hD : va_D A (tw cs q v_t_tapeSize v_t_textSize v_t_faultKind a_t_tape a_t_text a_g_beyond v_g_size a_g_steps_22 a_h_beyond v_h_size a_h_steps a_r_scratch a_r_now v_r_takes v_r_negative v_r_namePlace v_r_faultKind v_r_faultPlace v_a_size v_a_limit v_a_digits v_a_kind v_a_from v_a_to v_o_size a_o_out v_b_size v_b_limit v_b_digits v_b_kind v_b_from v_b_to a_u_atom a_u_other a_u_hand v_u_marksMade_28 x47 x65 v_u_right_6 v_u_taken_6 a_u_vars a_u_marks a_u_outcomes_40 a_u_indexes_28 v_s_things_28 v_s_looked_28 v_s_lookedTooOften_28 v_s_arraysMade_28 v_s_cellsMade_28 a_s_classes_28 a_s_starts_28 a_s_lengths_28 a_s_cells_28 a_L_22 a_K_22 a_vc_28 a_vd_28 a_si_22 a_sj_22 a_iv_22 a_inn_22 a_ac_22) := hD
            refine lv_aload_n hx hb dX4_runAll_69 rfl (lv_at hl 2 rfl) ?_
            refine lv_dup hx hb dX4_runAll_70 rfl ?_
            refine va_get (D := D) (ci := 3) (v := .int v_u_right_6) (C := RX4) (T := TX4) (N := 13) hx hb hts hinX4 hown hK hP 12 rfl rfl 11 (by decide) k_21_14 (fun _ h9 => h9) rfl dX4_runAll_71 ?_
            refine lv_aload_n hx hb dX4_runAll_74 rfl (lv_at hl 1 rfl) ?_
            obtain ⟨k75_, hk75_⟩ := pl_S (X := (twX cs q v_t_tapeSize v_t_textSize v_t_faultKind a_t_tape a_t_text a_g_beyond v_g_size a_g_steps_22 a_h_beyond v_h_size a_h_steps a_r_scratch a_r_now v_r_takes v_r_negative v_r_namePlace v_r_faultKind v_r_faultPlace v_a_size v_a_limit v_a_digits v_a_kind v_a_from v_a_to v_o_size a_o_out v_b_size v_b_limit v_b_digits v_b_kind v_b_from v_b_to a_u_atom a_u_other a_u_hand v_u_marksMade_28 x47 x65 v_u_right_6 v_u_taken_6 a_u_vars a_u_marks a_u_outcomes_40 a_u_indexes_28 v_s_things_28 v_s_looked_28 v_s_lookedTooOften_28 v_s_arraysMade_28 v_s_cellsMade_28 a_s_classes_28 a_s_starts_28 a_s_lengths_28 a_s_cells_28)) (cI := cs 0) (vc := a_vc_28) (vd := a_vd_28) (si := a_si_22) (sj := a_sj_22) (iv := a_iv_22) (inn := a_inn_22) (ac := a_ac_22) hw22_0
            refine va_get (D := D) (ci := 5) (v := .int (a_si_22 r22 1)) (C := RX6) (T := TX6) (N := 15) hx hb hts hinX6 hown hK hP k75_ hk75_ rfl 1 (by decide) k_35_20 (fun _ h9 => h9) rfl dX4_runAll_75 ?_
            refine lv_topi (fun x75 e_x75 => ?_)
            have b_x75 := iB x75
            refine lv_iload hx hb dX4_runAll_78 (lv_at hl 0 rfl) ?_
            have J88 : ∀ (s2_88 : Int32) (H : Heap) (locs : List Loc) (ls : Array Slot), (s2_88.toInt = 0 ∨ s2_88.toInt = 1) → va_P D vwCl (tw cs q v_t_tapeSize v_t_textSize v_t_faultKind a_t_tape a_t_text a_g_beyond v_g_size a_g_steps_22 a_h_beyond v_h_size a_h_steps a_r_scratch a_r_now v_r_takes v_r_negative v_r_namePlace v_r_faultKind v_r_faultPlace v_a_size v_a_limit v_a_digits v_a_kind v_a_from v_a_to v_o_size a_o_out v_b_size v_b_limit v_b_digits v_b_kind v_b_from v_b_to a_u_atom a_u_other a_u_hand v_u_marksMade_28 x47 x65 v_u_right_6 v_u_taken_6 a_u_vars a_u_marks a_u_outcomes_40 a_u_indexes_28 v_s_things_28 v_s_looked_28 v_s_lookedTooOften_28 v_s_arraysMade_28 v_s_cellsMade_28 a_s_classes_28 a_s_starts_28 a_s_lengths_28 a_s_cells_28 a_L_22 a_K_22 a_vc_28 a_vd_28 a_si_22 a_sj_22 a_iv_22 a_inn_22 a_ac_22) H → va_D A (tw cs q v_t_tapeSize v_t_textSize v_t_faultKind a_t_tape a_t_text a_g_beyond v_g_size a_g_steps_22 a_h_beyond v_h_size a_h_steps a_r_scratch a_r_now v_r_takes v_r_negative v_r_namePlace v_r_faultKind v_r_faultPlace v_a_size v_a_limit v_a_digits v_a_kind v_a_from v_a_to v_o_size a_o_out v_b_size v_b_limit v_b_digits v_b_kind v_b_from v_b_to a_u_atom a_u_other a_u_hand v_u_marksMade_28 x47 x65 v_u_right_6 v_u_taken_6 a_u_vars a_u_marks a_u_outcomes_40 a_u_indexes_28 v_s_things_28 v_s_looked_28 v_s_lookedTooOften_28 v_s_arraysMade_28 v_s_cellsMade_28 a_s_classes_28 a_s_starts_28 a_s_lengths_28 a_s_cells_28 a_L_22 a_K_22 a_vc_28 a_vd_28 a_si_22 a_sj_22 a_iv_22 a_inn_22 a_ac_22) → va_S A s.heap H locs → lv_has ls 5 [(0, .ref (q 12)), (1, .ref (q 3)), (2, .int l2_6), (3, .ref r22), (4, .int r28)] → W p l e (headSpec (wG yX4_runAll cX4_runAll 5 (some .int)) rmX4_runAll).room s m ([.ref (q 12), .ref (q 3)] : List Value).toArray below meth c H locs (3 * (102 - (n6 + 1)) + 3) (21 * (102 - (n6 + 1)) + 21) Q (F0 m 88 ls [.int s2_88, .int v_u_right_6, .ref (q 12)]) := by
              intro s2_88 H locs ls f88_0 hP hD hS hl
              refine m_iadd (X := v_u_right_6.toInt) (Y := s2_88.toInt) hx hb dX4_runAll_88 rfl rfl (fun x88 e_x88 g9 => ?_)
              obtain ⟨k_x88, g_x88⟩ := g9
              have b_x88 := iB x88
              try (have q_x88 : x88.toInt = v_u_right_6.toInt + s2_88.toInt := (by omega); clear g_x88 k_x88)
              refine va_put (D := D) (ci := 3) (v := .int x88) (ty := .int) (C := RX4) (T := TX4) (N := 13) hx hb hts hinX4 tyX4 tyX4_ok nmX4 hown hK hP hD hS 12 rfl rfl 11 (by decide) k_21_14 (fun _ h9 => h9) rfl (by decide +kernel) rfl rfl (Nat.le_of_ble_eq_true rfl) dX4_runAll_89 (fun H locs hP hD hS => ?_)
              have hP : va_P D vwCl (tw cs q v_t_tapeSize v_t_textSize v_t_faultKind a_t_tape a_t_text a_g_beyond v_g_size a_g_steps_22 a_h_beyond v_h_size a_h_steps a_r_scratch a_r_now v_r_takes v_r_negative v_r_namePlace v_r_faultKind v_r_faultPlace v_a_size v_a_limit v_a_digits v_a_kind v_a_from v_a_to v_o_size a_o_out v_b_size v_b_limit v_b_digits v_b_kind v_b_from v_b_to a_u_atom a_u_other a_u_hand v_u_marksMade_28 x47 x65 x88 v_u_taken_6 a_u_vars a_u_marks a_u_outcomes_40 a_u_indexes_28 v_s_things_28 v_s_looked_28 v_s_lookedTooOften_28 v_s_arraysMade_28 v_s_cellsMade_28 a_s_classes_28 a_s_starts_28 a_s_lengths_28 a_s_cells_28 a_L_22 a_K_22 a_vc_28 a_vd_28 a_si_22 a_sj_22 a_iv_22 a_inn_22 a_ac_22) H := hP
              have hD : va_D A (tw cs q v_t_tapeSize v_t_textSize v_t_faultKind a_t_tape a_t_text a_g_beyond v_g_size a_g_steps_22 a_h_beyond v_h_size a_h_steps a_r_scratch a_r_now v_r_takes v_r_negative v_r_namePlace v_r_faultKind v_r_faultPlace v_a_size v_a_limit v_a_digits v_a_kind v_a_from v_a_to v_o_size a_o_out v_b_size v_b_limit v_b_digits v_b_kind v_b_from v_b_to a_u_atom a_u_other a_u_hand v_u_marksMade_28 x47 x65 x88 v_u_taken_6 a_u_vars a_u_marks a_u_outcomes_40 a_u_indexes_28 v_s_things_28 v_s_looked_28 v_s_lookedTooOften_28 v_s_arraysMade_28 v_s_cellsMade_28 a_s_classes_28 a_s_starts_28 a_s_lengths_28 a_s_cells_28 a_L_22 a_K_22 a_vc_28 a_vd_28 a_si_22 a_sj_22 a_iv_22 a_inn_22 a_ac_22) := hD
              exact J92 x65 x88 H locs ls hP hD hS (lv_sub hl [0, 1, 2, 3, 4] rfl)
            refine m_icmp_ne (X := x75.toInt) (Y := r28.toInt) (tgt := 87) hx hb dX4_runAll_80 (by decide) rfl rfl (fun c80 => ?_) (fun c80 => ?_)
            · skip
              refine lv_iconst (v := 0) hx hb dX4_runAll_87 (by decide) ?_
              exact J88 (0 : Int32) H locs ls (by first | decide | omega) hP hD hS (lv_sub hl [2, 3, 4, 1, 0] rfl)
            · skip
              refine lv_iconst (v := 1) hx hb dX4_runAll_83 (by decide) ?_
              refine lv_goto (tgt := 88) hx hb dX4_runAll_84 (by decide) ?_
              exact J88 (1 : Int32) H locs ls (by first | decide | omega) hP hD hS (lv_sub hl [2, 3, 4, 1, 0] rfl)
  refine W.widen (k := 3 * (102 - (((100 - (0 : Int32).toInt).toNat + 1)))) (n := 21 * (102 - (((100 - (0 : Int32).toInt).toNat + 1)))) (by omega) (by omega) ?_
  exact J6 ((100 - (0 : Int32).toInt).toNat + 1) (0 : Int32) a_K a_L a_ac a_iv a_si a_sj a_vc_1 a_vd_1 a_inn a_g_steps v_s_arraysMade_1 a_s_cells v_s_cellsMade_1 a_s_classes a_s_lengths v_s_looked v_s_lookedTooOften a_s_starts v_s_things_1 v_u_came_1 v_u_guesses_1 a_u_indexes v_u_marksMade_1 a_u_outcomes_1 v_u_right_1 v_u_taken_1 H locs ls (by first | assumption | omega | (intros; omega) | decide) (by first | assumption | omega | (intros; omega) | decide) (by first | assumption | omega | (intros; omega) | decide) (by first | assumption | omega | (intros; omega) | decide) (by first | assumption | omega | (intros; omega) | decide) (by first | assumption | omega | (intros; omega) | decide) (by first | assumption | omega | (intros; omega) | decide) (by first | assumption | exact aS.grow hw22_3 hw22_4 (by assumption)) (by first | assumption | omega | (intros; omega) | decide) (by omega) hP hD hS (lv_sub hl [1, 2, 0] rfl)

def rmX2_readProgram : Room := { frames := 200, cells := 306, slots := 2142, locals := 4000 }
set_option maxHeartbeats 4000000 in
set_option maxRecDepth 100000 in
theorem tX2_readProgram {l : Launch} {D : va_G} {K : Nat → Nat → Nat} {cs : Nat → ClassId} {q : Nat → Nat} {v_t_tapeSize v_t_textSize v_t_faultKind v_g_size v_h_size v_r_takes v_r_negative v_r_namePlace v_r_faultKind v_r_faultPlace v_a_size v_a_limit v_a_digits v_a_kind v_a_from v_a_to v_o_size v_b_size v_b_limit v_b_digits v_b_kind v_b_from v_b_to v_u_marksMade v_u_came v_u_guesses v_u_right v_u_taken v_s_things v_s_looked v_s_lookedTooOften v_s_arraysMade v_s_cellsMade : Int32} {a_t_tape a_t_text a_o_out a_u_outcomes a_u_indexes a_s_classes a_s_starts a_s_lengths a_vc : Nat → Int32} {a_g_beyond a_h_beyond a_r_scratch a_r_now a_u_atom a_u_other a_u_hand : Nat} {a_g_steps a_h_steps a_u_vars a_u_marks : Nat → Option Nat} {a_s_cells a_vd a_sj : Nat → Int64} {a_L : List Nat} {a_K a_iv a_inn : Nat → Nat} {a_si a_ac : Nat → Nat → Int32} (n9 : Int32) (p_0 : LI 3100 v_a_size v_a_limit v_a_digits v_a_kind v_a_from v_a_to) (p_1 : PI a_L a_K a_si a_iv a_inn) (p_2 : RF a_L a_K a_g_beyond a_h_beyond a_r_scratch a_g_steps a_h_steps a_u_atom a_u_other a_u_hand a_u_vars a_u_marks) (p_3 : aS a_L a_K a_r_now) : CtI l yX2_readProgram (wG yX2_readProgram cX2_readProgram 4 (some .boolean)) rmX2_readProgram D (twT cs) K [.ref (q 7), .int n9, .ref (q 5)] (tw cs q v_t_tapeSize v_t_textSize v_t_faultKind a_t_tape a_t_text a_g_beyond v_g_size a_g_steps a_h_beyond v_h_size a_h_steps a_r_scratch a_r_now v_r_takes v_r_negative v_r_namePlace v_r_faultKind v_r_faultPlace v_a_size v_a_limit v_a_digits v_a_kind v_a_from v_a_to v_o_size a_o_out v_b_size v_b_limit v_b_digits v_b_kind v_b_from v_b_to a_u_atom a_u_other a_u_hand v_u_marksMade v_u_came v_u_guesses v_u_right v_u_taken a_u_vars a_u_marks a_u_outcomes a_u_indexes v_s_things v_s_looked v_s_lookedTooOften v_s_arraysMade v_s_cellsMade a_s_classes a_s_starts a_s_lengths a_s_cells a_L a_K a_vc a_vd a_si a_sj a_iv a_inn a_ac) (fun r w1 => ∃ (v_h_size' : Int32) (a_h_steps' : Nat → Option Nat) (a_r_now' : Nat) (v_r_takes' : Int32) (v_r_negative' : Int32) (v_r_namePlace' : Int32) (v_r_faultKind' : Int32) (v_r_faultPlace' : Int32) (v_a_size' : Int32) (v_a_limit' : Int32) (v_a_digits' : Int32) (v_a_kind' : Int32) (v_a_from' : Int32) (v_a_to' : Int32) (a_L' : List Nat) (a_K' : Nat → Nat) (a_si' : Nat → Nat → Int32) (a_sj' : Nat → Int64) (a_iv' : Nat → Nat) (a_inn' : Nat → Nat) (a_ac' : Nat → Nat → Int32), w1 = (tw cs q v_t_tapeSize v_t_textSize v_t_faultKind a_t_tape a_t_text a_g_beyond v_g_size a_g_steps a_h_beyond v_h_size' a_h_steps' a_r_scratch a_r_now' v_r_takes' v_r_negative' v_r_namePlace' v_r_faultKind' v_r_faultPlace' v_a_size' v_a_limit' v_a_digits' v_a_kind' v_a_from' v_a_to' v_o_size a_o_out v_b_size v_b_limit v_b_digits v_b_kind v_b_from v_b_to a_u_atom a_u_other a_u_hand v_u_marksMade v_u_came v_u_guesses v_u_right v_u_taken a_u_vars a_u_marks a_u_outcomes a_u_indexes v_s_things v_s_looked v_s_lookedTooOften v_s_arraysMade v_s_cellsMade a_s_classes a_s_starts a_s_lengths a_s_cells a_L' a_K' a_vc a_vd a_si' a_sj' a_iv' a_inn' a_ac') ∧ (LI 3100 v_a_size' v_a_limit' v_a_digits' v_a_kind' v_a_from' v_a_to') ∧ (PI a_L' a_K' a_si' a_iv' a_inn') ∧ (RF a_L' a_K' a_g_beyond a_h_beyond a_r_scratch a_g_steps a_h_steps' a_u_atom a_u_other a_u_hand a_u_vars a_u_marks) ∧ (aS a_L' a_K' a_r_now') ∧ (r.toInt = 0 ∨ r.toInt = 1)) 306 2142 := by
  intro sz
  refine Met.ofW (cc := cX2_readProgram) (maxL := 4) (ret := (some .boolean)) (by decide) rfl ?_
  intro p e s m args below meth c s₁ B hml hv
  obtain ⟨rfl, hsz, hP, hK, hD0, hE⟩ := hv
  have hx := B.exec
  have hb := B.bytes
  have hr := B.returns
  have hts := atoms_spec (ws := (wG yX2_readProgram cX2_readProgram 4 (some .boolean))) B.pre
  have hown : s.vm.findClass RX2 = some m.cls := findClass_of_methodNamed B.named
  have hlocks := B.notSynchronized
  subst hsz
  have hD := hD0.self (sz := s.heap.size)
  obtain ⟨A, hAe⟩ : ∃ A : Nat → Prop, A = va_A (tw cs q v_t_tapeSize v_t_textSize v_t_faultKind a_t_tape a_t_text a_g_beyond v_g_size a_g_steps a_h_beyond v_h_size a_h_steps a_r_scratch a_r_now v_r_takes v_r_negative v_r_namePlace v_r_faultKind v_r_faultPlace v_a_size v_a_limit v_a_digits v_a_kind v_a_from v_a_to v_o_size a_o_out v_b_size v_b_limit v_b_digits v_b_kind v_b_from v_b_to a_u_atom a_u_other a_u_hand v_u_marksMade v_u_came v_u_guesses v_u_right v_u_taken a_u_vars a_u_marks a_u_outcomes a_u_indexes v_s_things v_s_looked v_s_lookedTooOften v_s_arraysMade v_s_cellsMade a_s_classes a_s_starts a_s_lengths a_s_cells a_L a_K a_vc a_vd a_si a_sj a_iv a_inn a_ac) s.heap.size := ⟨_, rfl⟩
  rw [← hAe] at hD hE
  have hA : ∀ q : Nat, s.heap.size ≤ q → A q := fun q h => by rw [hAe]; exact Or.inr h
  have hS : va_S A s.heap s.heap [] := va_S.rf
  have hl := lv_entry ([.ref (q 7), .int n9, .ref (q 5)]) (n := 4) (Nat.le_of_ble_eq_true rfl)
  rw [lg_entry_eq]
  generalize (lg_sl ([.ref (q 7), .int n9, .ref (q 5)]) ++ List.replicate (4 - (lg_sl ([.ref (q 7), .int n9, .ref (q 5)])).length) Slot.unset).toArray = ls at hl ⊢
  have hl : lv_has ls 4 [(0, .ref (q 7)), (1, .int n9), (2, .ref (q 5))] := hl
  refine wq (fun Q hQ => ?_)
  have hinX1 : ∀ w ∈ wsX10, w ∈ (wG yX2_readProgram cX2_readProgram 4 (some .boolean)) := fun w h => List.mem_cons_of_mem _ (inlX1 w h)
  have hinX2 : ∀ w ∈ wsX20, w ∈ (wG yX2_readProgram cX2_readProgram 4 (some .boolean)) := fun w h => List.mem_cons_of_mem _ (inlX2 w h)
  have hinX3 : ∀ w ∈ wsX30, w ∈ (wG yX2_readProgram cX2_readProgram 4 (some .boolean)) := fun w h => List.mem_cons_of_mem _ (inlX3 w h)
  have kc0 : (0 : Int32).toInt = 0 := by decide
  have kc1 : (1 : Int32).toInt = 1 := by decide
  have kc2 : (2 : Int32).toInt = 2 := by decide
  have kc3 : (4 : Int32).toInt = 4 := by decide
  have kc4 : (100 : Int32).toInt = 100 := by decide
  have kc5 : (3000 : Int32).toInt = 3000 := by decide
  have k_8_16 := hts (.fieldLink RX2 29 "ArrayTrainer$Program" "size" "I") (List.mem_cons_of_mem _ (wr8 _ (List.mem_of_getElem? (i := 16) rfl)))
  have k_3_14 := hts (.fieldLink RX2 22 "ArrayTrainer$Parser" "now" "LArrayTrainer$Step;") (List.mem_cons_of_mem _ (wr3 _ (List.mem_of_getElem? (i := 14) rfl)))
  have k_3_11 := hts (.fieldLink RX2 9 "ArrayTrainer$Parser" "lexer" "LArrayTrainer$Lexer;") (List.mem_cons_of_mem _ (wr3 _ (List.mem_of_getElem? (i := 11) rfl)))
  have k_8_18 := hts (.fieldLink RX2 52 "ArrayTrainer$Lexer" "from" "I") (List.mem_cons_of_mem _ (wr8 _ (List.mem_of_getElem? (i := 18) rfl)))
  have k_8_17 := hts (.fieldLink RX2 35 "ArrayTrainer$Lexer" "kind" "I") (List.mem_cons_of_mem _ (wr8 _ (List.mem_of_getElem? (i := 17) rfl)))
  obtain ⟨H, hH⟩ : ∃ H : Heap, H = s.heap := ⟨_, rfl⟩
  obtain ⟨locs, hlc⟩ : ∃ L : List Loc, L = [] := ⟨_, rfl⟩
  have hP : va_P D vwCl (tw cs q v_t_tapeSize v_t_textSize v_t_faultKind a_t_tape a_t_text a_g_beyond v_g_size a_g_steps a_h_beyond v_h_size a_h_steps a_r_scratch a_r_now v_r_takes v_r_negative v_r_namePlace v_r_faultKind v_r_faultPlace v_a_size v_a_limit v_a_digits v_a_kind v_a_from v_a_to v_o_size a_o_out v_b_size v_b_limit v_b_digits v_b_kind v_b_from v_b_to a_u_atom a_u_other a_u_hand v_u_marksMade v_u_came v_u_guesses v_u_right v_u_taken a_u_vars a_u_marks a_u_outcomes a_u_indexes v_s_things v_s_looked v_s_lookedTooOften v_s_arraysMade v_s_cellsMade a_s_classes a_s_starts a_s_lengths a_s_cells a_L a_K a_vc a_vd a_si a_sj a_iv a_inn a_ac) H := by rw [hH]; exact hP
  have hS : va_S A s.heap H locs := by rw [hH, hlc]; exact hS
  refine wHL hH hlc ?_
  have b_n9 := iB n9
  refine lv_aload_n hx hb dX2_readProgram_0 rfl (lv_at hl 0 rfl) ?_
  refine lv_iload_n hx hb dX2_readProgram_1 rfl (lv_at hl 1 rfl) ?_
  refine lv_sipush (v := 3000) hx hb dX2_readProgram_2 (by decide) ?_
  refine call_v (As := [.int n9, .int 3000]) (rest := []) ⟨hx, hb, hml, hown, hts⟩ (tX2_start (l := l) n9 (3000 : Int32) (by first | assumption | omega | (intros; omega) | decide) (by first | assumption | omega | (intros; omega) | decide) (by first | assumption | omega | (intros; omega) | decide)) (cwV 2 hts (gV (wr8 _ (List.mem_of_getElem? (i := 19) rfl)) (wr8 _ (List.mem_of_getElem? (i := 20) rfl)) (wr8 _ (List.mem_of_getElem? (i := 21) rfl)) (wr1 _ (List.mem_of_getElem? (i := 23) rfl)) (wr8 _ (List.mem_of_getElem? (i := 22) rfl))) rfl rfl rfl (by decide +kernel) ⟨Nat.le_of_ble_eq_true rfl, Nat.le_of_ble_eq_true rfl⟩) (va_recv hK hP (ci := 1) (q0 := 7) rfl rfl) hK hP hD hE hS hA rfl hl.1 rfl (Nat.le_of_ble_eq_true rfl) dX2_readProgram_5 ⟨by show _ ≤ 306; omega, by show _ ≤ 2142; omega⟩ (fun w9 H locs hw5 hP hD hS => ?_)
  obtain ⟨v_r_takes_5, v_r_negative_5, v_r_faultKind_5, v_r_faultPlace_5, v_a_size_5, v_a_limit_5, v_a_digits_5, v_a_kind_5, v_a_from_5, v_a_to_5, rfl, hw5_0⟩ := hw5
  have b_v_r_takes_5 := iB v_r_takes_5
  have b_v_r_negative_5 := iB v_r_negative_5
  have b_v_r_faultKind_5 := iB v_r_faultKind_5
  have b_v_r_faultPlace_5 := iB v_r_faultPlace_5
  have b_v_a_size_5 := iB v_a_size_5
  have b_v_a_limit_5 := iB v_a_limit_5
  have b_v_a_digits_5 := iB v_a_digits_5
  have b_v_a_kind_5 := iB v_a_kind_5
  have b_v_a_from_5 := iB v_a_from_5
  have b_v_a_to_5 := iB v_a_to_5
  refine lv_aload_n hx hb dX2_readProgram_8 rfl (lv_at hl 2 rfl) ?_
  refine lv_iconst (v := 0) hx hb dX2_readProgram_9 (by decide) ?_
  refine va_put (D := D) (ci := 2) (v := .int 0) (ty := .int) (C := RX3) (T := TX3) (N := 3) hx hb hts hinX3 tyX3 tyX3_ok nmX3 hown hK hP hD hS 5 rfl rfl 2 (by decide) k_8_16 (fun _ h9 => h9) rfl (by decide +kernel) rfl rfl (Nat.le_of_ble_eq_true rfl) dX2_readProgram_10 (fun H locs hP hD hS => ?_)
  have hP : va_P D vwCl (tw cs q v_t_tapeSize v_t_textSize v_t_faultKind a_t_tape a_t_text a_g_beyond v_g_size a_g_steps a_h_beyond (0 : Int32) a_h_steps a_r_scratch a_r_now v_r_takes_5 v_r_negative_5 v_r_namePlace v_r_faultKind_5 v_r_faultPlace_5 v_a_size_5 v_a_limit_5 v_a_digits_5 v_a_kind_5 v_a_from_5 v_a_to_5 v_o_size a_o_out v_b_size v_b_limit v_b_digits v_b_kind v_b_from v_b_to a_u_atom a_u_other a_u_hand v_u_marksMade v_u_came v_u_guesses v_u_right v_u_taken a_u_vars a_u_marks a_u_outcomes a_u_indexes v_s_things v_s_looked v_s_lookedTooOften v_s_arraysMade v_s_cellsMade a_s_classes a_s_starts a_s_lengths a_s_cells a_L a_K a_vc a_vd a_si a_sj a_iv a_inn a_ac) H := hP
  have hD : va_D A (tw cs q v_t_tapeSize v_t_textSize v_t_faultKind a_t_tape a_t_text a_g_beyond v_g_size a_g_steps a_h_beyond (0 : Int32) a_h_steps a_r_scratch a_r_now v_r_takes_5 v_r_negative_5 v_r_namePlace v_r_faultKind_5 v_r_faultPlace_5 v_a_size_5 v_a_limit_5 v_a_digits_5 v_a_kind_5 v_a_from_5 v_a_to_5 v_o_size a_o_out v_b_size v_b_limit v_b_digits v_b_kind v_b_from v_b_to a_u_atom a_u_other a_u_hand v_u_marksMade v_u_came v_u_guesses v_u_right v_u_taken a_u_vars a_u_marks a_u_outcomes a_u_indexes v_s_things v_s_looked v_s_lookedTooOften v_s_arraysMade v_s_cellsMade a_s_classes a_s_starts a_s_lengths a_s_cells a_L a_K a_vc a_vd a_si a_sj a_iv a_inn a_ac) := hD
  refine lv_iconst (v := 0) hx hb dX2_readProgram_13 (by decide) ?_
  refine lv_istore_n (lv' := [(3, .int 0), (0, .ref (q 7)), (1, .int n9), (2, .ref (q 5))]) hx hb dX2_readProgram_14 rfl hl (by decide) rfl (fun ls hl => ?_)
  have J15 : ∀ (n15 : Nat) (l3_15 : Int32) (a_K_15 : Nat → Nat) (a_L_15 : List Nat) (a_ac_15 : Nat → Nat → Int32) (a_iv_15 : Nat → Nat) (a_si_15 : Nat → Nat → Int32) (a_sj_15 : Nat → Int64) (a_inn_15 : Nat → Nat) (v_a_digits_15 : Int32) (v_a_from_15 : Int32) (v_a_kind_15 : Int32) (v_a_to_15 : Int32) (a_h_steps_15 : Nat → Option Nat) (v_r_faultKind_15 : Int32) (v_r_faultPlace_15 : Int32) (v_r_namePlace_15 : Int32) (v_r_negative_15 : Int32) (a_r_now_15 : Nat) (v_r_takes_15 : Int32) (H : Heap) (locs : List Loc) (ls : Array Slot), (0 ≤ l3_15.toInt) → (l3_15.toInt ≤ 101) → (LI 3100 v_a_size_5 v_a_limit_5 v_a_digits_15 v_a_kind_15 v_a_from_15 v_a_to_15) → (PI a_L_15 a_K_15 a_si_15 a_iv_15 a_inn_15) → (RF a_L_15 a_K_15 a_g_beyond a_h_beyond a_r_scratch a_g_steps a_h_steps_15 a_u_atom a_u_other a_u_hand a_u_vars a_u_marks) → (aS a_L_15 a_K_15 a_r_now_15) → (n15 ≤ 102) → (101 - l3_15.toInt < (n15 : Int)) → va_P D vwCl (tw cs q v_t_tapeSize v_t_textSize v_t_faultKind a_t_tape a_t_text a_g_beyond v_g_size a_g_steps a_h_beyond (0 : Int32) a_h_steps_15 a_r_scratch a_r_now_15 v_r_takes_15 v_r_negative_15 v_r_namePlace_15 v_r_faultKind_15 v_r_faultPlace_15 v_a_size_5 v_a_limit_5 v_a_digits_15 v_a_kind_15 v_a_from_15 v_a_to_15 v_o_size a_o_out v_b_size v_b_limit v_b_digits v_b_kind v_b_from v_b_to a_u_atom a_u_other a_u_hand v_u_marksMade v_u_came v_u_guesses v_u_right v_u_taken a_u_vars a_u_marks a_u_outcomes a_u_indexes v_s_things v_s_looked v_s_lookedTooOften v_s_arraysMade v_s_cellsMade a_s_classes a_s_starts a_s_lengths a_s_cells a_L_15 a_K_15 a_vc a_vd a_si_15 a_sj_15 a_iv_15 a_inn_15 a_ac_15) H → va_D A (tw cs q v_t_tapeSize v_t_textSize v_t_faultKind a_t_tape a_t_text a_g_beyond v_g_size a_g_steps a_h_beyond (0 : Int32) a_h_steps_15 a_r_scratch a_r_now_15 v_r_takes_15 v_r_negative_15 v_r_namePlace_15 v_r_faultKind_15 v_r_faultPlace_15 v_a_size_5 v_a_limit_5 v_a_digits_15 v_a_kind_15 v_a_from_15 v_a_to_15 v_o_size a_o_out v_b_size v_b_limit v_b_digits v_b_kind v_b_from v_b_to a_u_atom a_u_other a_u_hand v_u_marksMade v_u_came v_u_guesses v_u_right v_u_taken a_u_vars a_u_marks a_u_outcomes a_u_indexes v_s_things v_s_looked v_s_lookedTooOften v_s_arraysMade v_s_cellsMade a_s_classes a_s_starts a_s_lengths a_s_cells a_L_15 a_K_15 a_vc a_vd a_si_15 a_sj_15 a_iv_15 a_inn_15 a_ac_15) → va_S A s.heap H locs → lv_has ls 4 [(0, .ref (q 7)), (2, .ref (q 5)), (3, .int l3_15)] → W p l e (headSpec (wG yX2_readProgram cX2_readProgram 4 (some .boolean)) rmX2_readProgram).room s m ([.ref (q 7), .int n9, .ref (q 5)] : List Value).toArray below meth c H locs (3 * (102 - (n15))) (21 * (102 - (n15))) Q (F0 m 15 ls []) := by
    intro n15
    induction n15 with
    | zero =>
      intro l3_15 a_K_15 a_L_15 a_ac_15 a_iv_15 a_si_15 a_sj_15 a_inn_15 v_a_digits_15 v_a_from_15 v_a_kind_15 v_a_to_15 a_h_steps_15 v_r_faultKind_15 v_r_faultPlace_15 v_r_namePlace_15 v_r_negative_15 a_r_now_15 v_r_takes_15 H locs ls f15_0 f15_1 f15_2 f15_3 f15_4 f15_5 f15_6 hm15
      exfalso
      omega
    | succ n15 ih15 =>
      intro l3_15 a_K_15 a_L_15 a_ac_15 a_iv_15 a_si_15 a_sj_15 a_inn_15 v_a_digits_15 v_a_from_15 v_a_kind_15 v_a_to_15 a_h_steps_15 v_r_faultKind_15 v_r_faultPlace_15 v_r_namePlace_15 v_r_negative_15 a_r_now_15 v_r_takes_15 H locs ls f15_0 f15_1 f15_2 f15_3 f15_4 f15_5 f15_6 hm15 hP hD hS hl
      refine lv_iload_n hx hb dX2_readProgram_15 rfl (lv_at hl 2 rfl) ?_
      refine lv_bipush (v := 100) hx hb dX2_readProgram_16 (by decide) ?_
      refine m_icmp_gt (X := l3_15.toInt) (Y := 100) (tgt := 131) hx hb dX2_readProgram_18 (by decide) rfl (by decide) (fun c18 => ?_) (fun c18 => ?_)
      · skip
        refine lv_iconst (v := 0) hx hb dX2_readProgram_131 (by decide) ?_
        refine W.widen (k := 306) (n := 2142) (by omega) (by omega) ?_
        subst hAe
        rw [hQ]
        exact W.zret (v := 0) hx hb hr (by decide) (fun t ht hW => ⟨⟨0, _, rfl, ⟨(0 : Int32), a_h_steps_15, a_r_now_15, v_r_takes_15, v_r_negative_15, v_r_namePlace_15, v_r_faultKind_15, v_r_faultPlace_15, v_a_size_5, v_a_limit_5, v_a_digits_15, v_a_kind_15, v_a_from_15, v_a_to_15, a_L_15, a_K_15, a_si_15, a_sj_15, a_iv_15, a_inn_15, a_ac_15, rfl, by first | assumption | omega | (intros; omega) | decide, by first | assumption | omega | (intros; omega) | decide, by first | assumption | omega | (intros; omega) | decide, by first | assumption | omega | (intros; omega) | decide, by first | assumption | omega | (intros; omega) | decide⟩, by rw [ht]; exact hP, va_K.moved hW.alike hK, hD⟩, hS.F ht⟩) hS.2.2 dX2_readProgram_132
      · skip
        refine lv_iload_n hx hb dX2_readProgram_21 rfl (lv_at hl 2 rfl) ?_
        have J42 : ∀ (H : Heap) (locs : List Loc) (ls : Array Slot), va_P D vwCl (tw cs q v_t_tapeSize v_t_textSize v_t_faultKind a_t_tape a_t_text a_g_beyond v_g_size a_g_steps a_h_beyond (0 : Int32) a_h_steps_15 a_r_scratch a_r_now_15 v_r_takes_15 v_r_negative_15 v_r_namePlace_15 v_r_faultKind_15 v_r_faultPlace_15 v_a_size_5 v_a_limit_5 v_a_digits_15 v_a_kind_15 v_a_from_15 v_a_to_15 v_o_size a_o_out v_b_size v_b_limit v_b_digits v_b_kind v_b_from v_b_to a_u_atom a_u_other a_u_hand v_u_marksMade v_u_came v_u_guesses v_u_right v_u_taken a_u_vars a_u_marks a_u_outcomes a_u_indexes v_s_things v_s_looked v_s_lookedTooOften v_s_arraysMade v_s_cellsMade a_s_classes a_s_starts a_s_lengths a_s_cells a_L_15 a_K_15 a_vc a_vd a_si_15 a_sj_15 a_iv_15 a_inn_15 a_ac_15) H → va_D A (tw cs q v_t_tapeSize v_t_textSize v_t_faultKind a_t_tape a_t_text a_g_beyond v_g_size a_g_steps a_h_beyond (0 : Int32) a_h_steps_15 a_r_scratch a_r_now_15 v_r_takes_15 v_r_negative_15 v_r_namePlace_15 v_r_faultKind_15 v_r_faultPlace_15 v_a_size_5 v_a_limit_5 v_a_digits_15 v_a_kind_15 v_a_from_15 v_a_to_15 v_o_size a_o_out v_b_size v_b_limit v_b_digits v_b_kind v_b_from v_b_to a_u_atom a_u_other a_u_hand v_u_marksMade v_u_came v_u_guesses v_u_right v_u_taken a_u_vars a_u_marks a_u_outcomes a_u_indexes v_s_things v_s_looked v_s_lookedTooOften v_s_arraysMade v_s_cellsMade a_s_classes a_s_starts a_s_lengths a_s_cells a_L_15 a_K_15 a_vc a_vd a_si_15 a_sj_15 a_iv_15 a_inn_15 a_ac_15) → va_S A s.heap H locs → lv_has ls 4 [(0, .ref (q 7)), (2, .ref (q 5)), (3, .int l3_15)] → W p l e (headSpec (wG yX2_readProgram cX2_readProgram 4 (some .boolean)) rmX2_readProgram).room s m ([.ref (q 7), .int n9, .ref (q 5)] : List Value).toArray below meth c H locs (3 * (102 - (n15 + 1))) (21 * (102 - (n15 + 1))) Q (F0 m 42 ls []) := by
          intro H locs ls hP hD hS hl
          refine lv_iload_n hx hb dX2_readProgram_42 rfl (lv_at hl 2 rfl) ?_
          refine lv_bipush (v := 100) hx hb dX2_readProgram_43 (by decide) ?_
          refine m_icmp_ne (X := l3_15.toInt) (Y := 100) (tgt := 65) hx hb dX2_readProgram_45 (by decide) rfl (by decide) (fun c45 => ?_) (fun c45 => ?_)
          · skip
            refine lv_aload_n hx hb dX2_readProgram_65 rfl (lv_at hl 0 rfl) ?_
            refine lv_aload_n hx hb dX2_readProgram_66 rfl (lv_at hl 1 rfl) ?_
            refine lv_iload_n hx hb dX2_readProgram_67 rfl (lv_at hl 2 rfl) ?_
            refine call_r (As := [.int l3_15]) (rest := [.ref (q 7)]) ⟨hx, hb, hml, hown, hts⟩ (tX3_stepAt_qh (l := l) l3_15 (by first | assumption | omega | (intros; omega) | decide) (by first | assumption | omega | (intros; omega) | decide)) (cwV 1 hts (gV (wr16 _ (List.mem_of_getElem? (i := 0) rfl)) (wr16 _ (List.mem_of_getElem? (i := 1) rfl)) (wr16 _ (List.mem_of_getElem? (i := 2) rfl)) (wr1 _ (List.mem_of_getElem? (i := 18) rfl)) (wr16 _ (List.mem_of_getElem? (i := 3) rfl))) rfl rfl rfl (by decide +kernel) ⟨Nat.le_of_ble_eq_true rfl, Nat.le_of_ble_eq_true rfl⟩) (va_recv hK hP (ci := 2) (q0 := 5) rfl rfl) hK hP hD hE hS hA rfl hl.1 rfl (Nat.le_of_ble_eq_true rfl) dX2_readProgram_68 ⟨by show _ ≤ 306; omega, by show _ ≤ 2142; omega⟩ (fun r68 w9 H locs hw68 hP hD hS => ?_)
            obtain ⟨a_h_steps_68, a_L_68, a_K_68, a_si_68, a_sj_68, a_iv_68, a_inn_68, a_ac_68, rfl, hw68_0, hw68_1, hw68_2, hw68_3, hw68_4⟩ := hw68
            refine va_put (D := D) (ci := 1) (v := .ref r68) (ty := (.object "ArrayTrainer$Step")) (C := RX2) (T := TX2) (N := 8) hx hb hts hinX2 tyX2 tyX2_ok nmX2 hown hK hP hD hS 7 rfl rfl 2 (by decide) k_3_14 (fun _ h9 => h9) rfl (by decide +kernel) rfl rfl (Nat.le_of_ble_eq_true rfl) dX2_readProgram_71 (fun H locs hP hD hS => ?_)
            have hP : va_P D vwCl (tw cs q v_t_tapeSize v_t_textSize v_t_faultKind a_t_tape a_t_text a_g_beyond v_g_size a_g_steps a_h_beyond (0 : Int32) a_h_steps_68 a_r_scratch r68 v_r_takes_15 v_r_negative_15 v_r_namePlace_15 v_r_faultKind_15 v_r_faultPlace_15 v_a_size_5 v_a_limit_5 v_a_digits_15 v_a_kind_15 v_a_from_15 v_a_to_15 v_o_size a_o_out v_b_size v_b_limit v_b_digits v_b_kind v_b_from v_b_to a_u_atom a_u_other a_u_hand v_u_marksMade v_u_came v_u_guesses v_u_right v_u_taken a_u_vars a_u_marks a_u_outcomes a_u_indexes v_s_things v_s_looked v_s_lookedTooOften v_s_arraysMade v_s_cellsMade a_s_classes a_s_starts a_s_lengths a_s_cells a_L_68 a_K_68 a_vc a_vd a_si_68 a_sj_68 a_iv_68 a_inn_68 a_ac_68) H := hP
            have hD : va_D A (tw cs q v_t_tapeSize v_t_textSize v_t_faultKind a_t_tape a_t_text a_g_beyond v_g_size a_g_steps a_h_beyond (0 : Int32) a_h_steps_68 a_r_scratch r68 v_r_takes_15 v_r_negative_15 v_r_namePlace_15 v_r_faultKind_15 v_r_faultPlace_15 v_a_size_5 v_a_limit_5 v_a_digits_15 v_a_kind_15 v_a_from_15 v_a_to_15 v_o_size a_o_out v_b_size v_b_limit v_b_digits v_b_kind v_b_from v_b_to a_u_atom a_u_other a_u_hand v_u_marksMade v_u_came v_u_guesses v_u_right v_u_taken a_u_vars a_u_marks a_u_outcomes a_u_indexes v_s_things v_s_looked v_s_lookedTooOften v_s_arraysMade v_s_cellsMade a_s_classes a_s_starts a_s_lengths a_s_cells a_L_68 a_K_68 a_vc a_vd a_si_68 a_sj_68 a_iv_68 a_inn_68 a_ac_68) := hD
            refine lv_aload_n hx hb dX2_readProgram_74 rfl (lv_at hl 0 rfl) ?_
            have hf75 : aS a_L_68 a_K_68 r68 := by first | assumption
            refine va_get (D := D) (ci := 1) (v := .ref r68) (C := RX2) (T := TX2) (N := 8) hx hb hts hinX2 hown hK hP 7 rfl rfl 2 (by decide) k_3_14 (fun _ h9 => h9) rfl dX2_readProgram_75 ?_
            refine lv_aload_n hx hb dX2_readProgram_78 rfl (lv_at hl 0 rfl) ?_
            refine va_get (D := D) (ci := 1) (v := .ref (q 8)) (C := RX2) (T := TX2) (N := 8) hx hb hts hinX2 hown hK hP 7 rfl rfl 0 (by decide) k_3_11 (fun _ h9 => h9) rfl dX2_readProgram_79 ?_
            refine va_get (D := D) (ci := 0) (v := .int v_a_from_15) (C := RX1) (T := TX1) (N := 7) hx hb hts hinX1 hown hK hP 8 rfl rfl 5 (by decide) k_8_18 (fun _ h9 => h9) rfl dX2_readProgram_82 ?_
            obtain ⟨k85_, hk85_⟩ := pl_S (X := (twX cs q v_t_tapeSize v_t_textSize v_t_faultKind a_t_tape a_t_text a_g_beyond v_g_size a_g_steps a_h_beyond (0 : Int32) a_h_steps_68 a_r_scratch r68 v_r_takes_15 v_r_negative_15 v_r_namePlace_15 v_r_faultKind_15 v_r_faultPlace_15 v_a_size_5 v_a_limit_5 v_a_digits_15 v_a_kind_15 v_a_from_15 v_a_to_15 v_o_size a_o_out v_b_size v_b_limit v_b_digits v_b_kind v_b_from v_b_to a_u_atom a_u_other a_u_hand v_u_marksMade v_u_came v_u_guesses v_u_right v_u_taken a_u_vars a_u_marks a_u_outcomes a_u_indexes v_s_things v_s_looked v_s_lookedTooOften v_s_arraysMade v_s_cellsMade a_s_classes a_s_starts a_s_lengths a_s_cells)) (cI := cs 0) (vc := a_vc) (vd := a_vd) (si := a_si_68) (sj := a_sj_68) (iv := a_iv_68) (inn := a_inn_68) (ac := a_ac_68) hf75
            refine call_v (As := [.int v_a_from_15]) (rest := []) ⟨hx, hb, hml, hown, hts⟩ (tX6_clear (l := l) r68 hf75 v_a_from_15 (by first | assumption | omega | (intros; omega) | decide)) (cwV 1 hts (gV (wr16 _ (List.mem_of_getElem? (i := 4) rfl)) (wr16 _ (List.mem_of_getElem? (i := 5) rfl)) (wr16 _ (List.mem_of_getElem? (i := 6) rfl)) (wr2 _ (List.mem_of_getElem? (i := 18) rfl)) (wr16 _ (List.mem_of_getElem? (i := 7) rfl))) rfl rfl rfl (by decide +kernel) ⟨Nat.le_of_ble_eq_true rfl, Nat.le_of_ble_eq_true rfl⟩) (va_recv hK hP (ci := 5) (q0 := k85_) rfl hk85_) hK hP hD hE hS hA rfl hl.1 rfl (Nat.le_of_ble_eq_true rfl) dX2_readProgram_85 ⟨by show _ ≤ 306; omega, by show _ ≤ 2142; omega⟩ (fun w9 H locs hw85 hP hD hS => ?_)
            obtain ⟨a_si_85, a_sj_85, rfl, hw85_0⟩ := hw85
            refine lv_aload_n hx hb dX2_readProgram_88 rfl (lv_at hl 0 rfl) ?_
            refine call_i (As := []) (rest := []) ⟨hx, hb, hml, hown, hts⟩ (tX2_readGuess (l := l)  (by first | assumption | omega | (intros; omega) | decide) (by first | assumption | omega | (intros; omega) | decide) (by first | assumption | omega | (intros; omega) | decide)) (cwV 0 hts (gV (wr16 _ (List.mem_of_getElem? (i := 21) rfl)) (wr16 _ (List.mem_of_getElem? (i := 22) rfl)) (wr16 _ (List.mem_of_getElem? (i := 23) rfl)) (wr1 _ (List.mem_of_getElem? (i := 23) rfl)) (wr17 _ (List.mem_of_getElem? (i := 0) rfl))) rfl rfl rfl (by decide +kernel) ⟨Nat.le_of_ble_eq_true rfl, Nat.le_of_ble_eq_true rfl⟩) (va_recv hK hP (ci := 1) (q0 := 7) rfl rfl) hK hP hD hE hS hA rfl hl.1 rfl (Nat.le_of_ble_eq_true rfl) dX2_readProgram_89 ⟨by show _ ≤ 306; omega, by show _ ≤ 2142; omega⟩ (fun r89 w9 H locs hw89 hP hD hS => ?_)
            obtain ⟨v_r_faultKind_89, v_r_faultPlace_89, v_a_digits_89, v_a_kind_89, v_a_from_89, v_a_to_89, a_si_89, rfl, hw89_0, hw89_1, hw89_2⟩ := hw89
            have b_v_r_faultKind_89 := iB v_r_faultKind_89
            have b_v_r_faultPlace_89 := iB v_r_faultPlace_89
            have b_v_a_digits_89 := iB v_a_digits_89
            have b_v_a_kind_89 := iB v_a_kind_89
            have b_v_a_from_89 := iB v_a_from_89
            have b_v_a_to_89 := iB v_a_to_89
            have b_r89 := iB r89
            refine m_if_eq (X := r89.toInt) (tgt := 123) hx hb dX2_readProgram_92 (by decide) rfl (fun c92 => ?_) (fun c92 => ?_)
            · skip
              refine lv_iconst (v := 0) hx hb dX2_readProgram_123 (by decide) ?_
              refine W.widen (k := 306) (n := 2142) (by omega) (by omega) ?_
              subst hAe
              rw [hQ]
              exact W.zret (v := 0) hx hb hr (by decide) (fun t ht hW => ⟨⟨0, _, rfl, ⟨(0 : Int32), a_h_steps_68, r68, v_r_takes_15, v_r_negative_15, v_r_namePlace_15, v_r_faultKind_89, v_r_faultPlace_89, v_a_size_5, v_a_limit_5, v_a_digits_89, v_a_kind_89, v_a_from_89, v_a_to_89, a_L_68, a_K_68, a_si_89, a_sj_85, a_iv_68, a_inn_68, a_ac_68, rfl, by first | assumption | omega | (intros; omega) | decide, by first | assumption | omega | (intros; omega) | decide, by first | assumption | omega | (intros; omega) | decide, by first | assumption | omega | (intros; omega) | decide, by first | assumption | omega | (intros; omega) | decide⟩, by rw [ht]; exact hP, va_K.moved hW.alike hK, hD⟩, hS.F ht⟩) hS.2.2 dX2_readProgram_124
            · skip
              refine lv_aload_n hx hb dX2_readProgram_95 rfl (lv_at hl 0 rfl) ?_
              refine call_i (As := []) (rest := []) ⟨hx, hb, hml, hown, hts⟩ (tX2_readTake (l := l)  (by first | assumption | omega | (intros; omega) | decide) (by first | assumption | omega | (intros; omega) | decide) (by first | assumption | omega | (intros; omega) | decide)) (cwV 0 hts (gV (wr17 _ (List.mem_of_getElem? (i := 6) rfl)) (wr17 _ (List.mem_of_getElem? (i := 7) rfl)) (wr17 _ (List.mem_of_getElem? (i := 8) rfl)) (wr1 _ (List.mem_of_getElem? (i := 23) rfl)) (wr17 _ (List.mem_of_getElem? (i := 9) rfl))) rfl rfl rfl (by decide +kernel) ⟨Nat.le_of_ble_eq_true rfl, Nat.le_of_ble_eq_true rfl⟩) (va_recv hK hP (ci := 1) (q0 := 7) rfl rfl) hK hP hD hE hS hA rfl hl.1 rfl (Nat.le_of_ble_eq_true rfl) dX2_readProgram_96 ⟨by show _ ≤ 306; omega, by show _ ≤ 2142; omega⟩ (fun r96 w9 H locs hw96 hP hD hS => ?_)
              obtain ⟨v_r_takes_96, v_r_faultKind_96, v_r_faultPlace_96, v_a_digits_96, v_a_kind_96, v_a_from_96, v_a_to_96, a_si_96, rfl, hw96_0, hw96_1, hw96_2⟩ := hw96
              have b_v_r_takes_96 := iB v_r_takes_96
              have b_v_r_faultKind_96 := iB v_r_faultKind_96
              have b_v_r_faultPlace_96 := iB v_r_faultPlace_96
              have b_v_a_digits_96 := iB v_a_digits_96
              have b_v_a_kind_96 := iB v_a_kind_96
              have b_v_a_from_96 := iB v_a_from_96
              have b_v_a_to_96 := iB v_a_to_96
              have b_r96 := iB r96
              refine m_if_eq (X := r96.toInt) (tgt := 123) hx hb dX2_readProgram_99 (by decide) rfl (fun c99 => ?_) (fun c99 => ?_)
              · skip
                refine lv_iconst (v := 0) hx hb dX2_readProgram_123 (by decide) ?_
                refine W.widen (k := 306) (n := 2142) (by omega) (by omega) ?_
                subst hAe
                rw [hQ]
                exact W.zret (v := 0) hx hb hr (by decide) (fun t ht hW => ⟨⟨0, _, rfl, ⟨(0 : Int32), a_h_steps_68, r68, v_r_takes_96, v_r_negative_15, v_r_namePlace_15, v_r_faultKind_96, v_r_faultPlace_96, v_a_size_5, v_a_limit_5, v_a_digits_96, v_a_kind_96, v_a_from_96, v_a_to_96, a_L_68, a_K_68, a_si_96, a_sj_85, a_iv_68, a_inn_68, a_ac_68, rfl, by first | assumption | omega | (intros; omega) | decide, by first | assumption | omega | (intros; omega) | decide, by first | assumption | omega | (intros; omega) | decide, by first | assumption | omega | (intros; omega) | decide, by first | assumption | omega | (intros; omega) | decide⟩, by rw [ht]; exact hP, va_K.moved hW.alike hK, hD⟩, hS.F ht⟩) hS.2.2 dX2_readProgram_124
              · skip
                refine lv_aload_n hx hb dX2_readProgram_102 rfl (lv_at hl 0 rfl) ?_
                refine call_i (As := []) (rest := []) ⟨hx, hb, hml, hown, hts⟩ (tX2_readHead (l := l)  (by first | assumption | omega | (intros; omega) | decide) (by first | assumption | omega | (intros; omega) | decide) (by first | assumption | omega | (intros; omega) | decide)) (cwV 0 hts (gV (wr17 _ (List.mem_of_getElem? (i := 11) rfl)) (wr17 _ (List.mem_of_getElem? (i := 12) rfl)) (wr17 _ (List.mem_of_getElem? (i := 13) rfl)) (wr1 _ (List.mem_of_getElem? (i := 23) rfl)) (wr17 _ (List.mem_of_getElem? (i := 14) rfl))) rfl rfl rfl (by decide +kernel) ⟨Nat.le_of_ble_eq_true rfl, Nat.le_of_ble_eq_true rfl⟩) (va_recv hK hP (ci := 1) (q0 := 7) rfl rfl) hK hP hD hE hS hA rfl hl.1 rfl (Nat.le_of_ble_eq_true rfl) dX2_readProgram_103 ⟨by show _ ≤ 306; omega, by show _ ≤ 2142; omega⟩ (fun r103 w9 H locs hw103 hP hD hS => ?_)
                obtain ⟨v_r_faultKind_103, v_r_faultPlace_103, v_a_digits_103, v_a_kind_103, v_a_from_103, v_a_to_103, a_si_103, rfl, hw103_0, hw103_1, hw103_2⟩ := hw103
                have b_v_r_faultKind_103 := iB v_r_faultKind_103
                have b_v_r_faultPlace_103 := iB v_r_faultPlace_103
                have b_v_a_digits_103 := iB v_a_digits_103
                have b_v_a_kind_103 := iB v_a_kind_103
                have b_v_a_from_103 := iB v_a_from_103
                have b_v_a_to_103 := iB v_a_to_103
                have b_r103 := iB r103
                refine m_if_eq (X := r103.toInt) (tgt := 123) hx hb dX2_readProgram_106 (by decide) rfl (fun c106 => ?_) (fun c106 => ?_)
                · skip
                  refine lv_iconst (v := 0) hx hb dX2_readProgram_123 (by decide) ?_
                  refine W.widen (k := 306) (n := 2142) (by omega) (by omega) ?_
                  subst hAe
                  rw [hQ]
                  exact W.zret (v := 0) hx hb hr (by decide) (fun t ht hW => ⟨⟨0, _, rfl, ⟨(0 : Int32), a_h_steps_68, r68, v_r_takes_96, v_r_negative_15, v_r_namePlace_15, v_r_faultKind_103, v_r_faultPlace_103, v_a_size_5, v_a_limit_5, v_a_digits_103, v_a_kind_103, v_a_from_103, v_a_to_103, a_L_68, a_K_68, a_si_103, a_sj_85, a_iv_68, a_inn_68, a_ac_68, rfl, by first | assumption | omega | (intros; omega) | decide, by first | assumption | omega | (intros; omega) | decide, by first | assumption | omega | (intros; omega) | decide, by first | assumption | omega | (intros; omega) | decide, by first | assumption | omega | (intros; omega) | decide⟩, by rw [ht]; exact hP, va_K.moved hW.alike hK, hD⟩, hS.F ht⟩) hS.2.2 dX2_readProgram_124
                · skip
                  refine lv_aload_n hx hb dX2_readProgram_109 rfl (lv_at hl 0 rfl) ?_
                  refine lv_aload_n hx hb dX2_readProgram_110 rfl (lv_at hl 0 rfl) ?_
                  have hf111 : aS a_L_68 a_K_68 r68 := by first | assumption
                  refine va_get (D := D) (ci := 1) (v := .ref r68) (C := RX2) (T := TX2) (N := 8) hx hb hts hinX2 hown hK hP 7 rfl rfl 2 (by decide) k_3_14 (fun _ h9 => h9) rfl dX2_readProgram_111 ?_
                  refine call_rS (As := [.ref r68]) (rest := [.ref (q 7)]) ⟨hx, hb, hml, hown, hts⟩ (tX2_partsOf (l := l) r68 hf111) (va_cwS 1 hts (gS (wr18 _ (List.mem_of_getElem? (i := 6) rfl)) (wr18 _ (List.mem_of_getElem? (i := 7) rfl)) (wr1 _ (List.mem_of_getElem? (i := 23) rfl)) (wr18 _ (List.mem_of_getElem? (i := 8) rfl))) rfl rfl rfl (by decide +kernel) ⟨Nat.le_of_ble_eq_true rfl, Nat.le_of_ble_eq_true rfl⟩) hK hP hD hE hS hA rfl hl.1 rfl (Nat.le_of_ble_eq_true rfl) dX2_readProgram_114 ⟨by show _ ≤ 306; omega, by show _ ≤ 2142; omega⟩ (fun r114 w9 H locs hw114 hP hD hS => ?_)
                  obtain ⟨rfl, i_r114, tx_r114, rfl, so_r114⟩ := hw114
                  have ln_r114 := sOf_len so_r114
                  refine call_i (As := [.ref (K 0 i_r114)]) (rest := []) ⟨hx, hb, hml, hown, hts⟩ (tX2_readParts (l := l) i_r114 so_r114 (by first | assumption | omega | (intros; omega) | decide) (by first | assumption | omega | (intros; omega) | decide) (by first | assumption | omega | (intros; omega) | decide)) (cwV 1 hts (gV (wr18 _ (List.mem_of_getElem? (i := 9) rfl)) (wr18 _ (List.mem_of_getElem? (i := 10) rfl)) (wr18 _ (List.mem_of_getElem? (i := 11) rfl)) (wr1 _ (List.mem_of_getElem? (i := 23) rfl)) (wr18 _ (List.mem_of_getElem? (i := 12) rfl))) rfl rfl rfl (by decide +kernel) ⟨Nat.le_of_ble_eq_true rfl, Nat.le_of_ble_eq_true rfl⟩) (va_recv hK hP (ci := 1) (q0 := 7) rfl rfl) hK hP hD hE hS hA rfl hl.1 rfl (Nat.le_of_ble_eq_true rfl) dX2_readProgram_117 ⟨by show _ ≤ 306; omega, by show _ ≤ 2142; omega⟩ (fun r117 w9 H locs hw117 hP hD hS => ?_)
                  obtain ⟨v_r_negative_117, v_r_namePlace_117, v_r_faultKind_117, v_r_faultPlace_117, v_a_digits_117, v_a_kind_117, v_a_from_117, v_a_to_117, a_si_117, a_sj_117, a_ac_117, rfl, hw117_0, hw117_1, hw117_2⟩ := hw117
                  have b_v_r_negative_117 := iB v_r_negative_117
                  have b_v_r_namePlace_117 := iB v_r_namePlace_117
                  have b_v_r_faultKind_117 := iB v_r_faultKind_117
                  have b_v_r_faultPlace_117 := iB v_r_faultPlace_117
                  have b_v_a_digits_117 := iB v_a_digits_117
                  have b_v_a_kind_117 := iB v_a_kind_117
                  have b_v_a_from_117 := iB v_a_from_117
                  have b_v_a_to_117 := iB v_a_to_117
                  have b_r117 := iB r117
                  refine m_if_ne (X := r117.toInt) (tgt := 125) hx hb dX2_readProgram_120 (by decide) rfl (fun c120 => ?_) (fun c120 => ?_)
                  · skip
                    obtain ⟨x125, e_x125⟩ : ∃ z : Int32, z = l3_15 + (1 : Int32) := ⟨_, rfl⟩
                    obtain ⟨k_x125, g_x125⟩ : ∃ k : Int, x125.toInt = l3_15.toInt + (1) + k * 4294967296 := by rw [e_x125]; exact iAdd l3_15 (1)
                    have b_x125 := iB x125
                    try (have q_x125 : x125.toInt = l3_15.toInt + (1) := (by omega); clear g_x125 k_x125)
                    refine lv_iinc (v := x125) (lv' := [(3, .int x125), (0, .ref (q 7)), (2, .ref (q 5))]) hx hb dX2_readProgram_125 hl (k := 2) rfl (by rw [e_x125]; rfl) (by decide) rfl (fun ls hl => ?_)
                    refine lv_goto (tgt := 15) hx hb dX2_readProgram_128 (by decide) ?_
                    refine W.widen (k := 3 * (102 - (n15))) (n := 21 * (102 - (n15))) (by omega) (by omega) ?_
                    exact ih15 x125 a_K_68 a_L_68 a_ac_117 a_iv_68 a_si_117 a_sj_117 a_inn_68 v_a_digits_117 v_a_from_117 v_a_kind_117 v_a_to_117 a_h_steps_68 v_r_faultKind_117 v_r_faultPlace_117 v_r_namePlace_117 v_r_negative_117 r68 v_r_takes_96 H locs ls (by first | assumption | omega | (intros; omega) | decide) (by first | assumption | omega | (intros; omega) | decide) (by first | assumption | omega | (intros; omega) | decide) (by first | assumption | omega | (intros; omega) | decide) (by first | assumption | omega | (intros; omega) | decide) (by first | assumption | omega | (intros; omega) | decide) (by first | assumption | omega | (intros; omega) | decide) (by omega) hP hD hS (lv_sub hl [1, 2, 0] rfl)
                  · skip
                    refine lv_iconst (v := 0) hx hb dX2_readProgram_123 (by decide) ?_
                    refine W.widen (k := 306) (n := 2142) (by omega) (by omega) ?_
                    subst hAe
                    rw [hQ]
                    exact W.zret (v := 0) hx hb hr (by decide) (fun t ht hW => ⟨⟨0, _, rfl, ⟨(0 : Int32), a_h_steps_68, r68, v_r_takes_96, v_r_negative_117, v_r_namePlace_117, v_r_faultKind_117, v_r_faultPlace_117, v_a_size_5, v_a_limit_5, v_a_digits_117, v_a_kind_117, v_a_from_117, v_a_to_117, a_L_68, a_K_68, a_si_117, a_sj_117, a_iv_68, a_inn_68, a_ac_117, rfl, by first | assumption | omega | (intros; omega) | decide, by first | assumption | omega | (intros; omega) | decide, by first | assumption | omega | (intros; omega) | decide, by first | assumption | omega | (intros; omega) | decide, by first | assumption | omega | (intros; omega) | decide⟩, by rw [ht]; exact hP, va_K.moved hW.alike hK, hD⟩, hS.F ht⟩) hS.2.2 dX2_readProgram_124
          · skip
            refine lv_aload_n hx hb dX2_readProgram_48 rfl (lv_at hl 0 rfl) ?_
            refine lv_aload_n hx hb dX2_readProgram_49 rfl (lv_at hl 0 rfl) ?_
            refine call_i (As := []) (rest := [.ref (q 7)]) ⟨hx, hb, hml, hown, hts⟩ (tX2_canBegin (l := l)  (by first | assumption | omega | (intros; omega) | decide)) (cwV 0 hts (gV (wr13 _ (List.mem_of_getElem? (i := 23) rfl)) (wr14 _ (List.mem_of_getElem? (i := 0) rfl)) (wr14 _ (List.mem_of_getElem? (i := 1) rfl)) (wr1 _ (List.mem_of_getElem? (i := 23) rfl)) (wr14 _ (List.mem_of_getElem? (i := 2) rfl))) rfl rfl rfl (by decide +kernel) ⟨Nat.le_of_ble_eq_true rfl, Nat.le_of_ble_eq_true rfl⟩) (va_recv hK hP (ci := 1) (q0 := 7) rfl rfl) hK hP hD hE hS hA rfl hl.1 rfl (Nat.le_of_ble_eq_true rfl) dX2_readProgram_50 ⟨by show _ ≤ 306; omega, by show _ ≤ 2142; omega⟩ (fun r50 w9 H locs hw50 hP hD hS => ?_)
            obtain ⟨rfl, hw50_0⟩ := hw50
            have b_r50 := iB r50
            refine m_if_eq (X := r50.toInt) (tgt := 60) hx hb dX2_readProgram_53 (by decide) rfl (fun c53 => ?_) (fun c53 => ?_)
            · skip
              refine lv_iconst (v := 2) hx hb dX2_readProgram_60 (by decide) ?_
              refine call_i (As := [.int 2]) (rest := []) ⟨hx, hb, hml, hown, hts⟩ (tX2_refuse (l := l) (2 : Int32)) (cwV 1 hts (gV (wr15 _ (List.mem_of_getElem? (i := 20) rfl)) (wr15 _ (List.mem_of_getElem? (i := 21) rfl)) (wr15 _ (List.mem_of_getElem? (i := 22) rfl)) (wr1 _ (List.mem_of_getElem? (i := 23) rfl)) (wr15 _ (List.mem_of_getElem? (i := 23) rfl))) rfl rfl rfl (by decide +kernel) ⟨Nat.le_of_ble_eq_true rfl, Nat.le_of_ble_eq_true rfl⟩) (va_recv hK hP (ci := 1) (q0 := 7) rfl rfl) hK hP hD hE hS hA rfl hl.1 rfl (Nat.le_of_ble_eq_true rfl) dX2_readProgram_61 ⟨by show _ ≤ 306; omega, by show _ ≤ 2142; omega⟩ (fun r61 w9 H locs hw61 hP hD hS => ?_)
              obtain ⟨v_r_faultKind_61, v_r_faultPlace_61, rfl, hw61_0⟩ := hw61
              have b_v_r_faultKind_61 := iB v_r_faultKind_61
              have b_v_r_faultPlace_61 := iB v_r_faultPlace_61
              have b_r61 := iB r61
              refine W.widen (k := 306) (n := 2142) (by omega) (by omega) ?_
              subst hAe
              rw [hQ]
              exact W.zret (v := r61) hx hb hr (nbool (by first | omega | decide)) (fun t ht hW => ⟨⟨r61, _, rfl, ⟨(0 : Int32), a_h_steps_15, a_r_now_15, v_r_takes_15, v_r_negative_15, v_r_namePlace_15, v_r_faultKind_61, v_r_faultPlace_61, v_a_size_5, v_a_limit_5, v_a_digits_15, v_a_kind_15, v_a_from_15, v_a_to_15, a_L_15, a_K_15, a_si_15, a_sj_15, a_iv_15, a_inn_15, a_ac_15, rfl, by first | assumption | omega | (intros; omega) | decide, by first | assumption | omega | (intros; omega) | decide, by first | assumption | omega | (intros; omega) | decide, by first | assumption | omega | (intros; omega) | decide, by first | assumption | omega | (intros; omega) | decide⟩, by rw [ht]; exact hP, va_K.moved hW.alike hK, hD⟩, hS.F ht⟩) hS.2.2 dX2_readProgram_64
            · skip
              refine lv_iconst (v := 4) hx hb dX2_readProgram_56 (by decide) ?_
              refine lv_goto (tgt := 61) hx hb dX2_readProgram_57 (by decide) ?_
              refine call_i (As := [.int 4]) (rest := []) ⟨hx, hb, hml, hown, hts⟩ (tX2_refuse (l := l) (4 : Int32)) (cwV 1 hts (gV (wr15 _ (List.mem_of_getElem? (i := 20) rfl)) (wr15 _ (List.mem_of_getElem? (i := 21) rfl)) (wr15 _ (List.mem_of_getElem? (i := 22) rfl)) (wr1 _ (List.mem_of_getElem? (i := 23) rfl)) (wr15 _ (List.mem_of_getElem? (i := 23) rfl))) rfl rfl rfl (by decide +kernel) ⟨Nat.le_of_ble_eq_true rfl, Nat.le_of_ble_eq_true rfl⟩) (va_recv hK hP (ci := 1) (q0 := 7) rfl rfl) hK hP hD hE hS hA rfl hl.1 rfl (Nat.le_of_ble_eq_true rfl) dX2_readProgram_61 ⟨by show _ ≤ 306; omega, by show _ ≤ 2142; omega⟩ (fun r61 w9 H locs hw61 hP hD hS => ?_)
              obtain ⟨v_r_faultKind_61, v_r_faultPlace_61, rfl, hw61_0⟩ := hw61
              have b_v_r_faultKind_61 := iB v_r_faultKind_61
              have b_v_r_faultPlace_61 := iB v_r_faultPlace_61
              have b_r61 := iB r61
              refine W.widen (k := 306) (n := 2142) (by omega) (by omega) ?_
              subst hAe
              rw [hQ]
              exact W.zret (v := r61) hx hb hr (nbool (by first | omega | decide)) (fun t ht hW => ⟨⟨r61, _, rfl, ⟨(0 : Int32), a_h_steps_15, a_r_now_15, v_r_takes_15, v_r_negative_15, v_r_namePlace_15, v_r_faultKind_61, v_r_faultPlace_61, v_a_size_5, v_a_limit_5, v_a_digits_15, v_a_kind_15, v_a_from_15, v_a_to_15, a_L_15, a_K_15, a_si_15, a_sj_15, a_iv_15, a_inn_15, a_ac_15, rfl, by first | assumption | omega | (intros; omega) | decide, by first | assumption | omega | (intros; omega) | decide, by first | assumption | omega | (intros; omega) | decide, by first | assumption | omega | (intros; omega) | decide, by first | assumption | omega | (intros; omega) | decide⟩, by rw [ht]; exact hP, va_K.moved hW.alike hK, hD⟩, hS.F ht⟩) hS.2.2 dX2_readProgram_64
        refine m_if_le (X := l3_15.toInt) (tgt := 42) hx hb dX2_readProgram_22 (by decide) rfl (fun c22 => ?_) (fun c22 => ?_)
        · skip
          exact J42 H locs ls hP hD hS (lv_sub hl [0, 1, 2] rfl)
        · skip
          refine lv_aload_n hx hb dX2_readProgram_25 rfl (lv_at hl 0 rfl) ?_
          refine va_get (D := D) (ci := 1) (v := .ref (q 8)) (C := RX2) (T := TX2) (N := 8) hx hb hts hinX2 hown hK hP 7 rfl rfl 0 (by decide) k_3_11 (fun _ h9 => h9) rfl dX2_readProgram_26 ?_
          refine va_get (D := D) (ci := 0) (v := .int v_a_kind_15) (C := RX1) (T := TX1) (N := 7) hx hb hts hinX1 hown hK hP 8 rfl rfl 4 (by decide) k_8_17 (fun _ h9 => h9) rfl dX2_readProgram_29 ?_
          refine m_if_ne (X := v_a_kind_15.toInt) (tgt := 42) hx hb dX2_readProgram_32 (by decide) rfl (fun c32 => ?_) (fun c32 => ?_)
          · skip
            exact J42 H locs ls hP hD hS (lv_sub hl [0, 1, 2] rfl)
          · skip
            refine lv_aload_n hx hb dX2_readProgram_35 rfl (lv_at hl 1 rfl) ?_
            refine lv_iload_n hx hb dX2_readProgram_36 rfl (lv_at hl 2 rfl) ?_
            refine va_put (D := D) (ci := 2) (v := .int l3_15) (ty := .int) (C := RX3) (T := TX3) (N := 3) hx hb hts hinX3 tyX3 tyX3_ok nmX3 hown hK hP hD hS 5 rfl rfl 2 (by decide) k_8_16 (fun _ h9 => h9) rfl (by decide +kernel) rfl rfl (Nat.le_of_ble_eq_true rfl) dX2_readProgram_37 (fun H locs hP hD hS => ?_)
            have hP : va_P D vwCl (tw cs q v_t_tapeSize v_t_textSize v_t_faultKind a_t_tape a_t_text a_g_beyond v_g_size a_g_steps a_h_beyond l3_15 a_h_steps_15 a_r_scratch a_r_now_15 v_r_takes_15 v_r_negative_15 v_r_namePlace_15 v_r_faultKind_15 v_r_faultPlace_15 v_a_size_5 v_a_limit_5 v_a_digits_15 v_a_kind_15 v_a_from_15 v_a_to_15 v_o_size a_o_out v_b_size v_b_limit v_b_digits v_b_kind v_b_from v_b_to a_u_atom a_u_other a_u_hand v_u_marksMade v_u_came v_u_guesses v_u_right v_u_taken a_u_vars a_u_marks a_u_outcomes a_u_indexes v_s_things v_s_looked v_s_lookedTooOften v_s_arraysMade v_s_cellsMade a_s_classes a_s_starts a_s_lengths a_s_cells a_L_15 a_K_15 a_vc a_vd a_si_15 a_sj_15 a_iv_15 a_inn_15 a_ac_15) H := hP
            have hD : va_D A (tw cs q v_t_tapeSize v_t_textSize v_t_faultKind a_t_tape a_t_text a_g_beyond v_g_size a_g_steps a_h_beyond l3_15 a_h_steps_15 a_r_scratch a_r_now_15 v_r_takes_15 v_r_negative_15 v_r_namePlace_15 v_r_faultKind_15 v_r_faultPlace_15 v_a_size_5 v_a_limit_5 v_a_digits_15 v_a_kind_15 v_a_from_15 v_a_to_15 v_o_size a_o_out v_b_size v_b_limit v_b_digits v_b_kind v_b_from v_b_to a_u_atom a_u_other a_u_hand v_u_marksMade v_u_came v_u_guesses v_u_right v_u_taken a_u_vars a_u_marks a_u_outcomes a_u_indexes v_s_things v_s_looked v_s_lookedTooOften v_s_arraysMade v_s_cellsMade a_s_classes a_s_starts a_s_lengths a_s_cells a_L_15 a_K_15 a_vc a_vd a_si_15 a_sj_15 a_iv_15 a_inn_15 a_ac_15) := hD
            refine lv_iconst (v := 1) hx hb dX2_readProgram_40 (by decide) ?_
            refine W.widen (k := 306) (n := 2142) (by omega) (by omega) ?_
            subst hAe
            rw [hQ]
            exact W.zret (v := 1) hx hb hr (by decide) (fun t ht hW => ⟨⟨1, _, rfl, ⟨l3_15, a_h_steps_15, a_r_now_15, v_r_takes_15, v_r_negative_15, v_r_namePlace_15, v_r_faultKind_15, v_r_faultPlace_15, v_a_size_5, v_a_limit_5, v_a_digits_15, v_a_kind_15, v_a_from_15, v_a_to_15, a_L_15, a_K_15, a_si_15, a_sj_15, a_iv_15, a_inn_15, a_ac_15, rfl, by first | assumption | omega | (intros; omega) | decide, by first | assumption | omega | (intros; omega) | decide, by first | assumption | omega | (intros; omega) | decide, by first | assumption | omega | (intros; omega) | decide, by first | assumption | omega | (intros; omega) | decide⟩, by rw [ht]; exact hP, va_K.moved hW.alike hK, hD⟩, hS.F ht⟩) hS.2.2 dX2_readProgram_41
  refine W.widen (k := 3 * (102 - (((101 - (0 : Int32).toInt).toNat + 1)))) (n := 21 * (102 - (((101 - (0 : Int32).toInt).toNat + 1)))) (by omega) (by omega) ?_
  exact J15 ((101 - (0 : Int32).toInt).toNat + 1) (0 : Int32) a_K a_L a_ac a_iv a_si a_sj a_inn v_a_digits_5 v_a_from_5 v_a_kind_5 v_a_to_5 a_h_steps v_r_faultKind_5 v_r_faultPlace_5 v_r_namePlace v_r_negative_5 a_r_now v_r_takes_5 H locs ls (by first | assumption | omega | (intros; omega) | decide) (by first | assumption | omega | (intros; omega) | decide) (by first | assumption | omega | (intros; omega) | decide) (by first | assumption | omega | (intros; omega) | decide) (by first | assumption | omega | (intros; omega) | decide) (by first | assumption | omega | (intros; omega) | decide) (by first | assumption | omega | (intros; omega) | decide) (by omega) hP hD hS (lv_sub hl [1, 3, 0] rfl)

def rmX9_feedOne : Room := { frames := 20, cells := 0, slots := 0, locals := 400 }
set_option maxHeartbeats 4000000 in
set_option maxRecDepth 100000 in
theorem tX9_feedOne {l : Launch} {D : va_G} {K : Nat → Nat → Nat} {cs : Nat → ClassId} {q : Nat → Nat} {v_t_tapeSize v_t_textSize v_t_faultKind v_g_size v_h_size v_r_takes v_r_negative v_r_namePlace v_r_faultKind v_r_faultPlace v_a_size v_a_limit v_a_digits v_a_kind v_a_from v_a_to v_o_size v_b_size v_b_limit v_b_digits v_b_kind v_b_from v_b_to v_u_marksMade v_u_came v_u_guesses v_u_right v_u_taken v_s_things v_s_looked v_s_lookedTooOften v_s_arraysMade v_s_cellsMade : Int32} {a_t_tape a_t_text a_o_out a_u_outcomes a_u_indexes a_s_classes a_s_starts a_s_lengths a_vc : Nat → Int32} {a_g_beyond a_h_beyond a_r_scratch a_r_now a_u_atom a_u_other a_u_hand : Nat} {a_g_steps a_h_steps a_u_vars a_u_marks : Nat → Option Nat} {a_s_cells a_vd a_sj : Nat → Int64} {a_L : List Nat} {a_K a_iv a_inn : Nat → Nat} {a_si a_ac : Nat → Nat → Int32} (n9 : Int32) (p_0 : 0 ≤ v_t_tapeSize.toInt) (p_1 : v_t_tapeSize.toInt ≤ 3100) (p_2 : FB a_t_tape) : CtV l yX9_feedOne (wG yX9_feedOne cX9_feedOne 3 none) rmX9_feedOne D (twT cs) K [.ref (q 0), .int n9] (tw cs q v_t_tapeSize v_t_textSize v_t_faultKind a_t_tape a_t_text a_g_beyond v_g_size a_g_steps a_h_beyond v_h_size a_h_steps a_r_scratch a_r_now v_r_takes v_r_negative v_r_namePlace v_r_faultKind v_r_faultPlace v_a_size v_a_limit v_a_digits v_a_kind v_a_from v_a_to v_o_size a_o_out v_b_size v_b_limit v_b_digits v_b_kind v_b_from v_b_to a_u_atom a_u_other a_u_hand v_u_marksMade v_u_came v_u_guesses v_u_right v_u_taken a_u_vars a_u_marks a_u_outcomes a_u_indexes v_s_things v_s_looked v_s_lookedTooOften v_s_arraysMade v_s_cellsMade a_s_classes a_s_starts a_s_lengths a_s_cells a_L a_K a_vc a_vd a_si a_sj a_iv a_inn a_ac) (fun w1 => ∃ (v_t_tapeSize' : Int32) (a_t_tape' : Nat → Int32), w1 = (tw cs q v_t_tapeSize' v_t_textSize v_t_faultKind a_t_tape' a_t_text a_g_beyond v_g_size a_g_steps a_h_beyond v_h_size a_h_steps a_r_scratch a_r_now v_r_takes v_r_negative v_r_namePlace v_r_faultKind v_r_faultPlace v_a_size v_a_limit v_a_digits v_a_kind v_a_from v_a_to v_o_size a_o_out v_b_size v_b_limit v_b_digits v_b_kind v_b_from v_b_to a_u_atom a_u_other a_u_hand v_u_marksMade v_u_came v_u_guesses v_u_right v_u_taken a_u_vars a_u_marks a_u_outcomes a_u_indexes v_s_things v_s_looked v_s_lookedTooOften v_s_arraysMade v_s_cellsMade a_s_classes a_s_starts a_s_lengths a_s_cells a_L a_K a_vc a_vd a_si a_sj a_iv a_inn a_ac) ∧ (0 ≤ v_t_tapeSize'.toInt) ∧ (v_t_tapeSize'.toInt ≤ 3100) ∧ (FB a_t_tape')) 0 0 := by
  intro sz
  refine Met.ofW (cc := cX9_feedOne) (maxL := 3) (ret := none) (by decide) rfl ?_
  intro p e s m args below meth c s₁ B hml hv
  obtain ⟨rfl, hsz, hP, hK, hD0, hE⟩ := hv
  have hx := B.exec
  have hb := B.bytes
  have hr := B.returns
  have hts := atoms_spec (ws := (wG yX9_feedOne cX9_feedOne 3 none)) B.pre
  have hown : s.vm.findClass RX9 = some m.cls := findClass_of_methodNamed B.named
  have hlocks := B.notSynchronized
  subst hsz
  have hD := hD0.self (sz := s.heap.size)
  obtain ⟨A, hAe⟩ : ∃ A : Nat → Prop, A = va_A (tw cs q v_t_tapeSize v_t_textSize v_t_faultKind a_t_tape a_t_text a_g_beyond v_g_size a_g_steps a_h_beyond v_h_size a_h_steps a_r_scratch a_r_now v_r_takes v_r_negative v_r_namePlace v_r_faultKind v_r_faultPlace v_a_size v_a_limit v_a_digits v_a_kind v_a_from v_a_to v_o_size a_o_out v_b_size v_b_limit v_b_digits v_b_kind v_b_from v_b_to a_u_atom a_u_other a_u_hand v_u_marksMade v_u_came v_u_guesses v_u_right v_u_taken a_u_vars a_u_marks a_u_outcomes a_u_indexes v_s_things v_s_looked v_s_lookedTooOften v_s_arraysMade v_s_cellsMade a_s_classes a_s_starts a_s_lengths a_s_cells a_L a_K a_vc a_vd a_si a_sj a_iv a_inn a_ac) s.heap.size := ⟨_, rfl⟩
  rw [← hAe] at hD hE
  have hA : ∀ q : Nat, s.heap.size ≤ q → A q := fun q h => by rw [hAe]; exact Or.inr h
  have hS : va_S A s.heap s.heap [] := va_S.rf
  have hl := lv_entry ([.ref (q 0), .int n9]) (n := 3) (Nat.le_of_ble_eq_true rfl)
  rw [lg_entry_eq]
  generalize (lg_sl ([.ref (q 0), .int n9]) ++ List.replicate (3 - (lg_sl ([.ref (q 0), .int n9])).length) Slot.unset).toArray = ls at hl ⊢
  have hl : lv_has ls 3 [(0, .ref (q 0)), (1, .int n9)] := hl
  refine wq (fun Q hQ => ?_)
  have hinX9 : ∀ w ∈ wsX90, w ∈ (wG yX9_feedOne cX9_feedOne 3 none) := fun w h => List.mem_cons_of_mem _ (inlX9 w h)
  have kc0 : (1 : Int32).toInt = 1 := by decide
  have kc1 : (24 : Int32).toInt = 24 := by decide
  have kc2 : (3100 : Int32).toInt = 3100 := by decide
  have k_7_0 := hts (.fieldLink RX9 54 "ArrayTrainer" "tapeSize" "I") (List.mem_cons_of_mem _ (wr7 _ (List.mem_of_getElem? (i := 0) rfl)))
  have k_1_14 := hts (.fieldLink RX9 9 "ArrayTrainer" "tape" "[B") (List.mem_cons_of_mem _ (wr1 _ (List.mem_of_getElem? (i := 14) rfl)))
  obtain ⟨H, hH⟩ : ∃ H : Heap, H = s.heap := ⟨_, rfl⟩
  obtain ⟨locs, hlc⟩ : ∃ L : List Loc, L = [] := ⟨_, rfl⟩
  have hP : va_P D vwCl (tw cs q v_t_tapeSize v_t_textSize v_t_faultKind a_t_tape a_t_text a_g_beyond v_g_size a_g_steps a_h_beyond v_h_size a_h_steps a_r_scratch a_r_now v_r_takes v_r_negative v_r_namePlace v_r_faultKind v_r_faultPlace v_a_size v_a_limit v_a_digits v_a_kind v_a_from v_a_to v_o_size a_o_out v_b_size v_b_limit v_b_digits v_b_kind v_b_from v_b_to a_u_atom a_u_other a_u_hand v_u_marksMade v_u_came v_u_guesses v_u_right v_u_taken a_u_vars a_u_marks a_u_outcomes a_u_indexes v_s_things v_s_looked v_s_lookedTooOften v_s_arraysMade v_s_cellsMade a_s_classes a_s_starts a_s_lengths a_s_cells a_L a_K a_vc a_vd a_si a_sj a_iv a_inn a_ac) H := by rw [hH]; exact hP
  have hS : va_S A s.heap H locs := by rw [hH, hlc]; exact hS
  refine wHL hH hlc ?_
  have b_n9 := iB n9
  refine lv_bipush (v := 24) hx hb dX9_feedOne_0 (by decide) ?_
  refine lv_istore_n (lv' := [(2, .int 24), (0, .ref (q 0)), (1, .int n9)]) hx hb dX9_feedOne_2 rfl hl (by decide) rfl (fun ls hl => ?_)
  have J3 : ∀ (n3 : Nat) (l2_3 : Int32) (a_t_tape_3 : Nat → Int32) (v_t_tapeSize_3 : Int32) (H : Heap) (locs : List Loc) (ls : Array Slot), (-8 ≤ l2_3.toInt) → (l2_3.toInt ≤ 24) → (0 ≤ v_t_tapeSize_3.toInt) → (v_t_tapeSize_3.toInt ≤ 3100) → (FB a_t_tape_3) → (l2_3.toInt + 8 < (n3 : Int)) → va_P D vwCl (tw cs q v_t_tapeSize_3 v_t_textSize v_t_faultKind a_t_tape_3 a_t_text a_g_beyond v_g_size a_g_steps a_h_beyond v_h_size a_h_steps a_r_scratch a_r_now v_r_takes v_r_negative v_r_namePlace v_r_faultKind v_r_faultPlace v_a_size v_a_limit v_a_digits v_a_kind v_a_from v_a_to v_o_size a_o_out v_b_size v_b_limit v_b_digits v_b_kind v_b_from v_b_to a_u_atom a_u_other a_u_hand v_u_marksMade v_u_came v_u_guesses v_u_right v_u_taken a_u_vars a_u_marks a_u_outcomes a_u_indexes v_s_things v_s_looked v_s_lookedTooOften v_s_arraysMade v_s_cellsMade a_s_classes a_s_starts a_s_lengths a_s_cells a_L a_K a_vc a_vd a_si a_sj a_iv a_inn a_ac) H → va_D A (tw cs q v_t_tapeSize_3 v_t_textSize v_t_faultKind a_t_tape_3 a_t_text a_g_beyond v_g_size a_g_steps a_h_beyond v_h_size a_h_steps a_r_scratch a_r_now v_r_takes v_r_negative v_r_namePlace v_r_faultKind v_r_faultPlace v_a_size v_a_limit v_a_digits v_a_kind v_a_from v_a_to v_o_size a_o_out v_b_size v_b_limit v_b_digits v_b_kind v_b_from v_b_to a_u_atom a_u_other a_u_hand v_u_marksMade v_u_came v_u_guesses v_u_right v_u_taken a_u_vars a_u_marks a_u_outcomes a_u_indexes v_s_things v_s_looked v_s_lookedTooOften v_s_arraysMade v_s_cellsMade a_s_classes a_s_starts a_s_lengths a_s_cells a_L a_K a_vc a_vd a_si a_sj a_iv a_inn a_ac) → va_S A s.heap H locs → lv_has ls 3 [(0, .ref (q 0)), (1, .int n9), (2, .int l2_3)] → W p l e (headSpec (wG yX9_feedOne cX9_feedOne 3 none) rmX9_feedOne).room s m ([.ref (q 0), .int n9] : List Value).toArray below meth c H locs 0 0 Q (F0 m 3 ls []) := by
    intro n3
    induction n3 with
    | zero =>
      intro l2_3 a_t_tape_3 v_t_tapeSize_3 H locs ls f3_0 f3_1 f3_2 f3_3 f3_4 hm3
      exfalso
      omega
    | succ n3 ih3 =>
      intro l2_3 a_t_tape_3 v_t_tapeSize_3 H locs ls f3_0 f3_1 f3_2 f3_3 f3_4 hm3 hP hD hS hl
      refine lv_iload_n hx hb dX9_feedOne_3 rfl (lv_at hl 2 rfl) ?_
      refine m_if_lt (X := l2_3.toInt) (tgt := 46) hx hb dX9_feedOne_4 (by decide) rfl (fun c4 => ?_) (fun c4 => ?_)
      · skip
        subst hAe
        rw [hQ]
        exact W.vret hx hb hr (fun t ht hW => ⟨⟨_, rfl, ⟨v_t_tapeSize_3, a_t_tape_3, rfl, by first | assumption | omega | (intros; omega) | decide, by first | assumption | omega | (intros; omega) | decide, by first | assumption | omega | (intros; omega) | decide⟩, by rw [ht]; exact hP, va_K.moved hW.alike hK, hD⟩, hS.F ht⟩) hS.2.2 dX9_feedOne_46
      · skip
        refine lv_aload_n hx hb dX9_feedOne_7 rfl (lv_at hl 0 rfl) ?_
        refine va_get (D := D) (ci := 8) (v := .int v_t_tapeSize_3) (C := RX9) (T := TX9) (N := 10) hx hb hts hinX9 hown hK hP 0 rfl rfl 1 (by decide) k_7_0 (fun _ h9 => h9) rfl dX9_feedOne_8 ?_
        refine lv_sipush (v := 3100) hx hb dX9_feedOne_11 (by decide) ?_
        refine m_icmp_ge (X := v_t_tapeSize_3.toInt) (Y := 3100) (tgt := 46) hx hb dX9_feedOne_14 (by decide) rfl (by decide) (fun c14 => ?_) (fun c14 => ?_)
        · skip
          subst hAe
          rw [hQ]
          exact W.vret hx hb hr (fun t ht hW => ⟨⟨_, rfl, ⟨v_t_tapeSize_3, a_t_tape_3, rfl, by first | assumption | omega | (intros; omega) | decide, by first | assumption | omega | (intros; omega) | decide, by first | assumption | omega | (intros; omega) | decide⟩, by rw [ht]; exact hP, va_K.moved hW.alike hK, hD⟩, hS.F ht⟩) hS.2.2 dX9_feedOne_46
        · skip
          refine lv_aload_n hx hb dX9_feedOne_17 rfl (lv_at hl 0 rfl) ?_
          refine va_get (D := D) (ci := 8) (v := .ref (q 1)) (C := RX9) (T := TX9) (N := 10) hx hb hts hinX9 hown hK hP 0 rfl rfl 0 (by decide) k_1_14 (fun _ h9 => h9) rfl dX9_feedOne_18 ?_
          refine lv_aload_n hx hb dX9_feedOne_21 rfl (lv_at hl 0 rfl) ?_
          refine va_get (D := D) (ci := 8) (v := .int v_t_tapeSize_3) (C := RX9) (T := TX9) (N := 10) hx hb hts hinX9 hown hK hP 0 rfl rfl 1 (by decide) k_7_0 (fun _ h9 => h9) rfl dX9_feedOne_22 ?_
          refine lv_iload_n hx hb dX9_feedOne_25 rfl (lv_at hl 1 rfl) ?_
          refine lv_iload_n hx hb dX9_feedOne_26 rfl (lv_at hl 2 rfl) ?_
          refine m_ishr hx hb dX9_feedOne_27 (fun x27 e_x27 => ?_)
          have b_x27 := iB x27
          refine m_i2b hx hb dX9_feedOne_28 (fun x28 e_x28 => ?_)
          have b_x28 := iB x28
          refine va_bast hx hb hK hP hD hS 1 2 rfl rfl (ix (by omega) (by omega)) dX9_feedOne_29 (fun H locs hP hD hS => ?_)
          obtain ⟨a_t_tape_29, e_a_t_tape_29⟩ : ∃ g, g = upd a_t_tape_3 v_t_tapeSize_3.toNatClampNeg (vp_nar .byte x28) := ⟨_, rfl⟩
          have hP : va_P D vwCl (tw cs q v_t_tapeSize_3 v_t_textSize v_t_faultKind a_t_tape_29 a_t_text a_g_beyond v_g_size a_g_steps a_h_beyond v_h_size a_h_steps a_r_scratch a_r_now v_r_takes v_r_negative v_r_namePlace v_r_faultKind v_r_faultPlace v_a_size v_a_limit v_a_digits v_a_kind v_a_from v_a_to v_o_size a_o_out v_b_size v_b_limit v_b_digits v_b_kind v_b_from v_b_to a_u_atom a_u_other a_u_hand v_u_marksMade v_u_came v_u_guesses v_u_right v_u_taken a_u_vars a_u_marks a_u_outcomes a_u_indexes v_s_things v_s_looked v_s_lookedTooOften v_s_arraysMade v_s_cellsMade a_s_classes a_s_starts a_s_lengths a_s_cells a_L a_K a_vc a_vd a_si a_sj a_iv a_inn a_ac) H := by rw [e_a_t_tape_29]; exact hP
          have hD : va_D A (tw cs q v_t_tapeSize_3 v_t_textSize v_t_faultKind a_t_tape_29 a_t_text a_g_beyond v_g_size a_g_steps a_h_beyond v_h_size a_h_steps a_r_scratch a_r_now v_r_takes v_r_negative v_r_namePlace v_r_faultKind v_r_faultPlace v_a_size v_a_limit v_a_digits v_a_kind v_a_from v_a_to v_o_size a_o_out v_b_size v_b_limit v_b_digits v_b_kind v_b_from v_b_to a_u_atom a_u_other a_u_hand v_u_marksMade v_u_came v_u_guesses v_u_right v_u_taken a_u_vars a_u_marks a_u_outcomes a_u_indexes v_s_things v_s_looked v_s_lookedTooOften v_s_arraysMade v_s_cellsMade a_s_classes a_s_starts a_s_lengths a_s_cells a_L a_K a_vc a_vd a_si a_sj a_iv a_inn a_ac) := by rw [e_a_t_tape_29]; exact hD
          refine lv_aload_n hx hb dX9_feedOne_30 rfl (lv_at hl 0 rfl) ?_
          refine lv_dup hx hb dX9_feedOne_31 rfl ?_
          refine va_get (D := D) (ci := 8) (v := .int v_t_tapeSize_3) (C := RX9) (T := TX9) (N := 10) hx hb hts hinX9 hown hK hP 0 rfl rfl 1 (by decide) k_7_0 (fun _ h9 => h9) rfl dX9_feedOne_32 ?_
          refine lv_iconst (v := 1) hx hb dX9_feedOne_35 (by decide) ?_
          refine m_iadd (X := v_t_tapeSize_3.toInt) (Y := 1) hx hb dX9_feedOne_36 rfl (by decide) (fun x36 e_x36 g9 => ?_)
          obtain ⟨k_x36, g_x36⟩ := g9
          have b_x36 := iB x36
          try (have q_x36 : x36.toInt = v_t_tapeSize_3.toInt + 1 := (by omega); clear g_x36 k_x36)
          refine va_put (D := D) (ci := 8) (v := .int x36) (ty := .int) (C := RX9) (T := TX9) (N := 10) hx hb hts hinX9 tyX9 tyX9_ok nmX9 hown hK hP hD hS 0 rfl rfl 1 (by decide) k_7_0 (fun _ h9 => h9) rfl (by decide +kernel) rfl rfl (Nat.le_of_ble_eq_true rfl) dX9_feedOne_37 (fun H locs hP hD hS => ?_)
          have hP : va_P D vwCl (tw cs q x36 v_t_textSize v_t_faultKind a_t_tape_29 a_t_text a_g_beyond v_g_size a_g_steps a_h_beyond v_h_size a_h_steps a_r_scratch a_r_now v_r_takes v_r_negative v_r_namePlace v_r_faultKind v_r_faultPlace v_a_size v_a_limit v_a_digits v_a_kind v_a_from v_a_to v_o_size a_o_out v_b_size v_b_limit v_b_digits v_b_kind v_b_from v_b_to a_u_atom a_u_other a_u_hand v_u_marksMade v_u_came v_u_guesses v_u_right v_u_taken a_u_vars a_u_marks a_u_outcomes a_u_indexes v_s_things v_s_looked v_s_lookedTooOften v_s_arraysMade v_s_cellsMade a_s_classes a_s_starts a_s_lengths a_s_cells a_L a_K a_vc a_vd a_si a_sj a_iv a_inn a_ac) H := hP
          have hD : va_D A (tw cs q x36 v_t_textSize v_t_faultKind a_t_tape_29 a_t_text a_g_beyond v_g_size a_g_steps a_h_beyond v_h_size a_h_steps a_r_scratch a_r_now v_r_takes v_r_negative v_r_namePlace v_r_faultKind v_r_faultPlace v_a_size v_a_limit v_a_digits v_a_kind v_a_from v_a_to v_o_size a_o_out v_b_size v_b_limit v_b_digits v_b_kind v_b_from v_b_to a_u_atom a_u_other a_u_hand v_u_marksMade v_u_came v_u_guesses v_u_right v_u_taken a_u_vars a_u_marks a_u_outcomes a_u_indexes v_s_things v_s_looked v_s_lookedTooOften v_s_arraysMade v_s_cellsMade a_s_classes a_s_starts a_s_lengths a_s_cells a_L a_K a_vc a_vd a_si a_sj a_iv a_inn a_ac) := hD
          obtain ⟨x40, e_x40⟩ : ∃ z : Int32, z = l2_3 + (-8 : Int32) := ⟨_, rfl⟩
          obtain ⟨k_x40, g_x40⟩ : ∃ k : Int, x40.toInt = l2_3.toInt + (-8) + k * 4294967296 := by rw [e_x40]; exact iAdd l2_3 (-8)
          have b_x40 := iB x40
          try (have q_x40 : x40.toInt = l2_3.toInt + (-8) := (by omega); clear g_x40 k_x40)
          refine lv_iinc (v := x40) (lv' := [(2, .int x40), (0, .ref (q 0)), (1, .int n9)]) hx hb dX9_feedOne_40 hl (k := 2) rfl (by rw [e_x40]; rfl) (by decide) rfl (fun ls hl => ?_)
          refine lv_goto (tgt := 3) hx hb dX9_feedOne_43 (by decide) ?_
          exact ih3 x40 a_t_tape_29 x36 H locs ls (by first | assumption | omega | (intros; omega) | decide) (by first | assumption | omega | (intros; omega) | decide) (by first | assumption | omega | (intros; omega) | decide) (by first | assumption | omega | (intros; omega) | decide) (by first | assumption | exact FB.set9 (by assumption) e_a_t_tape_29) (by omega) hP hD hS (lv_sub hl [1, 2, 0] rfl)
  exact J3 (((24 : Int32).toInt + 8).toNat + 1) (24 : Int32) a_t_tape v_t_tapeSize H locs ls (by first | assumption | omega | (intros; omega) | decide) (by first | assumption | omega | (intros; omega) | decide) (by first | assumption | omega | (intros; omega) | decide) (by first | assumption | omega | (intros; omega) | decide) (by first | assumption | exact FB.set9 (by assumption) e_a_t_tape_29) (by omega) hP hD hS (lv_sub hl [1, 2, 0] rfl)

def rmX9_feed : Room := { frames := 40, cells := 0, slots := 0, locals := 800 }
set_option maxHeartbeats 4000000 in
set_option maxRecDepth 100000 in
theorem tX9_feed {l : Launch} {D : va_G} {K : Nat → Nat → Nat} {cs : Nat → ClassId} {q : Nat → Nat} {v_t_tapeSize v_t_textSize v_t_faultKind v_g_size v_h_size v_r_takes v_r_negative v_r_namePlace v_r_faultKind v_r_faultPlace v_a_size v_a_limit v_a_digits v_a_kind v_a_from v_a_to v_o_size v_b_size v_b_limit v_b_digits v_b_kind v_b_from v_b_to v_u_marksMade v_u_came v_u_guesses v_u_right v_u_taken v_s_things v_s_looked v_s_lookedTooOften v_s_arraysMade v_s_cellsMade : Int32} {a_t_tape a_t_text a_o_out a_u_outcomes a_u_indexes a_s_classes a_s_starts a_s_lengths a_vc : Nat → Int32} {a_g_beyond a_h_beyond a_r_scratch a_r_now a_u_atom a_u_other a_u_hand : Nat} {a_g_steps a_h_steps a_u_vars a_u_marks : Nat → Option Nat} {a_s_cells a_vd a_sj : Nat → Int64} {a_L : List Nat} {a_K a_iv a_inn : Nat → Nat} {a_si a_ac : Nat → Nat → Int32} (a9 : Int32) (b9 : Int32) (g9 : Int32) (d9 : Int32) (e9 : Int32) (p_0 : TRN a_L a_K a_si a_iv a_inn a_g_beyond a_h_beyond a_r_scratch a_g_steps a_h_steps a_u_atom a_u_other a_u_hand a_u_vars a_u_marks a_r_now v_a_size v_a_limit v_a_digits v_a_kind v_a_from v_a_to v_b_size v_b_limit v_b_digits v_b_kind v_b_from v_b_to v_s_things v_s_cellsMade a_s_starts a_s_lengths v_t_tapeSize v_o_size v_u_marksMade a_t_tape) : CtI l yX9_feed (wG yX9_feed cX9_feed 6 (some .int)) rmX9_feed D (twT cs) K [.ref (q 0), .int a9, .int b9, .int g9, .int d9, .int e9] (tw cs q v_t_tapeSize v_t_textSize v_t_faultKind a_t_tape a_t_text a_g_beyond v_g_size a_g_steps a_h_beyond v_h_size a_h_steps a_r_scratch a_r_now v_r_takes v_r_negative v_r_namePlace v_r_faultKind v_r_faultPlace v_a_size v_a_limit v_a_digits v_a_kind v_a_from v_a_to v_o_size a_o_out v_b_size v_b_limit v_b_digits v_b_kind v_b_from v_b_to a_u_atom a_u_other a_u_hand v_u_marksMade v_u_came v_u_guesses v_u_right v_u_taken a_u_vars a_u_marks a_u_outcomes a_u_indexes v_s_things v_s_looked v_s_lookedTooOften v_s_arraysMade v_s_cellsMade a_s_classes a_s_starts a_s_lengths a_s_cells a_L a_K a_vc a_vd a_si a_sj a_iv a_inn a_ac) (fun r w1 => ∃ (v_t_tapeSize' : Int32) (a_t_tape' : Nat → Int32), w1 = (tw cs q v_t_tapeSize' v_t_textSize v_t_faultKind a_t_tape' a_t_text a_g_beyond v_g_size a_g_steps a_h_beyond v_h_size a_h_steps a_r_scratch a_r_now v_r_takes v_r_negative v_r_namePlace v_r_faultKind v_r_faultPlace v_a_size v_a_limit v_a_digits v_a_kind v_a_from v_a_to v_o_size a_o_out v_b_size v_b_limit v_b_digits v_b_kind v_b_from v_b_to a_u_atom a_u_other a_u_hand v_u_marksMade v_u_came v_u_guesses v_u_right v_u_taken a_u_vars a_u_marks a_u_outcomes a_u_indexes v_s_things v_s_looked v_s_lookedTooOften v_s_arraysMade v_s_cellsMade a_s_classes a_s_starts a_s_lengths a_s_cells a_L a_K a_vc a_vd a_si a_sj a_iv a_inn a_ac) ∧ (TRN a_L a_K a_si a_iv a_inn a_g_beyond a_h_beyond a_r_scratch a_g_steps a_h_steps a_u_atom a_u_other a_u_hand a_u_vars a_u_marks a_r_now v_a_size v_a_limit v_a_digits v_a_kind v_a_from v_a_to v_b_size v_b_limit v_b_digits v_b_kind v_b_from v_b_to v_s_things v_s_cellsMade a_s_starts a_s_lengths v_t_tapeSize' v_o_size v_u_marksMade a_t_tape')) 0 0 := by
  intro sz
  refine Met.ofW (cc := cX9_feed) (maxL := 6) (ret := (some .int)) (by decide) rfl ?_
  intro p e s m args below meth c s₁ B hml hv
  obtain ⟨rfl, hsz, hP, hK, hD0, hE⟩ := hv
  have hx := B.exec
  have hb := B.bytes
  have hr := B.returns
  have hts := atoms_spec (ws := (wG yX9_feed cX9_feed 6 (some .int))) B.pre
  have hown : s.vm.findClass RX9 = some m.cls := findClass_of_methodNamed B.named
  have hlocks := B.notSynchronized
  subst hsz
  have hD := hD0.self (sz := s.heap.size)
  obtain ⟨A, hAe⟩ : ∃ A : Nat → Prop, A = va_A (tw cs q v_t_tapeSize v_t_textSize v_t_faultKind a_t_tape a_t_text a_g_beyond v_g_size a_g_steps a_h_beyond v_h_size a_h_steps a_r_scratch a_r_now v_r_takes v_r_negative v_r_namePlace v_r_faultKind v_r_faultPlace v_a_size v_a_limit v_a_digits v_a_kind v_a_from v_a_to v_o_size a_o_out v_b_size v_b_limit v_b_digits v_b_kind v_b_from v_b_to a_u_atom a_u_other a_u_hand v_u_marksMade v_u_came v_u_guesses v_u_right v_u_taken a_u_vars a_u_marks a_u_outcomes a_u_indexes v_s_things v_s_looked v_s_lookedTooOften v_s_arraysMade v_s_cellsMade a_s_classes a_s_starts a_s_lengths a_s_cells a_L a_K a_vc a_vd a_si a_sj a_iv a_inn a_ac) s.heap.size := ⟨_, rfl⟩
  rw [← hAe] at hD hE
  have hA : ∀ q : Nat, s.heap.size ≤ q → A q := fun q h => by rw [hAe]; exact Or.inr h
  have hS : va_S A s.heap s.heap [] := va_S.rf
  have hl := lv_entry ([.ref (q 0), .int a9, .int b9, .int g9, .int d9, .int e9]) (n := 6) (Nat.le_of_ble_eq_true rfl)
  rw [lg_entry_eq]
  generalize (lg_sl ([.ref (q 0), .int a9, .int b9, .int g9, .int d9, .int e9]) ++ List.replicate (6 - (lg_sl ([.ref (q 0), .int a9, .int b9, .int g9, .int d9, .int e9])).length) Slot.unset).toArray = ls at hl ⊢
  have hl : lv_has ls 6 [(0, .ref (q 0)), (1, .int a9), (2, .int b9), (3, .int g9), (4, .int d9), (5, .int e9)] := hl
  refine wq (fun Q hQ => ?_)
  have hinX9 : ∀ w ∈ wsX90, w ∈ (wG yX9_feed cX9_feed 6 (some .int)) := fun w h => List.mem_cons_of_mem _ (inlX9 w h)
  have kc0 : (-1 : Int32).toInt = -1 := by decide
  have kc1 : (3080 : Int32).toInt = 3080 := by decide
  have k_7_0 := hts (.fieldLink RX9 54 "ArrayTrainer" "tapeSize" "I") (List.mem_cons_of_mem _ (wr7 _ (List.mem_of_getElem? (i := 0) rfl)))
  obtain ⟨H, hH⟩ : ∃ H : Heap, H = s.heap := ⟨_, rfl⟩
  obtain ⟨locs, hlc⟩ : ∃ L : List Loc, L = [] := ⟨_, rfl⟩
  have hP : va_P D vwCl (tw cs q v_t_tapeSize v_t_textSize v_t_faultKind a_t_tape a_t_text a_g_beyond v_g_size a_g_steps a_h_beyond v_h_size a_h_steps a_r_scratch a_r_now v_r_takes v_r_negative v_r_namePlace v_r_faultKind v_r_faultPlace v_a_size v_a_limit v_a_digits v_a_kind v_a_from v_a_to v_o_size a_o_out v_b_size v_b_limit v_b_digits v_b_kind v_b_from v_b_to a_u_atom a_u_other a_u_hand v_u_marksMade v_u_came v_u_guesses v_u_right v_u_taken a_u_vars a_u_marks a_u_outcomes a_u_indexes v_s_things v_s_looked v_s_lookedTooOften v_s_arraysMade v_s_cellsMade a_s_classes a_s_starts a_s_lengths a_s_cells a_L a_K a_vc a_vd a_si a_sj a_iv a_inn a_ac) H := by rw [hH]; exact hP
  have hS : va_S A s.heap H locs := by rw [hH, hlc]; exact hS
  refine wHL hH hlc ?_
  have b_a9 := iB a9
  have b_b9 := iB b9
  have b_g9 := iB g9
  have b_d9 := iB d9
  have b_e9 := iB e9
  obtain ⟨hRF, hPI, hNow, hLA, hLB, hSTO, ⟨ht0, ht1⟩, ⟨ho0, ho1⟩, hm0, hFB⟩ := id p_0
  refine lv_aload_n hx hb dX9_feed_0 rfl (lv_at hl 0 rfl) ?_
  refine va_get (D := D) (ci := 8) (v := .int v_t_tapeSize) (C := RX9) (T := TX9) (N := 10) hx hb hts hinX9 hown hK hP 0 rfl rfl 1 (by decide) k_7_0 (fun _ h9 => h9) rfl dX9_feed_1 ?_
  refine lv_sipush (v := 3080) hx hb dX9_feed_4 (by decide) ?_
  refine m_icmp_le (X := v_t_tapeSize.toInt) (Y := 3080) (tgt := 12) hx hb dX9_feed_7 (by decide) rfl (by decide) (fun c7 => ?_) (fun c7 => ?_)
  · skip
    refine lv_aload_n hx hb dX9_feed_12 rfl (lv_at hl 0 rfl) ?_
    refine lv_iload_n hx hb dX9_feed_13 rfl (lv_at hl 1 rfl) ?_
    refine call_v (As := [.int a9]) (rest := []) ⟨hx, hb, hml, hown, hts⟩ (tX9_feedOne (l := l) a9 (by first | assumption | omega | (intros; omega) | decide) (by first | assumption | omega | (intros; omega) | decide) (by first | assumption | omega | (intros; omega) | decide)) (cwV 1 hts (gV (wr7 _ (List.mem_of_getElem? (i := 1) rfl)) (wr7 _ (List.mem_of_getElem? (i := 2) rfl)) (wr7 _ (List.mem_of_getElem? (i := 3) rfl)) (wr1 _ (List.mem_of_getElem? (i := 2) rfl)) (wr7 _ (List.mem_of_getElem? (i := 4) rfl))) rfl rfl rfl (by decide +kernel) ⟨Nat.le_of_ble_eq_true rfl, Nat.le_of_ble_eq_true rfl⟩) (va_recv hK hP (ci := 8) (q0 := 0) rfl rfl) hK hP hD hE hS hA rfl hl.1 rfl (Nat.le_of_ble_eq_true rfl) dX9_feed_14 ⟨Nat.le_of_ble_eq_true rfl, Nat.le_of_ble_eq_true rfl⟩ (fun w9 H locs hw14 hP hD hS => ?_)
    obtain ⟨v_t_tapeSize_14, a_t_tape_14, rfl, hw14_0, hw14_1, hw14_2⟩ := hw14
    have b_v_t_tapeSize_14 := iB v_t_tapeSize_14
    refine lv_aload_n hx hb dX9_feed_17 rfl (lv_at hl 0 rfl) ?_
    refine lv_iload_n hx hb dX9_feed_18 rfl (lv_at hl 2 rfl) ?_
    refine call_v (As := [.int b9]) (rest := []) ⟨hx, hb, hml, hown, hts⟩ (tX9_feedOne (l := l) b9 (by first | assumption | omega | (intros; omega) | decide) (by first | assumption | omega | (intros; omega) | decide) (by first | assumption | omega | (intros; omega) | decide)) (cwV 1 hts (gV (wr7 _ (List.mem_of_getElem? (i := 1) rfl)) (wr7 _ (List.mem_of_getElem? (i := 2) rfl)) (wr7 _ (List.mem_of_getElem? (i := 3) rfl)) (wr1 _ (List.mem_of_getElem? (i := 2) rfl)) (wr7 _ (List.mem_of_getElem? (i := 4) rfl))) rfl rfl rfl (by decide +kernel) ⟨Nat.le_of_ble_eq_true rfl, Nat.le_of_ble_eq_true rfl⟩) (va_recv hK hP (ci := 8) (q0 := 0) rfl rfl) hK hP hD hE hS hA rfl hl.1 rfl (Nat.le_of_ble_eq_true rfl) dX9_feed_19 ⟨Nat.le_of_ble_eq_true rfl, Nat.le_of_ble_eq_true rfl⟩ (fun w9 H locs hw19 hP hD hS => ?_)
    obtain ⟨v_t_tapeSize_19, a_t_tape_19, rfl, hw19_0, hw19_1, hw19_2⟩ := hw19
    have b_v_t_tapeSize_19 := iB v_t_tapeSize_19
    refine lv_aload_n hx hb dX9_feed_22 rfl (lv_at hl 0 rfl) ?_
    refine lv_iload_n hx hb dX9_feed_23 rfl (lv_at hl 3 rfl) ?_
    refine call_v (As := [.int g9]) (rest := []) ⟨hx, hb, hml, hown, hts⟩ (tX9_feedOne (l := l) g9 (by first | assumption | omega | (intros; omega) | decide) (by first | assumption | omega | (intros; omega) | decide) (by first | assumption | omega | (intros; omega) | decide)) (cwV 1 hts (gV (wr7 _ (List.mem_of_getElem? (i := 1) rfl)) (wr7 _ (List.mem_of_getElem? (i := 2) rfl)) (wr7 _ (List.mem_of_getElem? (i := 3) rfl)) (wr1 _ (List.mem_of_getElem? (i := 2) rfl)) (wr7 _ (List.mem_of_getElem? (i := 4) rfl))) rfl rfl rfl (by decide +kernel) ⟨Nat.le_of_ble_eq_true rfl, Nat.le_of_ble_eq_true rfl⟩) (va_recv hK hP (ci := 8) (q0 := 0) rfl rfl) hK hP hD hE hS hA rfl hl.1 rfl (Nat.le_of_ble_eq_true rfl) dX9_feed_24 ⟨Nat.le_of_ble_eq_true rfl, Nat.le_of_ble_eq_true rfl⟩ (fun w9 H locs hw24 hP hD hS => ?_)
    obtain ⟨v_t_tapeSize_24, a_t_tape_24, rfl, hw24_0, hw24_1, hw24_2⟩ := hw24
    have b_v_t_tapeSize_24 := iB v_t_tapeSize_24
    refine lv_aload_n hx hb dX9_feed_27 rfl (lv_at hl 0 rfl) ?_
    refine lv_iload hx hb dX9_feed_28 (lv_at hl 4 rfl) ?_
    refine call_v (As := [.int d9]) (rest := []) ⟨hx, hb, hml, hown, hts⟩ (tX9_feedOne (l := l) d9 (by first | assumption | omega | (intros; omega) | decide) (by first | assumption | omega | (intros; omega) | decide) (by first | assumption | omega | (intros; omega) | decide)) (cwV 1 hts (gV (wr7 _ (List.mem_of_getElem? (i := 1) rfl)) (wr7 _ (List.mem_of_getElem? (i := 2) rfl)) (wr7 _ (List.mem_of_getElem? (i := 3) rfl)) (wr1 _ (List.mem_of_getElem? (i := 2) rfl)) (wr7 _ (List.mem_of_getElem? (i := 4) rfl))) rfl rfl rfl (by decide +kernel) ⟨Nat.le_of_ble_eq_true rfl, Nat.le_of_ble_eq_true rfl⟩) (va_recv hK hP (ci := 8) (q0 := 0) rfl rfl) hK hP hD hE hS hA rfl hl.1 rfl (Nat.le_of_ble_eq_true rfl) dX9_feed_30 ⟨Nat.le_of_ble_eq_true rfl, Nat.le_of_ble_eq_true rfl⟩ (fun w9 H locs hw30 hP hD hS => ?_)
    obtain ⟨v_t_tapeSize_30, a_t_tape_30, rfl, hw30_0, hw30_1, hw30_2⟩ := hw30
    have b_v_t_tapeSize_30 := iB v_t_tapeSize_30
    refine lv_aload_n hx hb dX9_feed_33 rfl (lv_at hl 0 rfl) ?_
    refine lv_iload hx hb dX9_feed_34 (lv_at hl 5 rfl) ?_
    refine call_v (As := [.int e9]) (rest := []) ⟨hx, hb, hml, hown, hts⟩ (tX9_feedOne (l := l) e9 (by first | assumption | omega | (intros; omega) | decide) (by first | assumption | omega | (intros; omega) | decide) (by first | assumption | omega | (intros; omega) | decide)) (cwV 1 hts (gV (wr7 _ (List.mem_of_getElem? (i := 1) rfl)) (wr7 _ (List.mem_of_getElem? (i := 2) rfl)) (wr7 _ (List.mem_of_getElem? (i := 3) rfl)) (wr1 _ (List.mem_of_getElem? (i := 2) rfl)) (wr7 _ (List.mem_of_getElem? (i := 4) rfl))) rfl rfl rfl (by decide +kernel) ⟨Nat.le_of_ble_eq_true rfl, Nat.le_of_ble_eq_true rfl⟩) (va_recv hK hP (ci := 8) (q0 := 0) rfl rfl) hK hP hD hE hS hA rfl hl.1 rfl (Nat.le_of_ble_eq_true rfl) dX9_feed_36 ⟨Nat.le_of_ble_eq_true rfl, Nat.le_of_ble_eq_true rfl⟩ (fun w9 H locs hw36 hP hD hS => ?_)
    obtain ⟨v_t_tapeSize_36, a_t_tape_36, rfl, hw36_0, hw36_1, hw36_2⟩ := hw36
    have b_v_t_tapeSize_36 := iB v_t_tapeSize_36
    refine lv_aload_n hx hb dX9_feed_39 rfl (lv_at hl 0 rfl) ?_
    refine va_get (D := D) (ci := 8) (v := .int v_t_tapeSize_36) (C := RX9) (T := TX9) (N := 10) hx hb hts hinX9 hown hK hP 0 rfl rfl 1 (by decide) k_7_0 (fun _ h9 => h9) rfl dX9_feed_40 ?_
    subst hAe
    rw [hQ]
    exact W.iret (v := v_t_tapeSize_36) hx hb hr (fun t ht hW => ⟨⟨v_t_tapeSize_36, _, rfl, ⟨v_t_tapeSize_36, a_t_tape_36, rfl, by exact ⟨by assumption, by assumption, by assumption, by assumption, by assumption, by assumption, ⟨by omega, by omega⟩, ⟨by omega, by omega⟩, by omega, by assumption⟩⟩, by rw [ht]; exact hP, va_K.moved hW.alike hK, hD⟩, hS.F ht⟩) hS.2.2 dX9_feed_43
  · skip
    refine lv_iconst (v := (-1)) hx hb dX9_feed_10 (by decide) ?_
    subst hAe
    rw [hQ]
    exact W.iret (v := (-1)) hx hb hr (fun t ht hW => ⟨⟨(-1), _, rfl, ⟨v_t_tapeSize, a_t_tape, rfl, by exact ⟨by assumption, by assumption, by assumption, by assumption, by assumption, by assumption, ⟨by omega, by omega⟩, ⟨by omega, by omega⟩, by omega, by assumption⟩⟩, by rw [ht]; exact hP, va_K.moved hW.alike hK, hD⟩, hS.F ht⟩) hS.2.2 dX9_feed_11

def rmX9_end : Room := { frames := 20, cells := 0, slots := 0, locals := 400 }
set_option maxHeartbeats 4000000 in
set_option maxRecDepth 100000 in
theorem tX9_end {l : Launch} {D : va_G} {K : Nat → Nat → Nat} {cs : Nat → ClassId} {q : Nat → Nat} {v_t_tapeSize v_t_textSize v_t_faultKind v_g_size v_h_size v_r_takes v_r_negative v_r_namePlace v_r_faultKind v_r_faultPlace v_a_size v_a_limit v_a_digits v_a_kind v_a_from v_a_to v_o_size v_b_size v_b_limit v_b_digits v_b_kind v_b_from v_b_to v_u_marksMade v_u_came v_u_guesses v_u_right v_u_taken v_s_things v_s_looked v_s_lookedTooOften v_s_arraysMade v_s_cellsMade : Int32} {a_t_tape a_t_text a_o_out a_u_outcomes a_u_indexes a_s_classes a_s_starts a_s_lengths a_vc : Nat → Int32} {a_g_beyond a_h_beyond a_r_scratch a_r_now a_u_atom a_u_other a_u_hand : Nat} {a_g_steps a_h_steps a_u_vars a_u_marks : Nat → Option Nat} {a_s_cells a_vd a_sj : Nat → Int64} {a_L : List Nat} {a_K a_iv a_inn : Nat → Nat} {a_si a_ac : Nat → Nat → Int32} (n9 : Int32) (p_0 : TRN a_L a_K a_si a_iv a_inn a_g_beyond a_h_beyond a_r_scratch a_g_steps a_h_steps a_u_atom a_u_other a_u_hand a_u_vars a_u_marks a_r_now v_a_size v_a_limit v_a_digits v_a_kind v_a_from v_a_to v_b_size v_b_limit v_b_digits v_b_kind v_b_from v_b_to v_s_things v_s_cellsMade a_s_starts a_s_lengths v_t_tapeSize v_o_size v_u_marksMade a_t_tape) : CtI l yX9_end (wG yX9_end cX9_end 2 (some .boolean)) rmX9_end D (twT cs) K [.ref (q 0), .int n9] (tw cs q v_t_tapeSize v_t_textSize v_t_faultKind a_t_tape a_t_text a_g_beyond v_g_size a_g_steps a_h_beyond v_h_size a_h_steps a_r_scratch a_r_now v_r_takes v_r_negative v_r_namePlace v_r_faultKind v_r_faultPlace v_a_size v_a_limit v_a_digits v_a_kind v_a_from v_a_to v_o_size a_o_out v_b_size v_b_limit v_b_digits v_b_kind v_b_from v_b_to a_u_atom a_u_other a_u_hand v_u_marksMade v_u_came v_u_guesses v_u_right v_u_taken a_u_vars a_u_marks a_u_outcomes a_u_indexes v_s_things v_s_looked v_s_lookedTooOften v_s_arraysMade v_s_cellsMade a_s_classes a_s_starts a_s_lengths a_s_cells a_L a_K a_vc a_vd a_si a_sj a_iv a_inn a_ac) (fun r w1 => ∃ (v_t_tapeSize' : Int32), w1 = (tw cs q v_t_tapeSize' v_t_textSize v_t_faultKind a_t_tape a_t_text a_g_beyond v_g_size a_g_steps a_h_beyond v_h_size a_h_steps a_r_scratch a_r_now v_r_takes v_r_negative v_r_namePlace v_r_faultKind v_r_faultPlace v_a_size v_a_limit v_a_digits v_a_kind v_a_from v_a_to v_o_size a_o_out v_b_size v_b_limit v_b_digits v_b_kind v_b_from v_b_to a_u_atom a_u_other a_u_hand v_u_marksMade v_u_came v_u_guesses v_u_right v_u_taken a_u_vars a_u_marks a_u_outcomes a_u_indexes v_s_things v_s_looked v_s_lookedTooOften v_s_arraysMade v_s_cellsMade a_s_classes a_s_starts a_s_lengths a_s_cells a_L a_K a_vc a_vd a_si a_sj a_iv a_inn a_ac) ∧ (TRN a_L a_K a_si a_iv a_inn a_g_beyond a_h_beyond a_r_scratch a_g_steps a_h_steps a_u_atom a_u_other a_u_hand a_u_vars a_u_marks a_r_now v_a_size v_a_limit v_a_digits v_a_kind v_a_from v_a_to v_b_size v_b_limit v_b_digits v_b_kind v_b_from v_b_to v_s_things v_s_cellsMade a_s_starts a_s_lengths v_t_tapeSize' v_o_size v_u_marksMade a_t_tape) ∧ (r.toInt = 0 ∨ r.toInt = 1)) 0 0 := by
  intro sz
  refine Met.ofW (cc := cX9_end) (maxL := 2) (ret := (some .boolean)) (by decide) rfl ?_
  intro p e s m args below meth c s₁ B hml hv
  obtain ⟨rfl, hsz, hP, hK, hD0, hE⟩ := hv
  have hx := B.exec
  have hb := B.bytes
  have hr := B.returns
  have hts := atoms_spec (ws := (wG yX9_end cX9_end 2 (some .boolean))) B.pre
  have hown : s.vm.findClass RX9 = some m.cls := findClass_of_methodNamed B.named
  have hlocks := B.notSynchronized
  subst hsz
  have hD := hD0.self (sz := s.heap.size)
  obtain ⟨A, hAe⟩ : ∃ A : Nat → Prop, A = va_A (tw cs q v_t_tapeSize v_t_textSize v_t_faultKind a_t_tape a_t_text a_g_beyond v_g_size a_g_steps a_h_beyond v_h_size a_h_steps a_r_scratch a_r_now v_r_takes v_r_negative v_r_namePlace v_r_faultKind v_r_faultPlace v_a_size v_a_limit v_a_digits v_a_kind v_a_from v_a_to v_o_size a_o_out v_b_size v_b_limit v_b_digits v_b_kind v_b_from v_b_to a_u_atom a_u_other a_u_hand v_u_marksMade v_u_came v_u_guesses v_u_right v_u_taken a_u_vars a_u_marks a_u_outcomes a_u_indexes v_s_things v_s_looked v_s_lookedTooOften v_s_arraysMade v_s_cellsMade a_s_classes a_s_starts a_s_lengths a_s_cells a_L a_K a_vc a_vd a_si a_sj a_iv a_inn a_ac) s.heap.size := ⟨_, rfl⟩
  rw [← hAe] at hD hE
  have hA : ∀ q : Nat, s.heap.size ≤ q → A q := fun q h => by rw [hAe]; exact Or.inr h
  have hS : va_S A s.heap s.heap [] := va_S.rf
  have hl := lv_entry ([.ref (q 0), .int n9]) (n := 2) (Nat.le_of_ble_eq_true rfl)
  rw [lg_entry_eq]
  generalize (lg_sl ([.ref (q 0), .int n9]) ++ List.replicate (2 - (lg_sl ([.ref (q 0), .int n9])).length) Slot.unset).toArray = ls at hl ⊢
  have hl : lv_has ls 2 [(0, .ref (q 0)), (1, .int n9)] := hl
  refine wq (fun Q hQ => ?_)
  have hinX9 : ∀ w ∈ wsX90, w ∈ (wG yX9_end cX9_end 2 (some .boolean)) := fun w h => List.mem_cons_of_mem _ (inlX9 w h)
  have kc0 : (0 : Int32).toInt = 0 := by decide
  have kc1 : (1 : Int32).toInt = 1 := by decide
  have k_7_0 := hts (.fieldLink RX9 54 "ArrayTrainer" "tapeSize" "I") (List.mem_cons_of_mem _ (wr7 _ (List.mem_of_getElem? (i := 0) rfl)))
  obtain ⟨H, hH⟩ : ∃ H : Heap, H = s.heap := ⟨_, rfl⟩
  obtain ⟨locs, hlc⟩ : ∃ L : List Loc, L = [] := ⟨_, rfl⟩
  have hP : va_P D vwCl (tw cs q v_t_tapeSize v_t_textSize v_t_faultKind a_t_tape a_t_text a_g_beyond v_g_size a_g_steps a_h_beyond v_h_size a_h_steps a_r_scratch a_r_now v_r_takes v_r_negative v_r_namePlace v_r_faultKind v_r_faultPlace v_a_size v_a_limit v_a_digits v_a_kind v_a_from v_a_to v_o_size a_o_out v_b_size v_b_limit v_b_digits v_b_kind v_b_from v_b_to a_u_atom a_u_other a_u_hand v_u_marksMade v_u_came v_u_guesses v_u_right v_u_taken a_u_vars a_u_marks a_u_outcomes a_u_indexes v_s_things v_s_looked v_s_lookedTooOften v_s_arraysMade v_s_cellsMade a_s_classes a_s_starts a_s_lengths a_s_cells a_L a_K a_vc a_vd a_si a_sj a_iv a_inn a_ac) H := by rw [hH]; exact hP
  have hS : va_S A s.heap H locs := by rw [hH, hlc]; exact hS
  refine wHL hH hlc ?_
  have b_n9 := iB n9
  obtain ⟨hRF, hPI, hNow, hLA, hLB, hSTO, ⟨ht0, ht1⟩, ⟨ho0, ho1⟩, hm0, hFB⟩ := id p_0
  refine lv_iload_n hx hb dX9_end_0 rfl (lv_at hl 1 rfl) ?_
  refine m_if_lt (X := n9.toInt) (tgt := 12) hx hb dX9_end_1 (by decide) rfl (fun c1 => ?_) (fun c1 => ?_)
  · skip
    refine lv_iconst (v := 0) hx hb dX9_end_12 (by decide) ?_
    subst hAe
    rw [hQ]
    exact W.zret (v := 0) hx hb hr (by decide) (fun t ht hW => ⟨⟨0, _, rfl, ⟨v_t_tapeSize, rfl, by exact ⟨by assumption, by assumption, by assumption, by assumption, by assumption, by assumption, ⟨by omega, by omega⟩, ⟨by omega, by omega⟩, by omega, by assumption⟩, by first | assumption | omega | (intros; omega) | decide⟩, by rw [ht]; exact hP, va_K.moved hW.alike hK, hD⟩, hS.F ht⟩) hS.2.2 dX9_end_13
  · skip
    refine lv_iload_n hx hb dX9_end_4 rfl (lv_at hl 1 rfl) ?_
    refine lv_aload_n hx hb dX9_end_5 rfl (lv_at hl 0 rfl) ?_
    refine va_get (D := D) (ci := 8) (v := .int v_t_tapeSize) (C := RX9) (T := TX9) (N := 10) hx hb hts hinX9 hown hK hP 0 rfl rfl 1 (by decide) k_7_0 (fun _ h9 => h9) rfl dX9_end_6 ?_
    refine m_icmp_le (X := n9.toInt) (Y := v_t_tapeSize.toInt) (tgt := 14) hx hb dX9_end_9 (by decide) rfl rfl (fun c9 => ?_) (fun c9 => ?_)
    · skip
      refine lv_aload_n hx hb dX9_end_14 rfl (lv_at hl 0 rfl) ?_
      refine lv_iload_n hx hb dX9_end_15 rfl (lv_at hl 1 rfl) ?_
      refine va_put (D := D) (ci := 8) (v := .int n9) (ty := .int) (C := RX9) (T := TX9) (N := 10) hx hb hts hinX9 tyX9 tyX9_ok nmX9 hown hK hP hD hS 0 rfl rfl 1 (by decide) k_7_0 (fun _ h9 => h9) rfl (by decide +kernel) rfl rfl (Nat.le_of_ble_eq_true rfl) dX9_end_16 (fun H locs hP hD hS => ?_)
      have hP : va_P D vwCl (tw cs q n9 v_t_textSize v_t_faultKind a_t_tape a_t_text a_g_beyond v_g_size a_g_steps a_h_beyond v_h_size a_h_steps a_r_scratch a_r_now v_r_takes v_r_negative v_r_namePlace v_r_faultKind v_r_faultPlace v_a_size v_a_limit v_a_digits v_a_kind v_a_from v_a_to v_o_size a_o_out v_b_size v_b_limit v_b_digits v_b_kind v_b_from v_b_to a_u_atom a_u_other a_u_hand v_u_marksMade v_u_came v_u_guesses v_u_right v_u_taken a_u_vars a_u_marks a_u_outcomes a_u_indexes v_s_things v_s_looked v_s_lookedTooOften v_s_arraysMade v_s_cellsMade a_s_classes a_s_starts a_s_lengths a_s_cells a_L a_K a_vc a_vd a_si a_sj a_iv a_inn a_ac) H := hP
      have hD : va_D A (tw cs q n9 v_t_textSize v_t_faultKind a_t_tape a_t_text a_g_beyond v_g_size a_g_steps a_h_beyond v_h_size a_h_steps a_r_scratch a_r_now v_r_takes v_r_negative v_r_namePlace v_r_faultKind v_r_faultPlace v_a_size v_a_limit v_a_digits v_a_kind v_a_from v_a_to v_o_size a_o_out v_b_size v_b_limit v_b_digits v_b_kind v_b_from v_b_to a_u_atom a_u_other a_u_hand v_u_marksMade v_u_came v_u_guesses v_u_right v_u_taken a_u_vars a_u_marks a_u_outcomes a_u_indexes v_s_things v_s_looked v_s_lookedTooOften v_s_arraysMade v_s_cellsMade a_s_classes a_s_starts a_s_lengths a_s_cells a_L a_K a_vc a_vd a_si a_sj a_iv a_inn a_ac) := hD
      refine lv_iconst (v := 1) hx hb dX9_end_19 (by decide) ?_
      subst hAe
      rw [hQ]
      exact W.zret (v := 1) hx hb hr (by decide) (fun t ht hW => ⟨⟨1, _, rfl, ⟨n9, rfl, by exact ⟨by assumption, by assumption, by assumption, by assumption, by assumption, by assumption, ⟨by omega, by omega⟩, ⟨by omega, by omega⟩, by omega, by assumption⟩, by first | assumption | omega | (intros; omega) | decide⟩, by rw [ht]; exact hP, va_K.moved hW.alike hK, hD⟩, hS.F ht⟩) hS.2.2 dX9_end_20
    · skip
      refine lv_iconst (v := 0) hx hb dX9_end_12 (by decide) ?_
      subst hAe
      rw [hQ]
      exact W.zret (v := 0) hx hb hr (by decide) (fun t ht hW => ⟨⟨0, _, rfl, ⟨v_t_tapeSize, rfl, by exact ⟨by assumption, by assumption, by assumption, by assumption, by assumption, by assumption, ⟨by omega, by omega⟩, ⟨by omega, by omega⟩, by omega, by assumption⟩, by first | assumption | omega | (intros; omega) | decide⟩, by rw [ht]; exact hP, va_K.moved hW.alike hK, hD⟩, hS.F ht⟩) hS.2.2 dX9_end_13

def rmX9_fault : Room := { frames := 20, cells := 0, slots := 0, locals := 400 }
set_option maxHeartbeats 4000000 in
set_option maxRecDepth 100000 in
theorem tX9_fault {l : Launch} {D : va_G} {K : Nat → Nat → Nat} {cs : Nat → ClassId} {q : Nat → Nat} {v_t_tapeSize v_t_textSize v_t_faultKind v_g_size v_h_size v_r_takes v_r_negative v_r_namePlace v_r_faultKind v_r_faultPlace v_a_size v_a_limit v_a_digits v_a_kind v_a_from v_a_to v_o_size v_b_size v_b_limit v_b_digits v_b_kind v_b_from v_b_to v_u_marksMade v_u_came v_u_guesses v_u_right v_u_taken v_s_things v_s_looked v_s_lookedTooOften v_s_arraysMade v_s_cellsMade : Int32} {a_t_tape a_t_text a_o_out a_u_outcomes a_u_indexes a_s_classes a_s_starts a_s_lengths a_vc : Nat → Int32} {a_g_beyond a_h_beyond a_r_scratch a_r_now a_u_atom a_u_other a_u_hand : Nat} {a_g_steps a_h_steps a_u_vars a_u_marks : Nat → Option Nat} {a_s_cells a_vd a_sj : Nat → Int64} {a_L : List Nat} {a_K a_iv a_inn : Nat → Nat} {a_si a_ac : Nat → Nat → Int32} (p_0 : TRN a_L a_K a_si a_iv a_inn a_g_beyond a_h_beyond a_r_scratch a_g_steps a_h_steps a_u_atom a_u_other a_u_hand a_u_vars a_u_marks a_r_now v_a_size v_a_limit v_a_digits v_a_kind v_a_from v_a_to v_b_size v_b_limit v_b_digits v_b_kind v_b_from v_b_to v_s_things v_s_cellsMade a_s_starts a_s_lengths v_t_tapeSize v_o_size v_u_marksMade a_t_tape) : CtI l yX9_fault (wG yX9_fault cX9_fault 1 (some .int)) rmX9_fault D (twT cs) K [.ref (q 0)] (tw cs q v_t_tapeSize v_t_textSize v_t_faultKind a_t_tape a_t_text a_g_beyond v_g_size a_g_steps a_h_beyond v_h_size a_h_steps a_r_scratch a_r_now v_r_takes v_r_negative v_r_namePlace v_r_faultKind v_r_faultPlace v_a_size v_a_limit v_a_digits v_a_kind v_a_from v_a_to v_o_size a_o_out v_b_size v_b_limit v_b_digits v_b_kind v_b_from v_b_to a_u_atom a_u_other a_u_hand v_u_marksMade v_u_came v_u_guesses v_u_right v_u_taken a_u_vars a_u_marks a_u_outcomes a_u_indexes v_s_things v_s_looked v_s_lookedTooOften v_s_arraysMade v_s_cellsMade a_s_classes a_s_starts a_s_lengths a_s_cells a_L a_K a_vc a_vd a_si a_sj a_iv a_inn a_ac) (fun r w1 => w1 = (tw cs q v_t_tapeSize v_t_textSize v_t_faultKind a_t_tape a_t_text a_g_beyond v_g_size a_g_steps a_h_beyond v_h_size a_h_steps a_r_scratch a_r_now v_r_takes v_r_negative v_r_namePlace v_r_faultKind v_r_faultPlace v_a_size v_a_limit v_a_digits v_a_kind v_a_from v_a_to v_o_size a_o_out v_b_size v_b_limit v_b_digits v_b_kind v_b_from v_b_to a_u_atom a_u_other a_u_hand v_u_marksMade v_u_came v_u_guesses v_u_right v_u_taken a_u_vars a_u_marks a_u_outcomes a_u_indexes v_s_things v_s_looked v_s_lookedTooOften v_s_arraysMade v_s_cellsMade a_s_classes a_s_starts a_s_lengths a_s_cells a_L a_K a_vc a_vd a_si a_sj a_iv a_inn a_ac) ∧ (TRN a_L a_K a_si a_iv a_inn a_g_beyond a_h_beyond a_r_scratch a_g_steps a_h_steps a_u_atom a_u_other a_u_hand a_u_vars a_u_marks a_r_now v_a_size v_a_limit v_a_digits v_a_kind v_a_from v_a_to v_b_size v_b_limit v_b_digits v_b_kind v_b_from v_b_to v_s_things v_s_cellsMade a_s_starts a_s_lengths v_t_tapeSize v_o_size v_u_marksMade a_t_tape)) 0 0 := by
  intro sz
  refine Met.ofW (cc := cX9_fault) (maxL := 1) (ret := (some .int)) (by decide) rfl ?_
  intro p e s m args below meth c s₁ B hml hv
  obtain ⟨rfl, hsz, hP, hK, hD0, hE⟩ := hv
  have hx := B.exec
  have hb := B.bytes
  have hr := B.returns
  have hts := atoms_spec (ws := (wG yX9_fault cX9_fault 1 (some .int))) B.pre
  have hown : s.vm.findClass RX9 = some m.cls := findClass_of_methodNamed B.named
  have hlocks := B.notSynchronized
  subst hsz
  have hD := hD0.self (sz := s.heap.size)
  obtain ⟨A, hAe⟩ : ∃ A : Nat → Prop, A = va_A (tw cs q v_t_tapeSize v_t_textSize v_t_faultKind a_t_tape a_t_text a_g_beyond v_g_size a_g_steps a_h_beyond v_h_size a_h_steps a_r_scratch a_r_now v_r_takes v_r_negative v_r_namePlace v_r_faultKind v_r_faultPlace v_a_size v_a_limit v_a_digits v_a_kind v_a_from v_a_to v_o_size a_o_out v_b_size v_b_limit v_b_digits v_b_kind v_b_from v_b_to a_u_atom a_u_other a_u_hand v_u_marksMade v_u_came v_u_guesses v_u_right v_u_taken a_u_vars a_u_marks a_u_outcomes a_u_indexes v_s_things v_s_looked v_s_lookedTooOften v_s_arraysMade v_s_cellsMade a_s_classes a_s_starts a_s_lengths a_s_cells a_L a_K a_vc a_vd a_si a_sj a_iv a_inn a_ac) s.heap.size := ⟨_, rfl⟩
  rw [← hAe] at hD hE
  have hA : ∀ q : Nat, s.heap.size ≤ q → A q := fun q h => by rw [hAe]; exact Or.inr h
  have hS : va_S A s.heap s.heap [] := va_S.rf
  have hl := lv_entry ([.ref (q 0)]) (n := 1) (Nat.le_of_ble_eq_true rfl)
  rw [lg_entry_eq]
  generalize (lg_sl ([.ref (q 0)]) ++ List.replicate (1 - (lg_sl ([.ref (q 0)])).length) Slot.unset).toArray = ls at hl ⊢
  have hl : lv_has ls 1 [(0, .ref (q 0))] := hl
  refine wq (fun Q hQ => ?_)
  have hinX9 : ∀ w ∈ wsX90, w ∈ (wG yX9_fault cX9_fault 1 (some .int)) := fun w h => List.mem_cons_of_mem _ (inlX9 w h)
  have k_8_4 := hts (.fieldLink RX9 69 "ArrayTrainer" "faultKind" "I") (List.mem_cons_of_mem _ (wr8 _ (List.mem_of_getElem? (i := 4) rfl)))
  obtain ⟨H, hH⟩ : ∃ H : Heap, H = s.heap := ⟨_, rfl⟩
  obtain ⟨locs, hlc⟩ : ∃ L : List Loc, L = [] := ⟨_, rfl⟩
  have hP : va_P D vwCl (tw cs q v_t_tapeSize v_t_textSize v_t_faultKind a_t_tape a_t_text a_g_beyond v_g_size a_g_steps a_h_beyond v_h_size a_h_steps a_r_scratch a_r_now v_r_takes v_r_negative v_r_namePlace v_r_faultKind v_r_faultPlace v_a_size v_a_limit v_a_digits v_a_kind v_a_from v_a_to v_o_size a_o_out v_b_size v_b_limit v_b_digits v_b_kind v_b_from v_b_to a_u_atom a_u_other a_u_hand v_u_marksMade v_u_came v_u_guesses v_u_right v_u_taken a_u_vars a_u_marks a_u_outcomes a_u_indexes v_s_things v_s_looked v_s_lookedTooOften v_s_arraysMade v_s_cellsMade a_s_classes a_s_starts a_s_lengths a_s_cells a_L a_K a_vc a_vd a_si a_sj a_iv a_inn a_ac) H := by rw [hH]; exact hP
  have hS : va_S A s.heap H locs := by rw [hH, hlc]; exact hS
  refine wHL hH hlc ?_
  obtain ⟨hRF, hPI, hNow, hLA, hLB, hSTO, ⟨ht0, ht1⟩, ⟨ho0, ho1⟩, hm0, hFB⟩ := id p_0
  refine lv_aload_n hx hb dX9_fault_0 rfl (lv_at hl 0 rfl) ?_
  refine va_get (D := D) (ci := 8) (v := .int v_t_faultKind) (C := RX9) (T := TX9) (N := 10) hx hb hts hinX9 hown hK hP 0 rfl rfl 6 (by decide) k_8_4 (fun _ h9 => h9) rfl dX9_fault_1 ?_
  subst hAe
  rw [hQ]
  exact W.iret (v := v_t_faultKind) hx hb hr (fun t ht hW => ⟨⟨v_t_faultKind, _, rfl, ⟨rfl, by exact ⟨by assumption, by assumption, by assumption, by assumption, by assumption, by assumption, ⟨by omega, by omega⟩, ⟨by omega, by omega⟩, by omega, by assumption⟩⟩, by rw [ht]; exact hP, va_K.moved hW.alike hK, hD⟩, hS.F ht⟩) hS.2.2 dX9_fault_4

def rmX9_look : Room := { frames := 80, cells := 0, slots := 0, locals := 1600 }
set_option maxHeartbeats 4000000 in
set_option maxRecDepth 100000 in
theorem tX9_look {l : Launch} {D : va_G} {K : Nat → Nat → Nat} {cs : Nat → ClassId} {q : Nat → Nat} {v_t_tapeSize v_t_textSize v_t_faultKind v_g_size v_h_size v_r_takes v_r_negative v_r_namePlace v_r_faultKind v_r_faultPlace v_a_size v_a_limit v_a_digits v_a_kind v_a_from v_a_to v_o_size v_b_size v_b_limit v_b_digits v_b_kind v_b_from v_b_to v_u_marksMade v_u_came v_u_guesses v_u_right v_u_taken v_s_things v_s_looked v_s_lookedTooOften v_s_arraysMade v_s_cellsMade : Int32} {a_t_tape a_t_text a_o_out a_u_outcomes a_u_indexes a_s_classes a_s_starts a_s_lengths a_vc : Nat → Int32} {a_g_beyond a_h_beyond a_r_scratch a_r_now a_u_atom a_u_other a_u_hand : Nat} {a_g_steps a_h_steps a_u_vars a_u_marks : Nat → Option Nat} {a_s_cells a_vd a_sj : Nat → Int64} {a_L : List Nat} {a_K a_iv a_inn : Nat → Nat} {a_si a_ac : Nat → Nat → Int32} (v9 : Int32) (i9 : Int32) (j9 : Int32) (k9 : Int32) (w9 : Int32) (p_0 : TRN a_L a_K a_si a_iv a_inn a_g_beyond a_h_beyond a_r_scratch a_g_steps a_h_steps a_u_atom a_u_other a_u_hand a_u_vars a_u_marks a_r_now v_a_size v_a_limit v_a_digits v_a_kind v_a_from v_a_to v_b_size v_b_limit v_b_digits v_b_kind v_b_from v_b_to v_s_things v_s_cellsMade a_s_starts a_s_lengths v_t_tapeSize v_o_size v_u_marksMade a_t_tape) : CtI l yX9_look (wG yX9_look cX9_look 6 (some .int)) rmX9_look D (twT cs) K [.ref (q 0), .int v9, .int i9, .int j9, .int k9, .int w9] (tw cs q v_t_tapeSize v_t_textSize v_t_faultKind a_t_tape a_t_text a_g_beyond v_g_size a_g_steps a_h_beyond v_h_size a_h_steps a_r_scratch a_r_now v_r_takes v_r_negative v_r_namePlace v_r_faultKind v_r_faultPlace v_a_size v_a_limit v_a_digits v_a_kind v_a_from v_a_to v_o_size a_o_out v_b_size v_b_limit v_b_digits v_b_kind v_b_from v_b_to a_u_atom a_u_other a_u_hand v_u_marksMade v_u_came v_u_guesses v_u_right v_u_taken a_u_vars a_u_marks a_u_outcomes a_u_indexes v_s_things v_s_looked v_s_lookedTooOften v_s_arraysMade v_s_cellsMade a_s_classes a_s_starts a_s_lengths a_s_cells a_L a_K a_vc a_vd a_si a_sj a_iv a_inn a_ac) (fun r w1 => ∃ (a_vc' : Nat → Int32) (a_vd' : Nat → Int64), w1 = (tw cs q v_t_tapeSize v_t_textSize v_t_faultKind a_t_tape a_t_text a_g_beyond v_g_size a_g_steps a_h_beyond v_h_size a_h_steps a_r_scratch a_r_now v_r_takes v_r_negative v_r_namePlace v_r_faultKind v_r_faultPlace v_a_size v_a_limit v_a_digits v_a_kind v_a_from v_a_to v_o_size a_o_out v_b_size v_b_limit v_b_digits v_b_kind v_b_from v_b_to a_u_atom a_u_other a_u_hand v_u_marksMade v_u_came v_u_guesses v_u_right v_u_taken a_u_vars a_u_marks a_u_outcomes a_u_indexes v_s_things v_s_looked v_s_lookedTooOften v_s_arraysMade v_s_cellsMade a_s_classes a_s_starts a_s_lengths a_s_cells a_L a_K a_vc' a_vd' a_si a_sj a_iv a_inn a_ac) ∧ (TRN a_L a_K a_si a_iv a_inn a_g_beyond a_h_beyond a_r_scratch a_g_steps a_h_steps a_u_atom a_u_other a_u_hand a_u_vars a_u_marks a_r_now v_a_size v_a_limit v_a_digits v_a_kind v_a_from v_a_to v_b_size v_b_limit v_b_digits v_b_kind v_b_from v_b_to v_s_things v_s_cellsMade a_s_starts a_s_lengths v_t_tapeSize v_o_size v_u_marksMade a_t_tape)) 0 0 := by
  intro sz
  refine Met.ofW (cc := cX9_look) (maxL := 6) (ret := (some .int)) (by decide) rfl ?_
  intro p e s m args below meth c s₁ B hml hv
  obtain ⟨rfl, hsz, hP, hK, hD0, hE⟩ := hv
  have hx := B.exec
  have hb := B.bytes
  have hr := B.returns
  have hts := atoms_spec (ws := (wG yX9_look cX9_look 6 (some .int))) B.pre
  have hown : s.vm.findClass RX9 = some m.cls := findClass_of_methodNamed B.named
  have hlocks := B.notSynchronized
  subst hsz
  have hD := hD0.self (sz := s.heap.size)
  obtain ⟨A, hAe⟩ : ∃ A : Nat → Prop, A = va_A (tw cs q v_t_tapeSize v_t_textSize v_t_faultKind a_t_tape a_t_text a_g_beyond v_g_size a_g_steps a_h_beyond v_h_size a_h_steps a_r_scratch a_r_now v_r_takes v_r_negative v_r_namePlace v_r_faultKind v_r_faultPlace v_a_size v_a_limit v_a_digits v_a_kind v_a_from v_a_to v_o_size a_o_out v_b_size v_b_limit v_b_digits v_b_kind v_b_from v_b_to a_u_atom a_u_other a_u_hand v_u_marksMade v_u_came v_u_guesses v_u_right v_u_taken a_u_vars a_u_marks a_u_outcomes a_u_indexes v_s_things v_s_looked v_s_lookedTooOften v_s_arraysMade v_s_cellsMade a_s_classes a_s_starts a_s_lengths a_s_cells a_L a_K a_vc a_vd a_si a_sj a_iv a_inn a_ac) s.heap.size := ⟨_, rfl⟩
  rw [← hAe] at hD hE
  have hA : ∀ q : Nat, s.heap.size ≤ q → A q := fun q h => by rw [hAe]; exact Or.inr h
  have hS : va_S A s.heap s.heap [] := va_S.rf
  have hl := lv_entry ([.ref (q 0), .int v9, .int i9, .int j9, .int k9, .int w9]) (n := 6) (Nat.le_of_ble_eq_true rfl)
  rw [lg_entry_eq]
  generalize (lg_sl ([.ref (q 0), .int v9, .int i9, .int j9, .int k9, .int w9]) ++ List.replicate (6 - (lg_sl ([.ref (q 0), .int v9, .int i9, .int j9, .int k9, .int w9])).length) Slot.unset).toArray = ls at hl ⊢
  have hl : lv_has ls 6 [(0, .ref (q 0)), (1, .int v9), (2, .int i9), (3, .int j9), (4, .int k9), (5, .int w9)] := hl
  refine wq (fun Q hQ => ?_)
  have hinX4 : ∀ w ∈ wsX40, w ∈ (wG yX9_look cX9_look 6 (some .int)) := fun w h => List.mem_cons_of_mem _ (inlX4 w h)
  have hinX8 : ∀ w ∈ wsX80, w ∈ (wG yX9_look cX9_look 6 (some .int)) := fun w h => List.mem_cons_of_mem _ (inlX8 w h)
  have hinX9 : ∀ w ∈ wsX90, w ∈ (wG yX9_look cX9_look 6 (some .int)) := fun w h => List.mem_cons_of_mem _ (inlX9 w h)
  have kc0 : (-2 : Int32).toInt = -2 := by decide
  have kc1 : (-1 : Int32).toInt = -1 := by decide
  have kc2 : (1 : Int32).toInt = 1 := by decide
  have k_2_11 := hts (.fieldLink RX9 50 "ArrayTrainer" "runner" "LArrayTrainer$Runner;") (List.mem_cons_of_mem _ (wr2 _ (List.mem_of_getElem? (i := 11) rfl)))
  have k_53_20 := hts (.fieldLink RX9 132 "ArrayTrainer$Runner" "hand" "LArrayTrainer$Value;") (List.mem_cons_of_mem _ (wr53 _ (List.mem_of_getElem? (i := 20) rfl)))
  have k_53_21 := hts (.fieldLink RX9 136 "ArrayTrainer$Value" "cls" "I") (List.mem_cons_of_mem _ (wr53 _ (List.mem_of_getElem? (i := 21) rfl)))
  obtain ⟨H, hH⟩ : ∃ H : Heap, H = s.heap := ⟨_, rfl⟩
  obtain ⟨locs, hlc⟩ : ∃ L : List Loc, L = [] := ⟨_, rfl⟩
  have hP : va_P D vwCl (tw cs q v_t_tapeSize v_t_textSize v_t_faultKind a_t_tape a_t_text a_g_beyond v_g_size a_g_steps a_h_beyond v_h_size a_h_steps a_r_scratch a_r_now v_r_takes v_r_negative v_r_namePlace v_r_faultKind v_r_faultPlace v_a_size v_a_limit v_a_digits v_a_kind v_a_from v_a_to v_o_size a_o_out v_b_size v_b_limit v_b_digits v_b_kind v_b_from v_b_to a_u_atom a_u_other a_u_hand v_u_marksMade v_u_came v_u_guesses v_u_right v_u_taken a_u_vars a_u_marks a_u_outcomes a_u_indexes v_s_things v_s_looked v_s_lookedTooOften v_s_arraysMade v_s_cellsMade a_s_classes a_s_starts a_s_lengths a_s_cells a_L a_K a_vc a_vd a_si a_sj a_iv a_inn a_ac) H := by rw [hH]; exact hP
  have hS : va_S A s.heap H locs := by rw [hH, hlc]; exact hS
  refine wHL hH hlc ?_
  have b_v9 := iB v9
  have b_i9 := iB i9
  have b_j9 := iB j9
  have b_k9 := iB k9
  have b_w9 := iB w9
  obtain ⟨hRF, hPI, hNow, hLA, hLB, hSTO, ⟨ht0, ht1⟩, ⟨ho0, ho1⟩, hm0, hFB⟩ := id p_0
  refine lv_iload hx hb dX9_look_0 (lv_at hl 5 rfl) ?_
  have J13 : ∀ (H : Heap) (locs : List Loc) (ls : Array Slot), va_P D vwCl (tw cs q v_t_tapeSize v_t_textSize v_t_faultKind a_t_tape a_t_text a_g_beyond v_g_size a_g_steps a_h_beyond v_h_size a_h_steps a_r_scratch a_r_now v_r_takes v_r_negative v_r_namePlace v_r_faultKind v_r_faultPlace v_a_size v_a_limit v_a_digits v_a_kind v_a_from v_a_to v_o_size a_o_out v_b_size v_b_limit v_b_digits v_b_kind v_b_from v_b_to a_u_atom a_u_other a_u_hand v_u_marksMade v_u_came v_u_guesses v_u_right v_u_taken a_u_vars a_u_marks a_u_outcomes a_u_indexes v_s_things v_s_looked v_s_lookedTooOften v_s_arraysMade v_s_cellsMade a_s_classes a_s_starts a_s_lengths a_s_cells a_L a_K a_vc a_vd a_si a_sj a_iv a_inn a_ac) H → va_D A (tw cs q v_t_tapeSize v_t_textSize v_t_faultKind a_t_tape a_t_text a_g_beyond v_g_size a_g_steps a_h_beyond v_h_size a_h_steps a_r_scratch a_r_now v_r_takes v_r_negative v_r_namePlace v_r_faultKind v_r_faultPlace v_a_size v_a_limit v_a_digits v_a_kind v_a_from v_a_to v_o_size a_o_out v_b_size v_b_limit v_b_digits v_b_kind v_b_from v_b_to a_u_atom a_u_other a_u_hand v_u_marksMade v_u_came v_u_guesses v_u_right v_u_taken a_u_vars a_u_marks a_u_outcomes a_u_indexes v_s_things v_s_looked v_s_lookedTooOften v_s_arraysMade v_s_cellsMade a_s_classes a_s_starts a_s_lengths a_s_cells a_L a_K a_vc a_vd a_si a_sj a_iv a_inn a_ac) → va_S A s.heap H locs → lv_has ls 6 [(0, .ref (q 0)), (1, .int v9), (2, .int i9), (3, .int j9), (4, .int k9), (5, .int w9)] → W p l e (headSpec (wG yX9_look cX9_look 6 (some .int)) rmX9_look).room s m ([.ref (q 0), .int v9, .int i9, .int j9, .int k9, .int w9] : List Value).toArray below meth c H locs 0 0 Q (F0 m 13 ls []) := by
    intro H locs ls hP hD hS hl
    refine lv_aload_n hx hb dX9_look_13 rfl (lv_at hl 0 rfl) ?_
    refine va_get (D := D) (ci := 8) (v := .ref (q 12)) (C := RX9) (T := TX9) (N := 10) hx hb hts hinX9 hown hK hP 0 rfl rfl 9 (by decide) k_2_11 (fun _ h9 => h9) rfl dX9_look_14 ?_
    refine lv_iload_n hx hb dX9_look_17 rfl (lv_at hl 1 rfl) ?_
    refine lv_iload_n hx hb dX9_look_18 rfl (lv_at hl 2 rfl) ?_
    refine lv_iload_n hx hb dX9_look_19 rfl (lv_at hl 3 rfl) ?_
    refine lv_iload hx hb dX9_look_20 (lv_at hl 4 rfl) ?_
    refine call_i (As := [.int v9, .int i9, .int j9, .int k9]) (rest := []) ⟨hx, hb, hml, hown, hts⟩ (tX4_walk (l := l) v9 i9 j9 k9 (by first | assumption | omega | (intros; omega) | decide) (by first | assumption | omega | (intros; omega) | decide)) (cwV 4 hts (gV (wr53 _ (List.mem_of_getElem? (i := 22) rfl)) (wr53 _ (List.mem_of_getElem? (i := 23) rfl)) (wr54 _ (List.mem_of_getElem? (i := 0) rfl)) (wr2 _ (List.mem_of_getElem? (i := 10) rfl)) (wr54 _ (List.mem_of_getElem? (i := 1) rfl))) rfl rfl rfl (by decide +kernel) ⟨Nat.le_of_ble_eq_true rfl, Nat.le_of_ble_eq_true rfl⟩) (va_recv hK hP (ci := 3) (q0 := 12) rfl rfl) hK hP hD hE hS hA rfl hl.1 rfl (Nat.le_of_ble_eq_true rfl) dX9_look_22 ⟨Nat.le_of_ble_eq_true rfl, Nat.le_of_ble_eq_true rfl⟩ (fun r22 w9 H locs hw22 hP hD hS => ?_)
    obtain ⟨a_vc_22, a_vd_22, rfl, hw22_0⟩ := hw22
    have b_r22 := iB r22
    refine m_if_ne (X := r22.toInt) (tgt := 40) hx hb dX9_look_25 (by decide) rfl (fun c25 => ?_) (fun c25 => ?_)
    · skip
      refine lv_iload hx hb dX9_look_40 (lv_at hl 5 rfl) ?_
      refine m_if_ne (X := w9.toInt) (tgt := 58) hx hb dX9_look_42 (by decide) rfl (fun c42 => ?_) (fun c42 => ?_)
      · skip
        refine lv_aload_n hx hb dX9_look_58 rfl (lv_at hl 0 rfl) ?_
        refine va_get (D := D) (ci := 8) (v := .ref (q 12)) (C := RX9) (T := TX9) (N := 10) hx hb hts hinX9 hown hK hP 0 rfl rfl 9 (by decide) k_2_11 (fun _ h9 => h9) rfl dX9_look_59 ?_
        refine call_i (As := []) (rest := []) ⟨hx, hb, hml, hown, hts⟩ (tX4_handLength (l := l)  (by first | assumption | omega | (intros; omega) | decide) (by first | assumption | omega | (intros; omega) | decide)) (cwV 0 hts (gV (wr54 _ (List.mem_of_getElem? (i := 2) rfl)) (wr54 _ (List.mem_of_getElem? (i := 3) rfl)) (wr54 _ (List.mem_of_getElem? (i := 4) rfl)) (wr2 _ (List.mem_of_getElem? (i := 10) rfl)) (wr54 _ (List.mem_of_getElem? (i := 5) rfl))) rfl rfl rfl (by decide +kernel) ⟨Nat.le_of_ble_eq_true rfl, Nat.le_of_ble_eq_true rfl⟩) (va_recv hK hP (ci := 3) (q0 := 12) rfl rfl) hK hP hD hE hS hA rfl hl.1 rfl (Nat.le_of_ble_eq_true rfl) dX9_look_62 ⟨Nat.le_of_ble_eq_true rfl, Nat.le_of_ble_eq_true rfl⟩ (fun r62 w9 H locs hw62 hP hD hS => ?_)
        obtain ⟨rfl⟩ := hw62
        have b_r62 := iB r62
        subst hAe
        rw [hQ]
        exact W.iret (v := r62) hx hb hr (fun t ht hW => ⟨⟨r62, _, rfl, ⟨a_vc_22, a_vd_22, rfl, by exact ⟨by assumption, by assumption, by assumption, by assumption, by assumption, by assumption, ⟨by omega, by omega⟩, ⟨by omega, by omega⟩, by omega, by assumption⟩⟩, by rw [ht]; exact hP, va_K.moved hW.alike hK, hD⟩, hS.F ht⟩) hS.2.2 dX9_look_65
      · skip
        refine lv_aload_n hx hb dX9_look_45 rfl (lv_at hl 0 rfl) ?_
        refine va_get (D := D) (ci := 8) (v := .ref (q 12)) (C := RX9) (T := TX9) (N := 10) hx hb hts hinX9 hown hK hP 0 rfl rfl 9 (by decide) k_2_11 (fun _ h9 => h9) rfl dX9_look_46 ?_
        have hf49 : aV a_L a_K a_u_hand := by first | assumption | exact RF.z_uH (by assumption)
        refine va_get (D := D) (ci := 3) (v := .ref a_u_hand) (C := RX4) (T := TX4) (N := 13) hx hb hts hinX4 hown hK hP 12 rfl rfl 7 (by decide) k_53_20 (fun _ h9 => h9) rfl dX9_look_49 ?_
        obtain ⟨k52_, hk52_⟩ := pl_V (X := (twX cs q v_t_tapeSize v_t_textSize v_t_faultKind a_t_tape a_t_text a_g_beyond v_g_size a_g_steps a_h_beyond v_h_size a_h_steps a_r_scratch a_r_now v_r_takes v_r_negative v_r_namePlace v_r_faultKind v_r_faultPlace v_a_size v_a_limit v_a_digits v_a_kind v_a_from v_a_to v_o_size a_o_out v_b_size v_b_limit v_b_digits v_b_kind v_b_from v_b_to a_u_atom a_u_other a_u_hand v_u_marksMade v_u_came v_u_guesses v_u_right v_u_taken a_u_vars a_u_marks a_u_outcomes a_u_indexes v_s_things v_s_looked v_s_lookedTooOften v_s_arraysMade v_s_cellsMade a_s_classes a_s_starts a_s_lengths a_s_cells)) (cI := cs 0) (vc := a_vc_22) (vd := a_vd_22) (si := a_si) (sj := a_sj) (iv := a_iv) (inn := a_inn) (ac := a_ac) hf49
        refine va_get (D := D) (ci := 7) (v := .int (a_vc_22 a_u_hand)) (C := RX8) (T := TX8) (N := 2) hx hb hts hinX8 hown hK hP k52_ hk52_ rfl 0 (by decide) k_53_21 (fun _ h9 => h9) rfl dX9_look_52 ?_
        refine lv_topi (fun x52 e_x52 => ?_)
        have b_x52 := iB x52
        refine lv_goto (tgt := 65) hx hb dX9_look_55 (by decide) ?_
        subst hAe
        rw [hQ]
        exact W.iret (v := x52) hx hb hr (fun t ht hW => ⟨⟨x52, _, rfl, ⟨a_vc_22, a_vd_22, rfl, by exact ⟨by assumption, by assumption, by assumption, by assumption, by assumption, by assumption, ⟨by omega, by omega⟩, ⟨by omega, by omega⟩, by omega, by assumption⟩⟩, by rw [ht]; exact hP, va_K.moved hW.alike hK, hD⟩, hS.F ht⟩) hS.2.2 dX9_look_65
    · skip
      refine lv_iload hx hb dX9_look_28 (lv_at hl 5 rfl) ?_
      refine m_if_ne (X := w9.toInt) (tgt := 38) hx hb dX9_look_30 (by decide) rfl (fun c30 => ?_) (fun c30 => ?_)
      · skip
        refine lv_iconst (v := (-1)) hx hb dX9_look_38 (by decide) ?_
        subst hAe
        rw [hQ]
        exact W.iret (v := (-1)) hx hb hr (fun t ht hW => ⟨⟨(-1), _, rfl, ⟨a_vc_22, a_vd_22, rfl, by exact ⟨by assumption, by assumption, by assumption, by assumption, by assumption, by assumption, ⟨by omega, by omega⟩, ⟨by omega, by omega⟩, by omega, by assumption⟩⟩, by rw [ht]; exact hP, va_K.moved hW.alike hK, hD⟩, hS.F ht⟩) hS.2.2 dX9_look_39
      · skip
        refine lv_bipush (v := (-2)) hx hb dX9_look_33 (by decide) ?_
        refine lv_goto (tgt := 39) hx hb dX9_look_35 (by decide) ?_
        subst hAe
        rw [hQ]
        exact W.iret (v := (-2)) hx hb hr (fun t ht hW => ⟨⟨(-2), _, rfl, ⟨a_vc_22, a_vd_22, rfl, by exact ⟨by assumption, by assumption, by assumption, by assumption, by assumption, by assumption, ⟨by omega, by omega⟩, ⟨by omega, by omega⟩, by omega, by assumption⟩⟩, by rw [ht]; exact hP, va_K.moved hW.alike hK, hD⟩, hS.F ht⟩) hS.2.2 dX9_look_39
  refine m_if_eq (X := w9.toInt) (tgt := 13) hx hb dX9_look_2 (by decide) rfl (fun c2 => ?_) (fun c2 => ?_)
  · skip
    exact J13 H locs ls hP hD hS (lv_sub hl [0, 1, 2, 3, 4, 5] rfl)
  · skip
    refine lv_iload hx hb dX9_look_5 (lv_at hl 5 rfl) ?_
    refine lv_iconst (v := 1) hx hb dX9_look_7 (by decide) ?_
    refine m_icmp_eq (X := w9.toInt) (Y := 1) (tgt := 13) hx hb dX9_look_8 (by decide) rfl (by decide) (fun c8 => ?_) (fun c8 => ?_)
    · skip
      exact J13 H locs ls hP hD hS (lv_sub hl [0, 1, 2, 3, 4, 5] rfl)
    · skip
      refine lv_iconst (v := (-1)) hx hb dX9_look_11 (by decide) ?_
      subst hAe
      rw [hQ]
      exact W.iret (v := (-1)) hx hb hr (fun t ht hW => ⟨⟨(-1), _, rfl, ⟨a_vc, a_vd, rfl, by exact ⟨by assumption, by assumption, by assumption, by assumption, by assumption, by assumption, ⟨by omega, by omega⟩, ⟨by omega, by omega⟩, by omega, by assumption⟩⟩, by rw [ht]; exact hP, va_K.moved hW.alike hK, hD⟩, hS.F ht⟩) hS.2.2 dX9_look_12

def rmX9_same : Room := { frames := 100, cells := 0, slots := 0, locals := 2000 }
set_option maxHeartbeats 4000000 in
set_option maxRecDepth 100000 in
theorem tX9_same {l : Launch} {D : va_G} {K : Nat → Nat → Nat} {cs : Nat → ClassId} {q : Nat → Nat} {v_t_tapeSize v_t_textSize v_t_faultKind v_g_size v_h_size v_r_takes v_r_negative v_r_namePlace v_r_faultKind v_r_faultPlace v_a_size v_a_limit v_a_digits v_a_kind v_a_from v_a_to v_o_size v_b_size v_b_limit v_b_digits v_b_kind v_b_from v_b_to v_u_marksMade v_u_came v_u_guesses v_u_right v_u_taken v_s_things v_s_looked v_s_lookedTooOften v_s_arraysMade v_s_cellsMade : Int32} {a_t_tape a_t_text a_o_out a_u_outcomes a_u_indexes a_s_classes a_s_starts a_s_lengths a_vc : Nat → Int32} {a_g_beyond a_h_beyond a_r_scratch a_r_now a_u_atom a_u_other a_u_hand : Nat} {a_g_steps a_h_steps a_u_vars a_u_marks : Nat → Option Nat} {a_s_cells a_vd a_sj : Nat → Int64} {a_L : List Nat} {a_K a_iv a_inn : Nat → Nat} {a_si a_ac : Nat → Nat → Int32} (v9 : Int32) (i9 : Int32) (w9 : Int32) (j9 : Int32) (p_0 : TRN a_L a_K a_si a_iv a_inn a_g_beyond a_h_beyond a_r_scratch a_g_steps a_h_steps a_u_atom a_u_other a_u_hand a_u_vars a_u_marks a_r_now v_a_size v_a_limit v_a_digits v_a_kind v_a_from v_a_to v_b_size v_b_limit v_b_digits v_b_kind v_b_from v_b_to v_s_things v_s_cellsMade a_s_starts a_s_lengths v_t_tapeSize v_o_size v_u_marksMade a_t_tape) : CtI l yX9_same (wG yX9_same cX9_same 5 (some .boolean)) rmX9_same D (twT cs) K [.ref (q 0), .int v9, .int i9, .int w9, .int j9] (tw cs q v_t_tapeSize v_t_textSize v_t_faultKind a_t_tape a_t_text a_g_beyond v_g_size a_g_steps a_h_beyond v_h_size a_h_steps a_r_scratch a_r_now v_r_takes v_r_negative v_r_namePlace v_r_faultKind v_r_faultPlace v_a_size v_a_limit v_a_digits v_a_kind v_a_from v_a_to v_o_size a_o_out v_b_size v_b_limit v_b_digits v_b_kind v_b_from v_b_to a_u_atom a_u_other a_u_hand v_u_marksMade v_u_came v_u_guesses v_u_right v_u_taken a_u_vars a_u_marks a_u_outcomes a_u_indexes v_s_things v_s_looked v_s_lookedTooOften v_s_arraysMade v_s_cellsMade a_s_classes a_s_starts a_s_lengths a_s_cells a_L a_K a_vc a_vd a_si a_sj a_iv a_inn a_ac) (fun r w1 => ∃ (a_vc' : Nat → Int32) (a_vd' : Nat → Int64), w1 = (tw cs q v_t_tapeSize v_t_textSize v_t_faultKind a_t_tape a_t_text a_g_beyond v_g_size a_g_steps a_h_beyond v_h_size a_h_steps a_r_scratch a_r_now v_r_takes v_r_negative v_r_namePlace v_r_faultKind v_r_faultPlace v_a_size v_a_limit v_a_digits v_a_kind v_a_from v_a_to v_o_size a_o_out v_b_size v_b_limit v_b_digits v_b_kind v_b_from v_b_to a_u_atom a_u_other a_u_hand v_u_marksMade v_u_came v_u_guesses v_u_right v_u_taken a_u_vars a_u_marks a_u_outcomes a_u_indexes v_s_things v_s_looked v_s_lookedTooOften v_s_arraysMade v_s_cellsMade a_s_classes a_s_starts a_s_lengths a_s_cells a_L a_K a_vc' a_vd' a_si a_sj a_iv a_inn a_ac) ∧ (TRN a_L a_K a_si a_iv a_inn a_g_beyond a_h_beyond a_r_scratch a_g_steps a_h_steps a_u_atom a_u_other a_u_hand a_u_vars a_u_marks a_r_now v_a_size v_a_limit v_a_digits v_a_kind v_a_from v_a_to v_b_size v_b_limit v_b_digits v_b_kind v_b_from v_b_to v_s_things v_s_cellsMade a_s_starts a_s_lengths v_t_tapeSize v_o_size v_u_marksMade a_t_tape)) 0 0 := by
  intro sz
  refine Met.ofW (cc := cX9_same) (maxL := 5) (ret := (some .boolean)) (by decide) rfl ?_
  intro p e s m args below meth c s₁ B hml hv
  obtain ⟨rfl, hsz, hP, hK, hD0, hE⟩ := hv
  have hx := B.exec
  have hb := B.bytes
  have hr := B.returns
  have hts := atoms_spec (ws := (wG yX9_same cX9_same 5 (some .boolean))) B.pre
  have hown : s.vm.findClass RX9 = some m.cls := findClass_of_methodNamed B.named
  have hlocks := B.notSynchronized
  subst hsz
  have hD := hD0.self (sz := s.heap.size)
  obtain ⟨A, hAe⟩ : ∃ A : Nat → Prop, A = va_A (tw cs q v_t_tapeSize v_t_textSize v_t_faultKind a_t_tape a_t_text a_g_beyond v_g_size a_g_steps a_h_beyond v_h_size a_h_steps a_r_scratch a_r_now v_r_takes v_r_negative v_r_namePlace v_r_faultKind v_r_faultPlace v_a_size v_a_limit v_a_digits v_a_kind v_a_from v_a_to v_o_size a_o_out v_b_size v_b_limit v_b_digits v_b_kind v_b_from v_b_to a_u_atom a_u_other a_u_hand v_u_marksMade v_u_came v_u_guesses v_u_right v_u_taken a_u_vars a_u_marks a_u_outcomes a_u_indexes v_s_things v_s_looked v_s_lookedTooOften v_s_arraysMade v_s_cellsMade a_s_classes a_s_starts a_s_lengths a_s_cells a_L a_K a_vc a_vd a_si a_sj a_iv a_inn a_ac) s.heap.size := ⟨_, rfl⟩
  rw [← hAe] at hD hE
  have hA : ∀ q : Nat, s.heap.size ≤ q → A q := fun q h => by rw [hAe]; exact Or.inr h
  have hS : va_S A s.heap s.heap [] := va_S.rf
  have hl := lv_entry ([.ref (q 0), .int v9, .int i9, .int w9, .int j9]) (n := 5) (Nat.le_of_ble_eq_true rfl)
  rw [lg_entry_eq]
  generalize (lg_sl ([.ref (q 0), .int v9, .int i9, .int w9, .int j9]) ++ List.replicate (5 - (lg_sl ([.ref (q 0), .int v9, .int i9, .int w9, .int j9])).length) Slot.unset).toArray = ls at hl ⊢
  have hl : lv_has ls 5 [(0, .ref (q 0)), (1, .int v9), (2, .int i9), (3, .int w9), (4, .int j9)] := hl
  refine wq (fun Q hQ => ?_)
  have hinX9 : ∀ w ∈ wsX90, w ∈ (wG yX9_same cX9_same 5 (some .boolean)) := fun w h => List.mem_cons_of_mem _ (inlX9 w h)
  have k_2_11 := hts (.fieldLink RX9 50 "ArrayTrainer" "runner" "LArrayTrainer$Runner;") (List.mem_cons_of_mem _ (wr2 _ (List.mem_of_getElem? (i := 11) rfl)))
  obtain ⟨H, hH⟩ : ∃ H : Heap, H = s.heap := ⟨_, rfl⟩
  obtain ⟨locs, hlc⟩ : ∃ L : List Loc, L = [] := ⟨_, rfl⟩
  have hP : va_P D vwCl (tw cs q v_t_tapeSize v_t_textSize v_t_faultKind a_t_tape a_t_text a_g_beyond v_g_size a_g_steps a_h_beyond v_h_size a_h_steps a_r_scratch a_r_now v_r_takes v_r_negative v_r_namePlace v_r_faultKind v_r_faultPlace v_a_size v_a_limit v_a_digits v_a_kind v_a_from v_a_to v_o_size a_o_out v_b_size v_b_limit v_b_digits v_b_kind v_b_from v_b_to a_u_atom a_u_other a_u_hand v_u_marksMade v_u_came v_u_guesses v_u_right v_u_taken a_u_vars a_u_marks a_u_outcomes a_u_indexes v_s_things v_s_looked v_s_lookedTooOften v_s_arraysMade v_s_cellsMade a_s_classes a_s_starts a_s_lengths a_s_cells a_L a_K a_vc a_vd a_si a_sj a_iv a_inn a_ac) H := by rw [hH]; exact hP
  have hS : va_S A s.heap H locs := by rw [hH, hlc]; exact hS
  refine wHL hH hlc ?_
  have b_v9 := iB v9
  have b_i9 := iB i9
  have b_w9 := iB w9
  have b_j9 := iB j9
  obtain ⟨hRF, hPI, hNow, hLA, hLB, hSTO, ⟨ht0, ht1⟩, ⟨ho0, ho1⟩, hm0, hFB⟩ := id p_0
  refine lv_aload_n hx hb dX9_same_0 rfl (lv_at hl 0 rfl) ?_
  refine va_get (D := D) (ci := 8) (v := .ref (q 12)) (C := RX9) (T := TX9) (N := 10) hx hb hts hinX9 hown hK hP 0 rfl rfl 9 (by decide) k_2_11 (fun _ h9 => h9) rfl dX9_same_1 ?_
  refine lv_iload_n hx hb dX9_same_4 rfl (lv_at hl 1 rfl) ?_
  refine lv_iload_n hx hb dX9_same_5 rfl (lv_at hl 2 rfl) ?_
  refine lv_iload_n hx hb dX9_same_6 rfl (lv_at hl 3 rfl) ?_
  refine lv_iload hx hb dX9_same_7 (lv_at hl 4 rfl) ?_
  refine call_i (As := [.int v9, .int i9, .int w9, .int j9]) (rest := []) ⟨hx, hb, hml, hown, hts⟩ (tX4_holdSameThing (l := l) v9 i9 w9 j9 (by first | assumption | omega | (intros; omega) | decide) (by first | assumption | omega | (intros; omega) | decide)) (cwV 4 hts (gV (wr55 _ (List.mem_of_getElem? (i := 11) rfl)) (wr55 _ (List.mem_of_getElem? (i := 12) rfl)) (wr55 _ (List.mem_of_getElem? (i := 13) rfl)) (wr2 _ (List.mem_of_getElem? (i := 10) rfl)) (wr55 _ (List.mem_of_getElem? (i := 14) rfl))) rfl rfl rfl (by decide +kernel) ⟨Nat.le_of_ble_eq_true rfl, Nat.le_of_ble_eq_true rfl⟩) (va_recv hK hP (ci := 3) (q0 := 12) rfl rfl) hK hP hD hE hS hA rfl hl.1 rfl (Nat.le_of_ble_eq_true rfl) dX9_same_9 ⟨Nat.le_of_ble_eq_true rfl, Nat.le_of_ble_eq_true rfl⟩ (fun r9 w9 H locs hw9 hP hD hS => ?_)
  obtain ⟨a_vc_9, a_vd_9, rfl, hw9_0⟩ := hw9
  have b_r9 := iB r9
  subst hAe
  rw [hQ]
  exact W.zret (v := r9) hx hb hr (nbool (by first | omega | decide)) (fun t ht hW => ⟨⟨r9, _, rfl, ⟨a_vc_9, a_vd_9, rfl, by exact ⟨by assumption, by assumption, by assumption, by assumption, by assumption, by assumption, ⟨by omega, by omega⟩, ⟨by omega, by omega⟩, by omega, by assumption⟩⟩, by rw [ht]; exact hP, va_K.moved hW.alike hK, hD⟩, hS.F ht⟩) hS.2.2 dX9_same_12

def rmX9_mark : Room := { frames := 40, cells := 0, slots := 0, locals := 800 }
set_option maxHeartbeats 4000000 in
set_option maxRecDepth 100000 in
theorem tX9_mark {l : Launch} {D : va_G} {K : Nat → Nat → Nat} {cs : Nat → ClassId} {q : Nat → Nat} {v_t_tapeSize v_t_textSize v_t_faultKind v_g_size v_h_size v_r_takes v_r_negative v_r_namePlace v_r_faultKind v_r_faultPlace v_a_size v_a_limit v_a_digits v_a_kind v_a_from v_a_to v_o_size v_b_size v_b_limit v_b_digits v_b_kind v_b_from v_b_to v_u_marksMade v_u_came v_u_guesses v_u_right v_u_taken v_s_things v_s_looked v_s_lookedTooOften v_s_arraysMade v_s_cellsMade : Int32} {a_t_tape a_t_text a_o_out a_u_outcomes a_u_indexes a_s_classes a_s_starts a_s_lengths a_vc : Nat → Int32} {a_g_beyond a_h_beyond a_r_scratch a_r_now a_u_atom a_u_other a_u_hand : Nat} {a_g_steps a_h_steps a_u_vars a_u_marks : Nat → Option Nat} {a_s_cells a_vd a_sj : Nat → Int64} {a_L : List Nat} {a_K a_iv a_inn : Nat → Nat} {a_si a_ac : Nat → Nat → Int32} (k9 : Int32) (w9 : Int32) (p_0 : TRN a_L a_K a_si a_iv a_inn a_g_beyond a_h_beyond a_r_scratch a_g_steps a_h_steps a_u_atom a_u_other a_u_hand a_u_vars a_u_marks a_r_now v_a_size v_a_limit v_a_digits v_a_kind v_a_from v_a_to v_b_size v_b_limit v_b_digits v_b_kind v_b_from v_b_to v_s_things v_s_cellsMade a_s_starts a_s_lengths v_t_tapeSize v_o_size v_u_marksMade a_t_tape) : CtI l yX9_mark (wG yX9_mark cX9_mark 3 (some .int)) rmX9_mark D (twT cs) K [.ref (q 0), .int k9, .int w9] (tw cs q v_t_tapeSize v_t_textSize v_t_faultKind a_t_tape a_t_text a_g_beyond v_g_size a_g_steps a_h_beyond v_h_size a_h_steps a_r_scratch a_r_now v_r_takes v_r_negative v_r_namePlace v_r_faultKind v_r_faultPlace v_a_size v_a_limit v_a_digits v_a_kind v_a_from v_a_to v_o_size a_o_out v_b_size v_b_limit v_b_digits v_b_kind v_b_from v_b_to a_u_atom a_u_other a_u_hand v_u_marksMade v_u_came v_u_guesses v_u_right v_u_taken a_u_vars a_u_marks a_u_outcomes a_u_indexes v_s_things v_s_looked v_s_lookedTooOften v_s_arraysMade v_s_cellsMade a_s_classes a_s_starts a_s_lengths a_s_cells a_L a_K a_vc a_vd a_si a_sj a_iv a_inn a_ac) (fun r w1 => w1 = (tw cs q v_t_tapeSize v_t_textSize v_t_faultKind a_t_tape a_t_text a_g_beyond v_g_size a_g_steps a_h_beyond v_h_size a_h_steps a_r_scratch a_r_now v_r_takes v_r_negative v_r_namePlace v_r_faultKind v_r_faultPlace v_a_size v_a_limit v_a_digits v_a_kind v_a_from v_a_to v_o_size a_o_out v_b_size v_b_limit v_b_digits v_b_kind v_b_from v_b_to a_u_atom a_u_other a_u_hand v_u_marksMade v_u_came v_u_guesses v_u_right v_u_taken a_u_vars a_u_marks a_u_outcomes a_u_indexes v_s_things v_s_looked v_s_lookedTooOften v_s_arraysMade v_s_cellsMade a_s_classes a_s_starts a_s_lengths a_s_cells a_L a_K a_vc a_vd a_si a_sj a_iv a_inn a_ac) ∧ (TRN a_L a_K a_si a_iv a_inn a_g_beyond a_h_beyond a_r_scratch a_g_steps a_h_steps a_u_atom a_u_other a_u_hand a_u_vars a_u_marks a_r_now v_a_size v_a_limit v_a_digits v_a_kind v_a_from v_a_to v_b_size v_b_limit v_b_digits v_b_kind v_b_from v_b_to v_s_things v_s_cellsMade a_s_starts a_s_lengths v_t_tapeSize v_o_size v_u_marksMade a_t_tape)) 0 0 := by
  intro sz
  refine Met.ofW (cc := cX9_mark) (maxL := 3) (ret := (some .int)) (by decide) rfl ?_
  intro p e s m args below meth c s₁ B hml hv
  obtain ⟨rfl, hsz, hP, hK, hD0, hE⟩ := hv
  have hx := B.exec
  have hb := B.bytes
  have hr := B.returns
  have hts := atoms_spec (ws := (wG yX9_mark cX9_mark 3 (some .int))) B.pre
  have hown : s.vm.findClass RX9 = some m.cls := findClass_of_methodNamed B.named
  have hlocks := B.notSynchronized
  subst hsz
  have hD := hD0.self (sz := s.heap.size)
  obtain ⟨A, hAe⟩ : ∃ A : Nat → Prop, A = va_A (tw cs q v_t_tapeSize v_t_textSize v_t_faultKind a_t_tape a_t_text a_g_beyond v_g_size a_g_steps a_h_beyond v_h_size a_h_steps a_r_scratch a_r_now v_r_takes v_r_negative v_r_namePlace v_r_faultKind v_r_faultPlace v_a_size v_a_limit v_a_digits v_a_kind v_a_from v_a_to v_o_size a_o_out v_b_size v_b_limit v_b_digits v_b_kind v_b_from v_b_to a_u_atom a_u_other a_u_hand v_u_marksMade v_u_came v_u_guesses v_u_right v_u_taken a_u_vars a_u_marks a_u_outcomes a_u_indexes v_s_things v_s_looked v_s_lookedTooOften v_s_arraysMade v_s_cellsMade a_s_classes a_s_starts a_s_lengths a_s_cells a_L a_K a_vc a_vd a_si a_sj a_iv a_inn a_ac) s.heap.size := ⟨_, rfl⟩
  rw [← hAe] at hD hE
  have hA : ∀ q : Nat, s.heap.size ≤ q → A q := fun q h => by rw [hAe]; exact Or.inr h
  have hS : va_S A s.heap s.heap [] := va_S.rf
  have hl := lv_entry ([.ref (q 0), .int k9, .int w9]) (n := 3) (Nat.le_of_ble_eq_true rfl)
  rw [lg_entry_eq]
  generalize (lg_sl ([.ref (q 0), .int k9, .int w9]) ++ List.replicate (3 - (lg_sl ([.ref (q 0), .int k9, .int w9])).length) Slot.unset).toArray = ls at hl ⊢
  have hl : lv_has ls 3 [(0, .ref (q 0)), (1, .int k9), (2, .int w9)] := hl
  refine wq (fun Q hQ => ?_)
  have hinX8 : ∀ w ∈ wsX80, w ∈ (wG yX9_mark cX9_mark 3 (some .int)) := fun w h => List.mem_cons_of_mem _ (inlX8 w h)
  have hinX9 : ∀ w ∈ wsX90, w ∈ (wG yX9_mark cX9_mark 3 (some .int)) := fun w h => List.mem_cons_of_mem _ (inlX9 w h)
  have kc0 : (-1 : Int32).toInt = -1 := by decide
  have k_2_11 := hts (.fieldLink RX9 50 "ArrayTrainer" "runner" "LArrayTrainer$Runner;") (List.mem_cons_of_mem _ (wr2 _ (List.mem_of_getElem? (i := 11) rfl)))
  have k_53_21 := hts (.fieldLink RX9 136 "ArrayTrainer$Value" "cls" "I") (List.mem_cons_of_mem _ (wr53 _ (List.mem_of_getElem? (i := 21) rfl)))
  obtain ⟨H, hH⟩ : ∃ H : Heap, H = s.heap := ⟨_, rfl⟩
  obtain ⟨locs, hlc⟩ : ∃ L : List Loc, L = [] := ⟨_, rfl⟩
  have hP : va_P D vwCl (tw cs q v_t_tapeSize v_t_textSize v_t_faultKind a_t_tape a_t_text a_g_beyond v_g_size a_g_steps a_h_beyond v_h_size a_h_steps a_r_scratch a_r_now v_r_takes v_r_negative v_r_namePlace v_r_faultKind v_r_faultPlace v_a_size v_a_limit v_a_digits v_a_kind v_a_from v_a_to v_o_size a_o_out v_b_size v_b_limit v_b_digits v_b_kind v_b_from v_b_to a_u_atom a_u_other a_u_hand v_u_marksMade v_u_came v_u_guesses v_u_right v_u_taken a_u_vars a_u_marks a_u_outcomes a_u_indexes v_s_things v_s_looked v_s_lookedTooOften v_s_arraysMade v_s_cellsMade a_s_classes a_s_starts a_s_lengths a_s_cells a_L a_K a_vc a_vd a_si a_sj a_iv a_inn a_ac) H := by rw [hH]; exact hP
  have hS : va_S A s.heap H locs := by rw [hH, hlc]; exact hS
  refine wHL hH hlc ?_
  have b_k9 := iB k9
  have b_w9 := iB w9
  obtain ⟨hRF, hPI, hNow, hLA, hLB, hSTO, ⟨ht0, ht1⟩, ⟨ho0, ho1⟩, hm0, hFB⟩ := id p_0
  refine lv_iload_n hx hb dX9_mark_0 rfl (lv_at hl 2 rfl) ?_
  refine m_if_ne (X := w9.toInt) (tgt := 19) hx hb dX9_mark_1 (by decide) rfl (fun c1 => ?_) (fun c1 => ?_)
  · skip
    refine lv_iconst (v := (-1)) hx hb dX9_mark_19 (by decide) ?_
    subst hAe
    rw [hQ]
    exact W.iret (v := (-1)) hx hb hr (fun t ht hW => ⟨⟨(-1), _, rfl, ⟨rfl, by exact ⟨by assumption, by assumption, by assumption, by assumption, by assumption, by assumption, ⟨by omega, by omega⟩, ⟨by omega, by omega⟩, by omega, by assumption⟩⟩, by rw [ht]; exact hP, va_K.moved hW.alike hK, hD⟩, hS.F ht⟩) hS.2.2 dX9_mark_20
  · skip
    refine lv_iload_n hx hb dX9_mark_4 rfl (lv_at hl 1 rfl) ?_
    refine m_if_lt (X := k9.toInt) (tgt := 19) hx hb dX9_mark_5 (by decide) rfl (fun c5 => ?_) (fun c5 => ?_)
    · skip
      refine lv_iconst (v := (-1)) hx hb dX9_mark_19 (by decide) ?_
      subst hAe
      rw [hQ]
      exact W.iret (v := (-1)) hx hb hr (fun t ht hW => ⟨⟨(-1), _, rfl, ⟨rfl, by exact ⟨by assumption, by assumption, by assumption, by assumption, by assumption, by assumption, ⟨by omega, by omega⟩, ⟨by omega, by omega⟩, by omega, by assumption⟩⟩, by rw [ht]; exact hP, va_K.moved hW.alike hK, hD⟩, hS.F ht⟩) hS.2.2 dX9_mark_20
    · skip
      refine lv_iload_n hx hb dX9_mark_8 rfl (lv_at hl 1 rfl) ?_
      refine lv_aload_n hx hb dX9_mark_9 rfl (lv_at hl 0 rfl) ?_
      refine va_get (D := D) (ci := 8) (v := .ref (q 12)) (C := RX9) (T := TX9) (N := 10) hx hb hts hinX9 hown hK hP 0 rfl rfl 9 (by decide) k_2_11 (fun _ h9 => h9) rfl dX9_mark_10 ?_
      refine call_i (As := []) (rest := [.int k9]) ⟨hx, hb, hml, hown, hts⟩ (tX4_marksKept (l := l) ) (cwV 0 hts (gV (wr56 _ (List.mem_of_getElem? (i := 0) rfl)) (wr56 _ (List.mem_of_getElem? (i := 1) rfl)) (wr56 _ (List.mem_of_getElem? (i := 2) rfl)) (wr2 _ (List.mem_of_getElem? (i := 10) rfl)) (wr56 _ (List.mem_of_getElem? (i := 3) rfl))) rfl rfl rfl (by decide +kernel) ⟨Nat.le_of_ble_eq_true rfl, Nat.le_of_ble_eq_true rfl⟩) (va_recv hK hP (ci := 3) (q0 := 12) rfl rfl) hK hP hD hE hS hA rfl hl.1 rfl (Nat.le_of_ble_eq_true rfl) dX9_mark_13 ⟨Nat.le_of_ble_eq_true rfl, Nat.le_of_ble_eq_true rfl⟩ (fun r13 w9 H locs hw13 hP hD hS => ?_)
      obtain ⟨rfl, hw13_0, hw13_1⟩ := hw13
      have b_r13 := iB r13
      refine m_icmp_lt (X := k9.toInt) (Y := r13.toInt) (tgt := 21) hx hb dX9_mark_16 (by decide) rfl rfl (fun c16 => ?_) (fun c16 => ?_)
      · skip
        refine lv_aload_n hx hb dX9_mark_21 rfl (lv_at hl 0 rfl) ?_
        refine va_get (D := D) (ci := 8) (v := .ref (q 12)) (C := RX9) (T := TX9) (N := 10) hx hb hts hinX9 hown hK hP 0 rfl rfl 9 (by decide) k_2_11 (fun _ h9 => h9) rfl dX9_mark_22 ?_
        refine lv_iload_n hx hb dX9_mark_25 rfl (lv_at hl 1 rfl) ?_
        refine call_r (As := [.int k9]) (rest := []) ⟨hx, hb, hml, hown, hts⟩ (tX4_markAt (l := l) k9 (by first | assumption | omega | (intros; omega) | decide)) (cwV 1 hts (gV (wr56 _ (List.mem_of_getElem? (i := 5) rfl)) (wr56 _ (List.mem_of_getElem? (i := 6) rfl)) (wr56 _ (List.mem_of_getElem? (i := 7) rfl)) (wr2 _ (List.mem_of_getElem? (i := 10) rfl)) (wr56 _ (List.mem_of_getElem? (i := 8) rfl))) rfl rfl rfl (by decide +kernel) ⟨Nat.le_of_ble_eq_true rfl, Nat.le_of_ble_eq_true rfl⟩) (va_recv hK hP (ci := 3) (q0 := 12) rfl rfl) hK hP hD hE hS hA rfl hl.1 rfl (Nat.le_of_ble_eq_true rfl) dX9_mark_26 ⟨Nat.le_of_ble_eq_true rfl, Nat.le_of_ble_eq_true rfl⟩ (fun r26 w9 H locs hw26 hP hD hS => ?_)
        obtain ⟨rfl, hw26_0⟩ := hw26
        obtain ⟨k29_, hk29_⟩ := pl_V (X := (twX cs q v_t_tapeSize v_t_textSize v_t_faultKind a_t_tape a_t_text a_g_beyond v_g_size a_g_steps a_h_beyond v_h_size a_h_steps a_r_scratch a_r_now v_r_takes v_r_negative v_r_namePlace v_r_faultKind v_r_faultPlace v_a_size v_a_limit v_a_digits v_a_kind v_a_from v_a_to v_o_size a_o_out v_b_size v_b_limit v_b_digits v_b_kind v_b_from v_b_to a_u_atom a_u_other a_u_hand v_u_marksMade v_u_came v_u_guesses v_u_right v_u_taken a_u_vars a_u_marks a_u_outcomes a_u_indexes v_s_things v_s_looked v_s_lookedTooOften v_s_arraysMade v_s_cellsMade a_s_classes a_s_starts a_s_lengths a_s_cells)) (cI := cs 0) (vc := a_vc) (vd := a_vd) (si := a_si) (sj := a_sj) (iv := a_iv) (inn := a_inn) (ac := a_ac) hw26_0
        refine va_get (D := D) (ci := 7) (v := .int (a_vc r26)) (C := RX8) (T := TX8) (N := 2) hx hb hts hinX8 hown hK hP k29_ hk29_ rfl 0 (by decide) k_53_21 (fun _ h9 => h9) rfl dX9_mark_29 ?_
        refine lv_topi (fun x29 e_x29 => ?_)
        have b_x29 := iB x29
        subst hAe
        rw [hQ]
        exact W.iret (v := x29) hx hb hr (fun t ht hW => ⟨⟨x29, _, rfl, ⟨rfl, by exact ⟨by assumption, by assumption, by assumption, by assumption, by assumption, by assumption, ⟨by omega, by omega⟩, ⟨by omega, by omega⟩, by omega, by assumption⟩⟩, by rw [ht]; exact hP, va_K.moved hW.alike hK, hD⟩, hS.F ht⟩) hS.2.2 dX9_mark_32
      · skip
        refine lv_iconst (v := (-1)) hx hb dX9_mark_19 (by decide) ?_
        subst hAe
        rw [hQ]
        exact W.iret (v := (-1)) hx hb hr (fun t ht hW => ⟨⟨(-1), _, rfl, ⟨rfl, by exact ⟨by assumption, by assumption, by assumption, by assumption, by assumption, by assumption, ⟨by omega, by omega⟩, ⟨by omega, by omega⟩, by omega, by assumption⟩⟩, by rw [ht]; exact hP, va_K.moved hW.alike hK, hD⟩, hS.F ht⟩) hS.2.2 dX9_mark_20

def rmX9_named : Room := { frames := 220, cells := 0, slots := 0, locals := 4400 }
set_option maxHeartbeats 4000000 in
set_option maxRecDepth 100000 in
theorem tX9_named {l : Launch} {D : va_G} {K : Nat → Nat → Nat} {cs : Nat → ClassId} {q : Nat → Nat} {v_t_tapeSize v_t_textSize v_t_faultKind v_g_size v_h_size v_r_takes v_r_negative v_r_namePlace v_r_faultKind v_r_faultPlace v_a_size v_a_limit v_a_digits v_a_kind v_a_from v_a_to v_o_size v_b_size v_b_limit v_b_digits v_b_kind v_b_from v_b_to v_u_marksMade v_u_came v_u_guesses v_u_right v_u_taken v_s_things v_s_looked v_s_lookedTooOften v_s_arraysMade v_s_cellsMade : Int32} {a_t_tape a_t_text a_o_out a_u_outcomes a_u_indexes a_s_classes a_s_starts a_s_lengths a_vc : Nat → Int32} {a_g_beyond a_h_beyond a_r_scratch a_r_now a_u_atom a_u_other a_u_hand : Nat} {a_g_steps a_h_steps a_u_vars a_u_marks : Nat → Option Nat} {a_s_cells a_vd a_sj : Nat → Int64} {a_L : List Nat} {a_K a_iv a_inn : Nat → Nat} {a_si a_ac : Nat → Nat → Int32} (p_0 : TRN a_L a_K a_si a_iv a_inn a_g_beyond a_h_beyond a_r_scratch a_g_steps a_h_steps a_u_atom a_u_other a_u_hand a_u_vars a_u_marks a_r_now v_a_size v_a_limit v_a_digits v_a_kind v_a_from v_a_to v_b_size v_b_limit v_b_digits v_b_kind v_b_from v_b_to v_s_things v_s_cellsMade a_s_starts a_s_lengths v_t_tapeSize v_o_size v_u_marksMade a_t_tape) : CtI l yX9_named (wG yX9_named cX9_named 2 (some .int)) rmX9_named D (twT cs) K [.ref (q 0)] (tw cs q v_t_tapeSize v_t_textSize v_t_faultKind a_t_tape a_t_text a_g_beyond v_g_size a_g_steps a_h_beyond v_h_size a_h_steps a_r_scratch a_r_now v_r_takes v_r_negative v_r_namePlace v_r_faultKind v_r_faultPlace v_a_size v_a_limit v_a_digits v_a_kind v_a_from v_a_to v_o_size a_o_out v_b_size v_b_limit v_b_digits v_b_kind v_b_from v_b_to a_u_atom a_u_other a_u_hand v_u_marksMade v_u_came v_u_guesses v_u_right v_u_taken a_u_vars a_u_marks a_u_outcomes a_u_indexes v_s_things v_s_looked v_s_lookedTooOften v_s_arraysMade v_s_cellsMade a_s_classes a_s_starts a_s_lengths a_s_cells a_L a_K a_vc a_vd a_si a_sj a_iv a_inn a_ac) (fun r w1 => ∃ (v_t_tapeSize' : Int32) (a_r_now' : Nat) (v_r_takes' : Int32) (v_r_negative' : Int32) (v_r_namePlace' : Int32) (v_r_faultKind' : Int32) (v_r_faultPlace' : Int32) (v_a_size' : Int32) (v_a_limit' : Int32) (v_a_digits' : Int32) (v_a_kind' : Int32) (v_a_from' : Int32) (v_a_to' : Int32) (a_si' : Nat → Nat → Int32) (a_sj' : Nat → Int64) (a_ac' : Nat → Nat → Int32), w1 = (tw cs q v_t_tapeSize' v_t_textSize v_t_faultKind a_t_tape a_t_text a_g_beyond v_g_size a_g_steps a_h_beyond v_h_size a_h_steps a_r_scratch a_r_now' v_r_takes' v_r_negative' v_r_namePlace' v_r_faultKind' v_r_faultPlace' v_a_size' v_a_limit' v_a_digits' v_a_kind' v_a_from' v_a_to' v_o_size a_o_out v_b_size v_b_limit v_b_digits v_b_kind v_b_from v_b_to a_u_atom a_u_other a_u_hand v_u_marksMade v_u_came v_u_guesses v_u_right v_u_taken a_u_vars a_u_marks a_u_outcomes a_u_indexes v_s_things v_s_looked v_s_lookedTooOften v_s_arraysMade v_s_cellsMade a_s_classes a_s_starts a_s_lengths a_s_cells a_L a_K a_vc a_vd a_si' a_sj' a_iv a_inn a_ac') ∧ (TRN a_L a_K a_si' a_iv a_inn a_g_beyond a_h_beyond a_r_scratch a_g_steps a_h_steps a_u_atom a_u_other a_u_hand a_u_vars a_u_marks a_r_now' v_a_size' v_a_limit' v_a_digits' v_a_kind' v_a_from' v_a_to' v_b_size v_b_limit v_b_digits v_b_kind v_b_from v_b_to v_s_things v_s_cellsMade a_s_starts a_s_lengths v_t_tapeSize' v_o_size v_u_marksMade a_t_tape)) 0 0 := by
  intro sz
  refine Met.ofW (cc := cX9_named) (maxL := 2) (ret := (some .int)) (by decide) rfl ?_
  intro p e s m args below meth c s₁ B hml hv
  obtain ⟨rfl, hsz, hP, hK, hD0, hE⟩ := hv
  have hx := B.exec
  have hb := B.bytes
  have hr := B.returns
  have hts := atoms_spec (ws := (wG yX9_named cX9_named 2 (some .int))) B.pre
  have hown : s.vm.findClass RX9 = some m.cls := findClass_of_methodNamed B.named
  have hlocks := B.notSynchronized
  subst hsz
  have hD := hD0.self (sz := s.heap.size)
  obtain ⟨A, hAe⟩ : ∃ A : Nat → Prop, A = va_A (tw cs q v_t_tapeSize v_t_textSize v_t_faultKind a_t_tape a_t_text a_g_beyond v_g_size a_g_steps a_h_beyond v_h_size a_h_steps a_r_scratch a_r_now v_r_takes v_r_negative v_r_namePlace v_r_faultKind v_r_faultPlace v_a_size v_a_limit v_a_digits v_a_kind v_a_from v_a_to v_o_size a_o_out v_b_size v_b_limit v_b_digits v_b_kind v_b_from v_b_to a_u_atom a_u_other a_u_hand v_u_marksMade v_u_came v_u_guesses v_u_right v_u_taken a_u_vars a_u_marks a_u_outcomes a_u_indexes v_s_things v_s_looked v_s_lookedTooOften v_s_arraysMade v_s_cellsMade a_s_classes a_s_starts a_s_lengths a_s_cells a_L a_K a_vc a_vd a_si a_sj a_iv a_inn a_ac) s.heap.size := ⟨_, rfl⟩
  rw [← hAe] at hD hE
  have hA : ∀ q : Nat, s.heap.size ≤ q → A q := fun q h => by rw [hAe]; exact Or.inr h
  have hS : va_S A s.heap s.heap [] := va_S.rf
  have hl := lv_entry ([.ref (q 0)]) (n := 2) (Nat.le_of_ble_eq_true rfl)
  rw [lg_entry_eq]
  generalize (lg_sl ([.ref (q 0)]) ++ List.replicate (2 - (lg_sl ([.ref (q 0)])).length) Slot.unset).toArray = ls at hl ⊢
  have hl : lv_has ls 2 [(0, .ref (q 0))] := hl
  refine wq (fun Q hQ => ?_)
  have hinX9 : ∀ w ∈ wsX90, w ∈ (wG yX9_named cX9_named 2 (some .int)) := fun w h => List.mem_cons_of_mem _ (inlX9 w h)
  have kc0 : (0 : Int32).toInt = 0 := by decide
  have k_2_3 := hts (.fieldLink RX9 36 "ArrayTrainer" "parser" "LArrayTrainer$Parser;") (List.mem_cons_of_mem _ (wr2 _ (List.mem_of_getElem? (i := 3) rfl)))
  have k_7_0 := hts (.fieldLink RX9 54 "ArrayTrainer" "tapeSize" "I") (List.mem_cons_of_mem _ (wr7 _ (List.mem_of_getElem? (i := 0) rfl)))
  obtain ⟨H, hH⟩ : ∃ H : Heap, H = s.heap := ⟨_, rfl⟩
  obtain ⟨locs, hlc⟩ : ∃ L : List Loc, L = [] := ⟨_, rfl⟩
  have hP : va_P D vwCl (tw cs q v_t_tapeSize v_t_textSize v_t_faultKind a_t_tape a_t_text a_g_beyond v_g_size a_g_steps a_h_beyond v_h_size a_h_steps a_r_scratch a_r_now v_r_takes v_r_negative v_r_namePlace v_r_faultKind v_r_faultPlace v_a_size v_a_limit v_a_digits v_a_kind v_a_from v_a_to v_o_size a_o_out v_b_size v_b_limit v_b_digits v_b_kind v_b_from v_b_to a_u_atom a_u_other a_u_hand v_u_marksMade v_u_came v_u_guesses v_u_right v_u_taken a_u_vars a_u_marks a_u_outcomes a_u_indexes v_s_things v_s_looked v_s_lookedTooOften v_s_arraysMade v_s_cellsMade a_s_classes a_s_starts a_s_lengths a_s_cells a_L a_K a_vc a_vd a_si a_sj a_iv a_inn a_ac) H := by rw [hH]; exact hP
  have hS : va_S A s.heap H locs := by rw [hH, hlc]; exact hS
  refine wHL hH hlc ?_
  obtain ⟨hRF, hPI, hNow, hLA, hLB, hSTO, ⟨ht0, ht1⟩, ⟨ho0, ho1⟩, hm0, hFB⟩ := id p_0
  refine lv_aload_n hx hb dX9_named_0 rfl (lv_at hl 0 rfl) ?_
  refine va_get (D := D) (ci := 8) (v := .ref (q 7)) (C := RX9) (T := TX9) (N := 10) hx hb hts hinX9 hown hK hP 0 rfl rfl 7 (by decide) k_2_3 (fun _ h9 => h9) rfl dX9_named_1 ?_
  refine lv_aload_n hx hb dX9_named_4 rfl (lv_at hl 0 rfl) ?_
  refine va_get (D := D) (ci := 8) (v := .int v_t_tapeSize) (C := RX9) (T := TX9) (N := 10) hx hb hts hinX9 hown hK hP 0 rfl rfl 1 (by decide) k_7_0 (fun _ h9 => h9) rfl dX9_named_5 ?_
  refine call_i (As := [.int v_t_tapeSize]) (rest := []) ⟨hx, hb, hml, hown, hts⟩ (tX2_readClassAlone (l := l) v_t_tapeSize (by first | assumption | omega | (intros; omega) | decide) (by first | assumption | omega | (intros; omega) | decide) (by first | assumption | omega | (intros; omega) | decide)) (cwV 1 hts (gV (wr57 _ (List.mem_of_getElem? (i := 4) rfl)) (wr57 _ (List.mem_of_getElem? (i := 5) rfl)) (wr57 _ (List.mem_of_getElem? (i := 6) rfl)) (wr1 _ (List.mem_of_getElem? (i := 23) rfl)) (wr57 _ (List.mem_of_getElem? (i := 7) rfl))) rfl rfl rfl (by decide +kernel) ⟨Nat.le_of_ble_eq_true rfl, Nat.le_of_ble_eq_true rfl⟩) (va_recv hK hP (ci := 1) (q0 := 7) rfl rfl) hK hP hD hE hS hA rfl hl.1 rfl (Nat.le_of_ble_eq_true rfl) dX9_named_8 ⟨Nat.le_of_ble_eq_true rfl, Nat.le_of_ble_eq_true rfl⟩ (fun r8 w9 H locs hw8 hP hD hS => ?_)
  obtain ⟨a_r_now_8, v_r_takes_8, v_r_negative_8, v_r_namePlace_8, v_r_faultKind_8, v_r_faultPlace_8, v_a_size_8, v_a_limit_8, v_a_digits_8, v_a_kind_8, v_a_from_8, v_a_to_8, a_si_8, a_sj_8, a_ac_8, rfl, hw8_0, hw8_1, hw8_2⟩ := hw8
  have b_v_r_takes_8 := iB v_r_takes_8
  have b_v_r_negative_8 := iB v_r_negative_8
  have b_v_r_namePlace_8 := iB v_r_namePlace_8
  have b_v_r_faultKind_8 := iB v_r_faultKind_8
  have b_v_r_faultPlace_8 := iB v_r_faultPlace_8
  have b_v_a_size_8 := iB v_a_size_8
  have b_v_a_limit_8 := iB v_a_limit_8
  have b_v_a_digits_8 := iB v_a_digits_8
  have b_v_a_kind_8 := iB v_a_kind_8
  have b_v_a_from_8 := iB v_a_from_8
  have b_v_a_to_8 := iB v_a_to_8
  have b_r8 := iB r8
  refine lv_istore_n (lv' := [(1, .int r8), (0, .ref (q 0))]) hx hb dX9_named_11 rfl hl (by decide) rfl (fun ls hl => ?_)
  refine lv_aload_n hx hb dX9_named_12 rfl (lv_at hl 1 rfl) ?_
  refine lv_iconst (v := 0) hx hb dX9_named_13 (by decide) ?_
  refine va_put (D := D) (ci := 8) (v := .int 0) (ty := .int) (C := RX9) (T := TX9) (N := 10) hx hb hts hinX9 tyX9 tyX9_ok nmX9 hown hK hP hD hS 0 rfl rfl 1 (by decide) k_7_0 (fun _ h9 => h9) rfl (by decide +kernel) rfl rfl (Nat.le_of_ble_eq_true rfl) dX9_named_14 (fun H locs hP hD hS => ?_)
  have hP : va_P D vwCl (tw cs q (0 : Int32) v_t_textSize v_t_faultKind a_t_tape a_t_text a_g_beyond v_g_size a_g_steps a_h_beyond v_h_size a_h_steps a_r_scratch a_r_now_8 v_r_takes_8 v_r_negative_8 v_r_namePlace_8 v_r_faultKind_8 v_r_faultPlace_8 v_a_size_8 v_a_limit_8 v_a_digits_8 v_a_kind_8 v_a_from_8 v_a_to_8 v_o_size a_o_out v_b_size v_b_limit v_b_digits v_b_kind v_b_from v_b_to a_u_atom a_u_other a_u_hand v_u_marksMade v_u_came v_u_guesses v_u_right v_u_taken a_u_vars a_u_marks a_u_outcomes a_u_indexes v_s_things v_s_looked v_s_lookedTooOften v_s_arraysMade v_s_cellsMade a_s_classes a_s_starts a_s_lengths a_s_cells a_L a_K a_vc a_vd a_si_8 a_sj_8 a_iv a_inn a_ac_8) H := hP
  have hD : va_D A (tw cs q (0 : Int32) v_t_textSize v_t_faultKind a_t_tape a_t_text a_g_beyond v_g_size a_g_steps a_h_beyond v_h_size a_h_steps a_r_scratch a_r_now_8 v_r_takes_8 v_r_negative_8 v_r_namePlace_8 v_r_faultKind_8 v_r_faultPlace_8 v_a_size_8 v_a_limit_8 v_a_digits_8 v_a_kind_8 v_a_from_8 v_a_to_8 v_o_size a_o_out v_b_size v_b_limit v_b_digits v_b_kind v_b_from v_b_to a_u_atom a_u_other a_u_hand v_u_marksMade v_u_came v_u_guesses v_u_right v_u_taken a_u_vars a_u_marks a_u_outcomes a_u_indexes v_s_things v_s_looked v_s_lookedTooOften v_s_arraysMade v_s_cellsMade a_s_classes a_s_starts a_s_lengths a_s_cells a_L a_K a_vc a_vd a_si_8 a_sj_8 a_iv a_inn a_ac_8) := hD
  refine lv_iload_n hx hb dX9_named_17 rfl (lv_at hl 0 rfl) ?_
  subst hAe
  rw [hQ]
  exact W.iret (v := r8) hx hb hr (fun t ht hW => ⟨⟨r8, _, rfl, ⟨(0 : Int32), a_r_now_8, v_r_takes_8, v_r_negative_8, v_r_namePlace_8, v_r_faultKind_8, v_r_faultPlace_8, v_a_size_8, v_a_limit_8, v_a_digits_8, v_a_kind_8, v_a_from_8, v_a_to_8, a_si_8, a_sj_8, a_ac_8, rfl, by exact ⟨by assumption, by assumption, by assumption, by assumption, by assumption, by assumption, ⟨by omega, by omega⟩, ⟨by omega, by omega⟩, by omega, by assumption⟩⟩, by rw [ht]; exact hP, va_K.moved hW.alike hK, hD⟩, hS.F ht⟩) hS.2.2 dX9_named_18

def rmX9_name : Room := { frames := 140, cells := 0, slots := 0, locals := 2800 }
set_option maxHeartbeats 4000000 in
set_option maxRecDepth 100000 in
theorem tX9_name {l : Launch} {D : va_G} {K : Nat → Nat → Nat} {cs : Nat → ClassId} {q : Nat → Nat} {v_t_tapeSize v_t_textSize v_t_faultKind v_g_size v_h_size v_r_takes v_r_negative v_r_namePlace v_r_faultKind v_r_faultPlace v_a_size v_a_limit v_a_digits v_a_kind v_a_from v_a_to v_o_size v_b_size v_b_limit v_b_digits v_b_kind v_b_from v_b_to v_u_marksMade v_u_came v_u_guesses v_u_right v_u_taken v_s_things v_s_looked v_s_lookedTooOften v_s_arraysMade v_s_cellsMade : Int32} {a_t_tape a_t_text a_o_out a_u_outcomes a_u_indexes a_s_classes a_s_starts a_s_lengths a_vc : Nat → Int32} {a_g_beyond a_h_beyond a_r_scratch a_r_now a_u_atom a_u_other a_u_hand : Nat} {a_g_steps a_h_steps a_u_vars a_u_marks : Nat → Option Nat} {a_s_cells a_vd a_sj : Nat → Int64} {a_L : List Nat} {a_K a_iv a_inn : Nat → Nat} {a_si a_ac : Nat → Nat → Int32} (n9 : Int32) (i9 : Int32) (p_0 : TRN a_L a_K a_si a_iv a_inn a_g_beyond a_h_beyond a_r_scratch a_g_steps a_h_steps a_u_atom a_u_other a_u_hand a_u_vars a_u_marks a_r_now v_a_size v_a_limit v_a_digits v_a_kind v_a_from v_a_to v_b_size v_b_limit v_b_digits v_b_kind v_b_from v_b_to v_s_things v_s_cellsMade a_s_starts a_s_lengths v_t_tapeSize v_o_size v_u_marksMade a_t_tape) : CtI l yX9_name (wG yX9_name cX9_name 3 (some .int)) rmX9_name D (twT cs) K [.ref (q 0), .int n9, .int i9] (tw cs q v_t_tapeSize v_t_textSize v_t_faultKind a_t_tape a_t_text a_g_beyond v_g_size a_g_steps a_h_beyond v_h_size a_h_steps a_r_scratch a_r_now v_r_takes v_r_negative v_r_namePlace v_r_faultKind v_r_faultPlace v_a_size v_a_limit v_a_digits v_a_kind v_a_from v_a_to v_o_size a_o_out v_b_size v_b_limit v_b_digits v_b_kind v_b_from v_b_to a_u_atom a_u_other a_u_hand v_u_marksMade v_u_came v_u_guesses v_u_right v_u_taken a_u_vars a_u_marks a_u_outcomes a_u_indexes v_s_things v_s_looked v_s_lookedTooOften v_s_arraysMade v_s_cellsMade a_s_classes a_s_starts a_s_lengths a_s_cells a_L a_K a_vc a_vd a_si a_sj a_iv a_inn a_ac) (fun r w1 => w1 = (tw cs q v_t_tapeSize v_t_textSize v_t_faultKind a_t_tape a_t_text a_g_beyond v_g_size a_g_steps a_h_beyond v_h_size a_h_steps a_r_scratch a_r_now v_r_takes v_r_negative v_r_namePlace v_r_faultKind v_r_faultPlace v_a_size v_a_limit v_a_digits v_a_kind v_a_from v_a_to v_o_size a_o_out v_b_size v_b_limit v_b_digits v_b_kind v_b_from v_b_to a_u_atom a_u_other a_u_hand v_u_marksMade v_u_came v_u_guesses v_u_right v_u_taken a_u_vars a_u_marks a_u_outcomes a_u_indexes v_s_things v_s_looked v_s_lookedTooOften v_s_arraysMade v_s_cellsMade a_s_classes a_s_starts a_s_lengths a_s_cells a_L a_K a_vc a_vd a_si a_sj a_iv a_inn a_ac) ∧ (TRN a_L a_K a_si a_iv a_inn a_g_beyond a_h_beyond a_r_scratch a_g_steps a_h_steps a_u_atom a_u_other a_u_hand a_u_vars a_u_marks a_r_now v_a_size v_a_limit v_a_digits v_a_kind v_a_from v_a_to v_b_size v_b_limit v_b_digits v_b_kind v_b_from v_b_to v_s_things v_s_cellsMade a_s_starts a_s_lengths v_t_tapeSize v_o_size v_u_marksMade a_t_tape) ∧ (NMq n9.toInt i9.toInt r.toInt)) 0 0 := by
  intro sz
  refine Met.ofW (cc := cX9_name) (maxL := 3) (ret := (some .int)) (by decide) rfl ?_
  intro p e s m args below meth c s₁ B hml hv
  obtain ⟨rfl, hsz, hP, hK, hD0, hE⟩ := hv
  have hx := B.exec
  have hb := B.bytes
  have hr := B.returns
  have hts := atoms_spec (ws := (wG yX9_name cX9_name 3 (some .int))) B.pre
  have hown : s.vm.findClass RX9 = some m.cls := findClass_of_methodNamed B.named
  have hlocks := B.notSynchronized
  subst hsz
  have hD := hD0.self (sz := s.heap.size)
  obtain ⟨A, hAe⟩ : ∃ A : Nat → Prop, A = va_A (tw cs q v_t_tapeSize v_t_textSize v_t_faultKind a_t_tape a_t_text a_g_beyond v_g_size a_g_steps a_h_beyond v_h_size a_h_steps a_r_scratch a_r_now v_r_takes v_r_negative v_r_namePlace v_r_faultKind v_r_faultPlace v_a_size v_a_limit v_a_digits v_a_kind v_a_from v_a_to v_o_size a_o_out v_b_size v_b_limit v_b_digits v_b_kind v_b_from v_b_to a_u_atom a_u_other a_u_hand v_u_marksMade v_u_came v_u_guesses v_u_right v_u_taken a_u_vars a_u_marks a_u_outcomes a_u_indexes v_s_things v_s_looked v_s_lookedTooOften v_s_arraysMade v_s_cellsMade a_s_classes a_s_starts a_s_lengths a_s_cells a_L a_K a_vc a_vd a_si a_sj a_iv a_inn a_ac) s.heap.size := ⟨_, rfl⟩
  rw [← hAe] at hD hE
  have hA : ∀ q : Nat, s.heap.size ≤ q → A q := fun q h => by rw [hAe]; exact Or.inr h
  have hS : va_S A s.heap s.heap [] := va_S.rf
  have hl := lv_entry ([.ref (q 0), .int n9, .int i9]) (n := 3) (Nat.le_of_ble_eq_true rfl)
  rw [lg_entry_eq]
  generalize (lg_sl ([.ref (q 0), .int n9, .int i9]) ++ List.replicate (3 - (lg_sl ([.ref (q 0), .int n9, .int i9])).length) Slot.unset).toArray = ls at hl ⊢
  have hl : lv_has ls 3 [(0, .ref (q 0)), (1, .int n9), (2, .int i9)] := hl
  refine wq (fun Q hQ => ?_)
  have kc0 : (-1 : Int32).toInt = -1 := by decide
  obtain ⟨H, hH⟩ : ∃ H : Heap, H = s.heap := ⟨_, rfl⟩
  obtain ⟨locs, hlc⟩ : ∃ L : List Loc, L = [] := ⟨_, rfl⟩
  have hP : va_P D vwCl (tw cs q v_t_tapeSize v_t_textSize v_t_faultKind a_t_tape a_t_text a_g_beyond v_g_size a_g_steps a_h_beyond v_h_size a_h_steps a_r_scratch a_r_now v_r_takes v_r_negative v_r_namePlace v_r_faultKind v_r_faultPlace v_a_size v_a_limit v_a_digits v_a_kind v_a_from v_a_to v_o_size a_o_out v_b_size v_b_limit v_b_digits v_b_kind v_b_from v_b_to a_u_atom a_u_other a_u_hand v_u_marksMade v_u_came v_u_guesses v_u_right v_u_taken a_u_vars a_u_marks a_u_outcomes a_u_indexes v_s_things v_s_looked v_s_lookedTooOften v_s_arraysMade v_s_cellsMade a_s_classes a_s_starts a_s_lengths a_s_cells a_L a_K a_vc a_vd a_si a_sj a_iv a_inn a_ac) H := by rw [hH]; exact hP
  have hS : va_S A s.heap H locs := by rw [hH, hlc]; exact hS
  refine wHL hH hlc ?_
  have b_n9 := iB n9
  have b_i9 := iB i9
  obtain ⟨hRF, hPI, hNow, hLA, hLB, hSTO, ⟨ht0, ht1⟩, ⟨ho0, ho1⟩, hm0, hFB⟩ := id p_0
  refine lv_iload_n hx hb dX9_name_0 rfl (lv_at hl 1 rfl) ?_
  refine call_iSP (As := [.int n9]) (rest := []) ⟨hx, hb, hml, hown, hts⟩ (tX0_isClass (l := l) n9) (va_cwS 1 hts (gS (wr57 _ (List.mem_of_getElem? (i := 16) rfl)) (wr19 _ (List.mem_of_getElem? (i := 4) rfl)) (wr19 _ (List.mem_of_getElem? (i := 5) rfl)) (wr19 _ (List.mem_of_getElem? (i := 6) rfl))) rfl rfl rfl (by decide +kernel) ⟨Nat.le_of_ble_eq_true rfl, Nat.le_of_ble_eq_true rfl⟩) (hK.sub [] rfl) hP hD hE hS hA rfl hl.1 rfl (Nat.le_of_ble_eq_true rfl) dX9_name_1 ⟨Nat.le_of_ble_eq_true rfl, Nat.le_of_ble_eq_true rfl⟩ (fun r1 w9 H locs hw1 hP hD hS => ?_)
  obtain ⟨rfl, hw1_0⟩ := hw1
  have b_r1 := iB r1
  refine m_if_eq (X := r1.toInt) (tgt := 15) hx hb dX9_name_4 (by decide) rfl (fun c4 => ?_) (fun c4 => ?_)
  · skip
    refine lv_iconst (v := (-1)) hx hb dX9_name_15 (by decide) ?_
    subst hAe
    rw [hQ]
    exact W.iret (v := (-1)) hx hb hr (fun t ht hW => ⟨⟨(-1), _, rfl, ⟨rfl, by exact ⟨by assumption, by assumption, by assumption, by assumption, by assumption, by assumption, ⟨by omega, by omega⟩, ⟨by omega, by omega⟩, by omega, by assumption⟩, by first | exact NMq.bad (by decide) (fun q => (hw1_0.resolve_left (fun z => by omega)).2 q.1) | exact hw9_0 (hw1_0.resolve_right (fun z => by omega)).2⟩, by rw [ht]; exact hP, va_K.moved hW.alike hK, hD⟩, hS.F ht⟩) hS.2.2 dX9_name_16
  · skip
    refine lv_iload_n hx hb dX9_name_7 rfl (lv_at hl 1 rfl) ?_
    refine lv_iload_n hx hb dX9_name_8 rfl (lv_at hl 2 rfl) ?_
    refine call_iSP (As := [.int n9, .int i9]) (rest := []) ⟨hx, hb, hml, hown, hts⟩ (tX0_nameByte (l := l) n9 i9) (va_cwS 2 hts (gS (wr57 _ (List.mem_of_getElem? (i := 17) rfl)) (wr57 _ (List.mem_of_getElem? (i := 18) rfl)) (wr19 _ (List.mem_of_getElem? (i := 5) rfl)) (wr57 _ (List.mem_of_getElem? (i := 19) rfl))) rfl rfl rfl (by decide +kernel) ⟨Nat.le_of_ble_eq_true rfl, Nat.le_of_ble_eq_true rfl⟩) (hK.sub [] rfl) hP hD hE hS hA rfl hl.1 rfl (Nat.le_of_ble_eq_true rfl) dX9_name_9 ⟨Nat.le_of_ble_eq_true rfl, Nat.le_of_ble_eq_true rfl⟩ (fun r9 w9 H locs hw9 hP hD hS => ?_)
    obtain ⟨rfl, hw9_0⟩ := hw9
    have b_r9 := iB r9
    refine lv_goto (tgt := 16) hx hb dX9_name_12 (by decide) ?_
    subst hAe
    rw [hQ]
    exact W.iret (v := r9) hx hb hr (fun t ht hW => ⟨⟨r9, _, rfl, ⟨rfl, by exact ⟨by assumption, by assumption, by assumption, by assumption, by assumption, by assumption, ⟨by omega, by omega⟩, ⟨by omega, by omega⟩, by omega, by assumption⟩, by first | exact NMq.bad (by decide) (fun q => (hw1_0.resolve_left (fun z => by omega)).2 q.1) | exact hw9_0 (hw1_0.resolve_right (fun z => by omega)).2⟩, by rw [ht]; exact hP, va_K.moved hW.alike hK, hD⟩, hS.F ht⟩) hS.2.2 dX9_name_16

def rmX9_below : Room := { frames := 40, cells := 0, slots := 0, locals := 800 }
set_option maxHeartbeats 4000000 in
set_option maxRecDepth 100000 in
theorem tX9_below {l : Launch} {D : va_G} {K : Nat → Nat → Nat} {cs : Nat → ClassId} {q : Nat → Nat} {v_t_tapeSize v_t_textSize v_t_faultKind v_g_size v_h_size v_r_takes v_r_negative v_r_namePlace v_r_faultKind v_r_faultPlace v_a_size v_a_limit v_a_digits v_a_kind v_a_from v_a_to v_o_size v_b_size v_b_limit v_b_digits v_b_kind v_b_from v_b_to v_u_marksMade v_u_came v_u_guesses v_u_right v_u_taken v_s_things v_s_looked v_s_lookedTooOften v_s_arraysMade v_s_cellsMade : Int32} {a_t_tape a_t_text a_o_out a_u_outcomes a_u_indexes a_s_classes a_s_starts a_s_lengths a_vc : Nat → Int32} {a_g_beyond a_h_beyond a_r_scratch a_r_now a_u_atom a_u_other a_u_hand : Nat} {a_g_steps a_h_steps a_u_vars a_u_marks : Nat → Option Nat} {a_s_cells a_vd a_sj : Nat → Int64} {a_L : List Nat} {a_K a_iv a_inn : Nat → Nat} {a_si a_ac : Nat → Nat → Int32} (a9 : Int32) (b9 : Int32) (p_0 : TRN a_L a_K a_si a_iv a_inn a_g_beyond a_h_beyond a_r_scratch a_g_steps a_h_steps a_u_atom a_u_other a_u_hand a_u_vars a_u_marks a_r_now v_a_size v_a_limit v_a_digits v_a_kind v_a_from v_a_to v_b_size v_b_limit v_b_digits v_b_kind v_b_from v_b_to v_s_things v_s_cellsMade a_s_starts a_s_lengths v_t_tapeSize v_o_size v_u_marksMade a_t_tape) : CtI l yX9_below (wG yX9_below cX9_below 3 (some .boolean)) rmX9_below D (twT cs) K [.ref (q 0), .int a9, .int b9] (tw cs q v_t_tapeSize v_t_textSize v_t_faultKind a_t_tape a_t_text a_g_beyond v_g_size a_g_steps a_h_beyond v_h_size a_h_steps a_r_scratch a_r_now v_r_takes v_r_negative v_r_namePlace v_r_faultKind v_r_faultPlace v_a_size v_a_limit v_a_digits v_a_kind v_a_from v_a_to v_o_size a_o_out v_b_size v_b_limit v_b_digits v_b_kind v_b_from v_b_to a_u_atom a_u_other a_u_hand v_u_marksMade v_u_came v_u_guesses v_u_right v_u_taken a_u_vars a_u_marks a_u_outcomes a_u_indexes v_s_things v_s_looked v_s_lookedTooOften v_s_arraysMade v_s_cellsMade a_s_classes a_s_starts a_s_lengths a_s_cells a_L a_K a_vc a_vd a_si a_sj a_iv a_inn a_ac) (fun r w1 => w1 = (tw cs q v_t_tapeSize v_t_textSize v_t_faultKind a_t_tape a_t_text a_g_beyond v_g_size a_g_steps a_h_beyond v_h_size a_h_steps a_r_scratch a_r_now v_r_takes v_r_negative v_r_namePlace v_r_faultKind v_r_faultPlace v_a_size v_a_limit v_a_digits v_a_kind v_a_from v_a_to v_o_size a_o_out v_b_size v_b_limit v_b_digits v_b_kind v_b_from v_b_to a_u_atom a_u_other a_u_hand v_u_marksMade v_u_came v_u_guesses v_u_right v_u_taken a_u_vars a_u_marks a_u_outcomes a_u_indexes v_s_things v_s_looked v_s_lookedTooOften v_s_arraysMade v_s_cellsMade a_s_classes a_s_starts a_s_lengths a_s_cells a_L a_K a_vc a_vd a_si a_sj a_iv a_inn a_ac) ∧ (TRN a_L a_K a_si a_iv a_inn a_g_beyond a_h_beyond a_r_scratch a_g_steps a_h_steps a_u_atom a_u_other a_u_hand a_u_vars a_u_marks a_r_now v_a_size v_a_limit v_a_digits v_a_kind v_a_from v_a_to v_b_size v_b_limit v_b_digits v_b_kind v_b_from v_b_to v_s_things v_s_cellsMade a_s_starts a_s_lengths v_t_tapeSize v_o_size v_u_marksMade a_t_tape) ∧ ((r.toInt = 1 ∧ (ICp a9.toInt ∧ ICp b9.toInt ∧ BLp a9.toInt b9.toInt)) ∨ (r.toInt = 0 ∧ ¬ (ICp a9.toInt ∧ ICp b9.toInt ∧ BLp a9.toInt b9.toInt)))) 0 0 := by
  intro sz
  refine Met.ofW (cc := cX9_below) (maxL := 3) (ret := (some .boolean)) (by decide) rfl ?_
  intro p e s m args below meth c s₁ B hml hv
  obtain ⟨rfl, hsz, hP, hK, hD0, hE⟩ := hv
  have hx := B.exec
  have hb := B.bytes
  have hr := B.returns
  have hts := atoms_spec (ws := (wG yX9_below cX9_below 3 (some .boolean))) B.pre
  have hown : s.vm.findClass RX9 = some m.cls := findClass_of_methodNamed B.named
  have hlocks := B.notSynchronized
  subst hsz
  have hD := hD0.self (sz := s.heap.size)
  obtain ⟨A, hAe⟩ : ∃ A : Nat → Prop, A = va_A (tw cs q v_t_tapeSize v_t_textSize v_t_faultKind a_t_tape a_t_text a_g_beyond v_g_size a_g_steps a_h_beyond v_h_size a_h_steps a_r_scratch a_r_now v_r_takes v_r_negative v_r_namePlace v_r_faultKind v_r_faultPlace v_a_size v_a_limit v_a_digits v_a_kind v_a_from v_a_to v_o_size a_o_out v_b_size v_b_limit v_b_digits v_b_kind v_b_from v_b_to a_u_atom a_u_other a_u_hand v_u_marksMade v_u_came v_u_guesses v_u_right v_u_taken a_u_vars a_u_marks a_u_outcomes a_u_indexes v_s_things v_s_looked v_s_lookedTooOften v_s_arraysMade v_s_cellsMade a_s_classes a_s_starts a_s_lengths a_s_cells a_L a_K a_vc a_vd a_si a_sj a_iv a_inn a_ac) s.heap.size := ⟨_, rfl⟩
  rw [← hAe] at hD hE
  have hA : ∀ q : Nat, s.heap.size ≤ q → A q := fun q h => by rw [hAe]; exact Or.inr h
  have hS : va_S A s.heap s.heap [] := va_S.rf
  have hl := lv_entry ([.ref (q 0), .int a9, .int b9]) (n := 3) (Nat.le_of_ble_eq_true rfl)
  rw [lg_entry_eq]
  generalize (lg_sl ([.ref (q 0), .int a9, .int b9]) ++ List.replicate (3 - (lg_sl ([.ref (q 0), .int a9, .int b9])).length) Slot.unset).toArray = ls at hl ⊢
  have hl : lv_has ls 3 [(0, .ref (q 0)), (1, .int a9), (2, .int b9)] := hl
  refine wq (fun Q hQ => ?_)
  have kc0 : (0 : Int32).toInt = 0 := by decide
  have kc1 : (1 : Int32).toInt = 1 := by decide
  obtain ⟨H, hH⟩ : ∃ H : Heap, H = s.heap := ⟨_, rfl⟩
  obtain ⟨locs, hlc⟩ : ∃ L : List Loc, L = [] := ⟨_, rfl⟩
  have hP : va_P D vwCl (tw cs q v_t_tapeSize v_t_textSize v_t_faultKind a_t_tape a_t_text a_g_beyond v_g_size a_g_steps a_h_beyond v_h_size a_h_steps a_r_scratch a_r_now v_r_takes v_r_negative v_r_namePlace v_r_faultKind v_r_faultPlace v_a_size v_a_limit v_a_digits v_a_kind v_a_from v_a_to v_o_size a_o_out v_b_size v_b_limit v_b_digits v_b_kind v_b_from v_b_to a_u_atom a_u_other a_u_hand v_u_marksMade v_u_came v_u_guesses v_u_right v_u_taken a_u_vars a_u_marks a_u_outcomes a_u_indexes v_s_things v_s_looked v_s_lookedTooOften v_s_arraysMade v_s_cellsMade a_s_classes a_s_starts a_s_lengths a_s_cells a_L a_K a_vc a_vd a_si a_sj a_iv a_inn a_ac) H := by rw [hH]; exact hP
  have hS : va_S A s.heap H locs := by rw [hH, hlc]; exact hS
  refine wHL hH hlc ?_
  have b_a9 := iB a9
  have b_b9 := iB b9
  obtain ⟨hRF, hPI, hNow, hLA, hLB, hSTO, ⟨ht0, ht1⟩, ⟨ho0, ho1⟩, hm0, hFB⟩ := id p_0
  refine lv_iload_n hx hb dX9_below_0 rfl (lv_at hl 1 rfl) ?_
  refine call_iSP (As := [.int a9]) (rest := []) ⟨hx, hb, hml, hown, hts⟩ (tX0_isClass (l := l) a9) (va_cwS 1 hts (gS (wr57 _ (List.mem_of_getElem? (i := 16) rfl)) (wr19 _ (List.mem_of_getElem? (i := 4) rfl)) (wr19 _ (List.mem_of_getElem? (i := 5) rfl)) (wr19 _ (List.mem_of_getElem? (i := 6) rfl))) rfl rfl rfl (by decide +kernel) ⟨Nat.le_of_ble_eq_true rfl, Nat.le_of_ble_eq_true rfl⟩) (hK.sub [] rfl) hP hD hE hS hA rfl hl.1 rfl (Nat.le_of_ble_eq_true rfl) dX9_below_1 ⟨Nat.le_of_ble_eq_true rfl, Nat.le_of_ble_eq_true rfl⟩ (fun r1 w9 H locs hw1 hP hD hS => ?_)
  obtain ⟨rfl, hw1_0⟩ := hw1
  have b_r1 := iB r1
  refine m_if_eq (X := r1.toInt) (tgt := 26) hx hb dX9_below_4 (by decide) rfl (fun c4 => ?_) (fun c4 => ?_)
  · skip
    refine lv_iconst (v := 0) hx hb dX9_below_26 (by decide) ?_
    subst hAe
    rw [hQ]
    exact W.zret (v := 0) hx hb hr (by decide) (fun t ht hW => ⟨⟨0, _, rfl, ⟨rfl, by exact ⟨by assumption, by assumption, by assumption, by assumption, by assumption, by assumption, ⟨by omega, by omega⟩, ⟨by omega, by omega⟩, by omega, by assumption⟩, by first | exact Or.inl ⟨by decide, (hw1_0.resolve_right (fun q => by omega)).2, (hw8_0.resolve_right (fun q => by omega)).2, ((hw16_1 (ICp.nn (hw1_0.resolve_right (fun q => by omega)).2) (ICp.nn (hw8_0.resolve_right (fun q => by omega)).2)).resolve_right (fun q => by omega)).2⟩ | exact Or.inr ⟨by decide, fun q => (hw1_0.resolve_left (fun q => by omega)).2 q.1⟩ | exact Or.inr ⟨by decide, fun q => (hw8_0.resolve_left (fun q => by omega)).2 q.2.1⟩ | exact Or.inr ⟨by decide, fun q => ((hw16_1 (ICp.nn q.1) (ICp.nn q.2.1)).resolve_left (fun q => by omega)).2 q.2.2⟩⟩, by rw [ht]; exact hP, va_K.moved hW.alike hK, hD⟩, hS.F ht⟩) hS.2.2 dX9_below_27
  · skip
    refine lv_iload_n hx hb dX9_below_7 rfl (lv_at hl 2 rfl) ?_
    refine call_iSP (As := [.int b9]) (rest := []) ⟨hx, hb, hml, hown, hts⟩ (tX0_isClass (l := l) b9) (va_cwS 1 hts (gS (wr57 _ (List.mem_of_getElem? (i := 16) rfl)) (wr19 _ (List.mem_of_getElem? (i := 4) rfl)) (wr19 _ (List.mem_of_getElem? (i := 5) rfl)) (wr19 _ (List.mem_of_getElem? (i := 6) rfl))) rfl rfl rfl (by decide +kernel) ⟨Nat.le_of_ble_eq_true rfl, Nat.le_of_ble_eq_true rfl⟩) (hK.sub [] rfl) hP hD hE hS hA rfl hl.1 rfl (Nat.le_of_ble_eq_true rfl) dX9_below_8 ⟨Nat.le_of_ble_eq_true rfl, Nat.le_of_ble_eq_true rfl⟩ (fun r8 w9 H locs hw8 hP hD hS => ?_)
    obtain ⟨rfl, hw8_0⟩ := hw8
    have b_r8 := iB r8
    refine m_if_eq (X := r8.toInt) (tgt := 26) hx hb dX9_below_11 (by decide) rfl (fun c11 => ?_) (fun c11 => ?_)
    · skip
      refine lv_iconst (v := 0) hx hb dX9_below_26 (by decide) ?_
      subst hAe
      rw [hQ]
      exact W.zret (v := 0) hx hb hr (by decide) (fun t ht hW => ⟨⟨0, _, rfl, ⟨rfl, by exact ⟨by assumption, by assumption, by assumption, by assumption, by assumption, by assumption, ⟨by omega, by omega⟩, ⟨by omega, by omega⟩, by omega, by assumption⟩, by first | exact Or.inl ⟨by decide, (hw1_0.resolve_right (fun q => by omega)).2, (hw8_0.resolve_right (fun q => by omega)).2, ((hw16_1 (ICp.nn (hw1_0.resolve_right (fun q => by omega)).2) (ICp.nn (hw8_0.resolve_right (fun q => by omega)).2)).resolve_right (fun q => by omega)).2⟩ | exact Or.inr ⟨by decide, fun q => (hw1_0.resolve_left (fun q => by omega)).2 q.1⟩ | exact Or.inr ⟨by decide, fun q => (hw8_0.resolve_left (fun q => by omega)).2 q.2.1⟩ | exact Or.inr ⟨by decide, fun q => ((hw16_1 (ICp.nn q.1) (ICp.nn q.2.1)).resolve_left (fun q => by omega)).2 q.2.2⟩⟩, by rw [ht]; exact hP, va_K.moved hW.alike hK, hD⟩, hS.F ht⟩) hS.2.2 dX9_below_27
    · skip
      refine lv_iload_n hx hb dX9_below_14 rfl (lv_at hl 1 rfl) ?_
      refine lv_iload_n hx hb dX9_below_15 rfl (lv_at hl 2 rfl) ?_
      refine call_iSP (As := [.int a9, .int b9]) (rest := []) ⟨hx, hb, hml, hown, hts⟩ (tX0_isBelow (l := l) a9 b9) (va_cwS 2 hts (gS (wr58 _ (List.mem_of_getElem? (i := 15) rfl)) (wr40 _ (List.mem_of_getElem? (i := 9) rfl)) (wr19 _ (List.mem_of_getElem? (i := 5) rfl)) (wr40 _ (List.mem_of_getElem? (i := 10) rfl))) rfl rfl rfl (by decide +kernel) ⟨Nat.le_of_ble_eq_true rfl, Nat.le_of_ble_eq_true rfl⟩) (hK.sub [] rfl) hP hD hE hS hA rfl hl.1 rfl (Nat.le_of_ble_eq_true rfl) dX9_below_16 ⟨Nat.le_of_ble_eq_true rfl, Nat.le_of_ble_eq_true rfl⟩ (fun r16 w9 H locs hw16 hP hD hS => ?_)
      obtain ⟨rfl, hw16_0, hw16_1⟩ := hw16
      have b_r16 := iB r16
      refine m_if_eq (X := r16.toInt) (tgt := 26) hx hb dX9_below_19 (by decide) rfl (fun c19 => ?_) (fun c19 => ?_)
      · skip
        refine lv_iconst (v := 0) hx hb dX9_below_26 (by decide) ?_
        subst hAe
        rw [hQ]
        exact W.zret (v := 0) hx hb hr (by decide) (fun t ht hW => ⟨⟨0, _, rfl, ⟨rfl, by exact ⟨by assumption, by assumption, by assumption, by assumption, by assumption, by assumption, ⟨by omega, by omega⟩, ⟨by omega, by omega⟩, by omega, by assumption⟩, by first | exact Or.inl ⟨by decide, (hw1_0.resolve_right (fun q => by omega)).2, (hw8_0.resolve_right (fun q => by omega)).2, ((hw16_1 (ICp.nn (hw1_0.resolve_right (fun q => by omega)).2) (ICp.nn (hw8_0.resolve_right (fun q => by omega)).2)).resolve_right (fun q => by omega)).2⟩ | exact Or.inr ⟨by decide, fun q => (hw1_0.resolve_left (fun q => by omega)).2 q.1⟩ | exact Or.inr ⟨by decide, fun q => (hw8_0.resolve_left (fun q => by omega)).2 q.2.1⟩ | exact Or.inr ⟨by decide, fun q => ((hw16_1 (ICp.nn q.1) (ICp.nn q.2.1)).resolve_left (fun q => by omega)).2 q.2.2⟩⟩, by rw [ht]; exact hP, va_K.moved hW.alike hK, hD⟩, hS.F ht⟩) hS.2.2 dX9_below_27
      · skip
        refine lv_iconst (v := 1) hx hb dX9_below_22 (by decide) ?_
        refine lv_goto (tgt := 27) hx hb dX9_below_23 (by decide) ?_
        subst hAe
        rw [hQ]
        exact W.zret (v := 1) hx hb hr (by decide) (fun t ht hW => ⟨⟨1, _, rfl, ⟨rfl, by exact ⟨by assumption, by assumption, by assumption, by assumption, by assumption, by assumption, ⟨by omega, by omega⟩, ⟨by omega, by omega⟩, by omega, by assumption⟩, by first | exact Or.inl ⟨by decide, (hw1_0.resolve_right (fun q => by omega)).2, (hw8_0.resolve_right (fun q => by omega)).2, ((hw16_1 (ICp.nn (hw1_0.resolve_right (fun q => by omega)).2) (ICp.nn (hw8_0.resolve_right (fun q => by omega)).2)).resolve_right (fun q => by omega)).2⟩ | exact Or.inr ⟨by decide, fun q => (hw1_0.resolve_left (fun q => by omega)).2 q.1⟩ | exact Or.inr ⟨by decide, fun q => (hw8_0.resolve_left (fun q => by omega)).2 q.2.1⟩ | exact Or.inr ⟨by decide, fun q => ((hw16_1 (ICp.nn q.1) (ICp.nn q.2.1)).resolve_left (fun q => by omega)).2 q.2.2⟩⟩, by rw [ht]; exact hP, va_K.moved hW.alike hK, hD⟩, hS.F ht⟩) hS.2.2 dX9_below_27

def rmX9_stores : Room := { frames := 60, cells := 0, slots := 0, locals := 1200 }
set_option maxHeartbeats 4000000 in
set_option maxRecDepth 100000 in
theorem tX9_stores {l : Launch} {D : va_G} {K : Nat → Nat → Nat} {cs : Nat → ClassId} {q : Nat → Nat} {v_t_tapeSize v_t_textSize v_t_faultKind v_g_size v_h_size v_r_takes v_r_negative v_r_namePlace v_r_faultKind v_r_faultPlace v_a_size v_a_limit v_a_digits v_a_kind v_a_from v_a_to v_o_size v_b_size v_b_limit v_b_digits v_b_kind v_b_from v_b_to v_u_marksMade v_u_came v_u_guesses v_u_right v_u_taken v_s_things v_s_looked v_s_lookedTooOften v_s_arraysMade v_s_cellsMade : Int32} {a_t_tape a_t_text a_o_out a_u_outcomes a_u_indexes a_s_classes a_s_starts a_s_lengths a_vc : Nat → Int32} {a_g_beyond a_h_beyond a_r_scratch a_r_now a_u_atom a_u_other a_u_hand : Nat} {a_g_steps a_h_steps a_u_vars a_u_marks : Nat → Option Nat} {a_s_cells a_vd a_sj : Nat → Int64} {a_L : List Nat} {a_K a_iv a_inn : Nat → Nat} {a_si a_ac : Nat → Nat → Int32} (a9 : Int32) (b9 : Int32) (p_0 : TRN a_L a_K a_si a_iv a_inn a_g_beyond a_h_beyond a_r_scratch a_g_steps a_h_steps a_u_atom a_u_other a_u_hand a_u_vars a_u_marks a_r_now v_a_size v_a_limit v_a_digits v_a_kind v_a_from v_a_to v_b_size v_b_limit v_b_digits v_b_kind v_b_from v_b_to v_s_things v_s_cellsMade a_s_starts a_s_lengths v_t_tapeSize v_o_size v_u_marksMade a_t_tape) : CtI l yX9_stores (wG yX9_stores cX9_stores 3 (some .int)) rmX9_stores D (twT cs) K [.ref (q 0), .int a9, .int b9] (tw cs q v_t_tapeSize v_t_textSize v_t_faultKind a_t_tape a_t_text a_g_beyond v_g_size a_g_steps a_h_beyond v_h_size a_h_steps a_r_scratch a_r_now v_r_takes v_r_negative v_r_namePlace v_r_faultKind v_r_faultPlace v_a_size v_a_limit v_a_digits v_a_kind v_a_from v_a_to v_o_size a_o_out v_b_size v_b_limit v_b_digits v_b_kind v_b_from v_b_to a_u_atom a_u_other a_u_hand v_u_marksMade v_u_came v_u_guesses v_u_right v_u_taken a_u_vars a_u_marks a_u_outcomes a_u_indexes v_s_things v_s_looked v_s_lookedTooOften v_s_arraysMade v_s_cellsMade a_s_classes a_s_starts a_s_lengths a_s_cells a_L a_K a_vc a_vd a_si a_sj a_iv a_inn a_ac) (fun r w1 => w1 = (tw cs q v_t_tapeSize v_t_textSize v_t_faultKind a_t_tape a_t_text a_g_beyond v_g_size a_g_steps a_h_beyond v_h_size a_h_steps a_r_scratch a_r_now v_r_takes v_r_negative v_r_namePlace v_r_faultKind v_r_faultPlace v_a_size v_a_limit v_a_digits v_a_kind v_a_from v_a_to v_o_size a_o_out v_b_size v_b_limit v_b_digits v_b_kind v_b_from v_b_to a_u_atom a_u_other a_u_hand v_u_marksMade v_u_came v_u_guesses v_u_right v_u_taken a_u_vars a_u_marks a_u_outcomes a_u_indexes v_s_things v_s_looked v_s_lookedTooOften v_s_arraysMade v_s_cellsMade a_s_classes a_s_starts a_s_lengths a_s_cells a_L a_K a_vc a_vd a_si a_sj a_iv a_inn a_ac) ∧ (TRN a_L a_K a_si a_iv a_inn a_g_beyond a_h_beyond a_r_scratch a_g_steps a_h_steps a_u_atom a_u_other a_u_hand a_u_vars a_u_marks a_r_now v_a_size v_a_limit v_a_digits v_a_kind v_a_from v_a_to v_b_size v_b_limit v_b_digits v_b_kind v_b_from v_b_to v_s_things v_s_cellsMade a_s_starts a_s_lengths v_t_tapeSize v_o_size v_u_marksMade a_t_tape) ∧ (STq a9.toInt b9.toInt r.toInt)) 0 0 := by
  intro sz
  refine Met.ofW (cc := cX9_stores) (maxL := 3) (ret := (some .int)) (by decide) rfl ?_
  intro p e s m args below meth c s₁ B hml hv
  obtain ⟨rfl, hsz, hP, hK, hD0, hE⟩ := hv
  have hx := B.exec
  have hb := B.bytes
  have hr := B.returns
  have hts := atoms_spec (ws := (wG yX9_stores cX9_stores 3 (some .int))) B.pre
  have hown : s.vm.findClass RX9 = some m.cls := findClass_of_methodNamed B.named
  have hlocks := B.notSynchronized
  subst hsz
  have hD := hD0.self (sz := s.heap.size)
  obtain ⟨A, hAe⟩ : ∃ A : Nat → Prop, A = va_A (tw cs q v_t_tapeSize v_t_textSize v_t_faultKind a_t_tape a_t_text a_g_beyond v_g_size a_g_steps a_h_beyond v_h_size a_h_steps a_r_scratch a_r_now v_r_takes v_r_negative v_r_namePlace v_r_faultKind v_r_faultPlace v_a_size v_a_limit v_a_digits v_a_kind v_a_from v_a_to v_o_size a_o_out v_b_size v_b_limit v_b_digits v_b_kind v_b_from v_b_to a_u_atom a_u_other a_u_hand v_u_marksMade v_u_came v_u_guesses v_u_right v_u_taken a_u_vars a_u_marks a_u_outcomes a_u_indexes v_s_things v_s_looked v_s_lookedTooOften v_s_arraysMade v_s_cellsMade a_s_classes a_s_starts a_s_lengths a_s_cells a_L a_K a_vc a_vd a_si a_sj a_iv a_inn a_ac) s.heap.size := ⟨_, rfl⟩
  rw [← hAe] at hD hE
  have hA : ∀ q : Nat, s.heap.size ≤ q → A q := fun q h => by rw [hAe]; exact Or.inr h
  have hS : va_S A s.heap s.heap [] := va_S.rf
  have hl := lv_entry ([.ref (q 0), .int a9, .int b9]) (n := 3) (Nat.le_of_ble_eq_true rfl)
  rw [lg_entry_eq]
  generalize (lg_sl ([.ref (q 0), .int a9, .int b9]) ++ List.replicate (3 - (lg_sl ([.ref (q 0), .int a9, .int b9])).length) Slot.unset).toArray = ls at hl ⊢
  have hl : lv_has ls 3 [(0, .ref (q 0)), (1, .int a9), (2, .int b9)] := hl
  refine wq (fun Q hQ => ?_)
  have kc0 : (-1 : Int32).toInt = -1 := by decide
  obtain ⟨H, hH⟩ : ∃ H : Heap, H = s.heap := ⟨_, rfl⟩
  obtain ⟨locs, hlc⟩ : ∃ L : List Loc, L = [] := ⟨_, rfl⟩
  have hP : va_P D vwCl (tw cs q v_t_tapeSize v_t_textSize v_t_faultKind a_t_tape a_t_text a_g_beyond v_g_size a_g_steps a_h_beyond v_h_size a_h_steps a_r_scratch a_r_now v_r_takes v_r_negative v_r_namePlace v_r_faultKind v_r_faultPlace v_a_size v_a_limit v_a_digits v_a_kind v_a_from v_a_to v_o_size a_o_out v_b_size v_b_limit v_b_digits v_b_kind v_b_from v_b_to a_u_atom a_u_other a_u_hand v_u_marksMade v_u_came v_u_guesses v_u_right v_u_taken a_u_vars a_u_marks a_u_outcomes a_u_indexes v_s_things v_s_looked v_s_lookedTooOften v_s_arraysMade v_s_cellsMade a_s_classes a_s_starts a_s_lengths a_s_cells a_L a_K a_vc a_vd a_si a_sj a_iv a_inn a_ac) H := by rw [hH]; exact hP
  have hS : va_S A s.heap H locs := by rw [hH, hlc]; exact hS
  refine wHL hH hlc ?_
  have b_a9 := iB a9
  have b_b9 := iB b9
  obtain ⟨hRF, hPI, hNow, hLA, hLB, hSTO, ⟨ht0, ht1⟩, ⟨ho0, ho1⟩, hm0, hFB⟩ := id p_0
  refine lv_iload_n hx hb dX9_stores_0 rfl (lv_at hl 1 rfl) ?_
  refine call_iSP (As := [.int a9]) (rest := []) ⟨hx, hb, hml, hown, hts⟩ (tX0_isArrays (l := l) a9) (va_cwS 1 hts (gS (wr59 _ (List.mem_of_getElem? (i := 0) rfl)) (wr59 _ (List.mem_of_getElem? (i := 1) rfl)) (wr19 _ (List.mem_of_getElem? (i := 5) rfl)) (wr59 _ (List.mem_of_getElem? (i := 2) rfl))) rfl rfl rfl (by decide +kernel) ⟨Nat.le_of_ble_eq_true rfl, Nat.le_of_ble_eq_true rfl⟩) (hK.sub [] rfl) hP hD hE hS hA rfl hl.1 rfl (Nat.le_of_ble_eq_true rfl) dX9_stores_1 ⟨Nat.le_of_ble_eq_true rfl, Nat.le_of_ble_eq_true rfl⟩ (fun r1 w9 H locs hw1 hP hD hS => ?_)
  obtain ⟨rfl, hw1_0⟩ := hw1
  have b_r1 := iB r1
  refine m_if_eq (X := r1.toInt) (tgt := 14) hx hb dX9_stores_4 (by decide) rfl (fun c4 => ?_) (fun c4 => ?_)
  · skip
    refine lv_iconst (v := (-1)) hx hb dX9_stores_14 (by decide) ?_
    subst hAe
    rw [hQ]
    exact W.iret (v := (-1)) hx hb hr (fun t ht hW => ⟨⟨(-1), _, rfl, ⟨rfl, by exact ⟨by assumption, by assumption, by assumption, by assumption, by assumption, by assumption, ⟨by omega, by omega⟩, ⟨by omega, by omega⟩, by omega, by assumption⟩, by first | exact STq.bad (by decide) (fun q => (hw1_0.resolve_left (fun z => by omega)).2 ⟨q.1, q.2.1⟩) | exact STq.bad (by decide) (fun q => (hw8_0.resolve_left (fun z => by omega)).2 q.2.2) | (have hA9 := (hw1_0.resolve_right (fun z => by omega)).2; have hB9 := (hw8_0.resolve_right (fun z => by omega)).2; have hb9 := ICp.nn hB9; have h20 := hA9.1; have e17 := hw17_0 (by omega); have hw9 := hw21_0 (by omega) hb9; rw [e17] at hw9; exact STq.ok ⟨hA9.1, hA9.2, hB9⟩ hw9)⟩, by rw [ht]; exact hP, va_K.moved hW.alike hK, hD⟩, hS.F ht⟩) hS.2.2 dX9_stores_15
  · skip
    refine lv_iload_n hx hb dX9_stores_7 rfl (lv_at hl 2 rfl) ?_
    refine call_iSP (As := [.int b9]) (rest := []) ⟨hx, hb, hml, hown, hts⟩ (tX0_isClass (l := l) b9) (va_cwS 1 hts (gS (wr57 _ (List.mem_of_getElem? (i := 16) rfl)) (wr19 _ (List.mem_of_getElem? (i := 4) rfl)) (wr19 _ (List.mem_of_getElem? (i := 5) rfl)) (wr19 _ (List.mem_of_getElem? (i := 6) rfl))) rfl rfl rfl (by decide +kernel) ⟨Nat.le_of_ble_eq_true rfl, Nat.le_of_ble_eq_true rfl⟩) (hK.sub [] rfl) hP hD hE hS hA rfl hl.1 rfl (Nat.le_of_ble_eq_true rfl) dX9_stores_8 ⟨Nat.le_of_ble_eq_true rfl, Nat.le_of_ble_eq_true rfl⟩ (fun r8 w9 H locs hw8 hP hD hS => ?_)
    obtain ⟨rfl, hw8_0⟩ := hw8
    have b_r8 := iB r8
    refine m_if_ne (X := r8.toInt) (tgt := 16) hx hb dX9_stores_11 (by decide) rfl (fun c11 => ?_) (fun c11 => ?_)
    · skip
      refine lv_iload_n hx hb dX9_stores_16 rfl (lv_at hl 1 rfl) ?_
      refine call_iSP (As := [.int a9]) (rest := []) ⟨hx, hb, hml, hown, hts⟩ (tX0_elementsOf (l := l) a9) (va_cwS 1 hts (gS (wr59 _ (List.mem_of_getElem? (i := 4) rfl)) (wr39 _ (List.mem_of_getElem? (i := 14) rfl)) (wr19 _ (List.mem_of_getElem? (i := 5) rfl)) (wr39 _ (List.mem_of_getElem? (i := 15) rfl))) rfl rfl rfl (by decide +kernel) ⟨Nat.le_of_ble_eq_true rfl, Nat.le_of_ble_eq_true rfl⟩) (hK.sub [] rfl) hP hD hE hS hA rfl hl.1 rfl (Nat.le_of_ble_eq_true rfl) dX9_stores_17 ⟨Nat.le_of_ble_eq_true rfl, Nat.le_of_ble_eq_true rfl⟩ (fun r17 w9 H locs hw17 hP hD hS => ?_)
      obtain ⟨rfl, hw17_0⟩ := hw17
      have b_r17 := iB r17
      refine lv_iload_n hx hb dX9_stores_20 rfl (lv_at hl 2 rfl) ?_
      refine call_iSP (As := [.int r17, .int b9]) (rest := []) ⟨hx, hb, hml, hown, hts⟩ (tX0_writeRefusal (l := l) r17 b9) (va_cwS 2 hts (gS (wr59 _ (List.mem_of_getElem? (i := 5) rfl)) (wr40 _ (List.mem_of_getElem? (i := 1) rfl)) (wr19 _ (List.mem_of_getElem? (i := 5) rfl)) (wr40 _ (List.mem_of_getElem? (i := 2) rfl))) rfl rfl rfl (by decide +kernel) ⟨Nat.le_of_ble_eq_true rfl, Nat.le_of_ble_eq_true rfl⟩) (hK.sub [] rfl) hP hD hE hS hA rfl hl.1 rfl (Nat.le_of_ble_eq_true rfl) dX9_stores_21 ⟨Nat.le_of_ble_eq_true rfl, Nat.le_of_ble_eq_true rfl⟩ (fun r21 w9 H locs hw21 hP hD hS => ?_)
      obtain ⟨rfl, hw21_0⟩ := hw21
      have b_r21 := iB r21
      subst hAe
      rw [hQ]
      exact W.iret (v := r21) hx hb hr (fun t ht hW => ⟨⟨r21, _, rfl, ⟨rfl, by exact ⟨by assumption, by assumption, by assumption, by assumption, by assumption, by assumption, ⟨by omega, by omega⟩, ⟨by omega, by omega⟩, by omega, by assumption⟩, by first | exact STq.bad (by decide) (fun q => (hw1_0.resolve_left (fun z => by omega)).2 ⟨q.1, q.2.1⟩) | exact STq.bad (by decide) (fun q => (hw8_0.resolve_left (fun z => by omega)).2 q.2.2) | (have hA9 := (hw1_0.resolve_right (fun z => by omega)).2; have hB9 := (hw8_0.resolve_right (fun z => by omega)).2; have hb9 := ICp.nn hB9; have h20 := hA9.1; have e17 := hw17_0 (by omega); have hw9 := hw21_0 (by omega) hb9; rw [e17] at hw9; exact STq.ok ⟨hA9.1, hA9.2, hB9⟩ hw9)⟩, by rw [ht]; exact hP, va_K.moved hW.alike hK, hD⟩, hS.F ht⟩) hS.2.2 dX9_stores_24
    · skip
      refine lv_iconst (v := (-1)) hx hb dX9_stores_14 (by decide) ?_
      subst hAe
      rw [hQ]
      exact W.iret (v := (-1)) hx hb hr (fun t ht hW => ⟨⟨(-1), _, rfl, ⟨rfl, by exact ⟨by assumption, by assumption, by assumption, by assumption, by assumption, by assumption, ⟨by omega, by omega⟩, ⟨by omega, by omega⟩, by omega, by assumption⟩, by first | exact STq.bad (by decide) (fun q => (hw1_0.resolve_left (fun z => by omega)).2 ⟨q.1, q.2.1⟩) | exact STq.bad (by decide) (fun q => (hw8_0.resolve_left (fun z => by omega)).2 q.2.2) | (have hA9 := (hw1_0.resolve_right (fun z => by omega)).2; have hB9 := (hw8_0.resolve_right (fun z => by omega)).2; have hb9 := ICp.nn hB9; have h20 := hA9.1; have e17 := hw17_0 (by omega); have hw9 := hw21_0 (by omega) hb9; rw [e17] at hw9; exact STq.ok ⟨hA9.1, hA9.2, hB9⟩ hw9)⟩, by rw [ht]; exact hP, va_K.moved hW.alike hK, hD⟩, hS.F ht⟩) hS.2.2 dX9_stores_15

def rmX9_copies : Room := { frames := 80, cells := 0, slots := 0, locals := 1600 }
set_option maxHeartbeats 4000000 in
set_option maxRecDepth 100000 in
theorem tX9_copies {l : Launch} {D : va_G} {K : Nat → Nat → Nat} {cs : Nat → ClassId} {q : Nat → Nat} {v_t_tapeSize v_t_textSize v_t_faultKind v_g_size v_h_size v_r_takes v_r_negative v_r_namePlace v_r_faultKind v_r_faultPlace v_a_size v_a_limit v_a_digits v_a_kind v_a_from v_a_to v_o_size v_b_size v_b_limit v_b_digits v_b_kind v_b_from v_b_to v_u_marksMade v_u_came v_u_guesses v_u_right v_u_taken v_s_things v_s_looked v_s_lookedTooOften v_s_arraysMade v_s_cellsMade : Int32} {a_t_tape a_t_text a_o_out a_u_outcomes a_u_indexes a_s_classes a_s_starts a_s_lengths a_vc : Nat → Int32} {a_g_beyond a_h_beyond a_r_scratch a_r_now a_u_atom a_u_other a_u_hand : Nat} {a_g_steps a_h_steps a_u_vars a_u_marks : Nat → Option Nat} {a_s_cells a_vd a_sj : Nat → Int64} {a_L : List Nat} {a_K a_iv a_inn : Nat → Nat} {a_si a_ac : Nat → Nat → Int32} (a9 : Int32) (b9 : Int32) (d9 : Int32) (p_0 : TRN a_L a_K a_si a_iv a_inn a_g_beyond a_h_beyond a_r_scratch a_g_steps a_h_steps a_u_atom a_u_other a_u_hand a_u_vars a_u_marks a_r_now v_a_size v_a_limit v_a_digits v_a_kind v_a_from v_a_to v_b_size v_b_limit v_b_digits v_b_kind v_b_from v_b_to v_s_things v_s_cellsMade a_s_starts a_s_lengths v_t_tapeSize v_o_size v_u_marksMade a_t_tape) : CtI l yX9_copies (wG yX9_copies cX9_copies 4 (some .int)) rmX9_copies D (twT cs) K [.ref (q 0), .int a9, .int b9, .int d9] (tw cs q v_t_tapeSize v_t_textSize v_t_faultKind a_t_tape a_t_text a_g_beyond v_g_size a_g_steps a_h_beyond v_h_size a_h_steps a_r_scratch a_r_now v_r_takes v_r_negative v_r_namePlace v_r_faultKind v_r_faultPlace v_a_size v_a_limit v_a_digits v_a_kind v_a_from v_a_to v_o_size a_o_out v_b_size v_b_limit v_b_digits v_b_kind v_b_from v_b_to a_u_atom a_u_other a_u_hand v_u_marksMade v_u_came v_u_guesses v_u_right v_u_taken a_u_vars a_u_marks a_u_outcomes a_u_indexes v_s_things v_s_looked v_s_lookedTooOften v_s_arraysMade v_s_cellsMade a_s_classes a_s_starts a_s_lengths a_s_cells a_L a_K a_vc a_vd a_si a_sj a_iv a_inn a_ac) (fun r w1 => w1 = (tw cs q v_t_tapeSize v_t_textSize v_t_faultKind a_t_tape a_t_text a_g_beyond v_g_size a_g_steps a_h_beyond v_h_size a_h_steps a_r_scratch a_r_now v_r_takes v_r_negative v_r_namePlace v_r_faultKind v_r_faultPlace v_a_size v_a_limit v_a_digits v_a_kind v_a_from v_a_to v_o_size a_o_out v_b_size v_b_limit v_b_digits v_b_kind v_b_from v_b_to a_u_atom a_u_other a_u_hand v_u_marksMade v_u_came v_u_guesses v_u_right v_u_taken a_u_vars a_u_marks a_u_outcomes a_u_indexes v_s_things v_s_looked v_s_lookedTooOften v_s_arraysMade v_s_cellsMade a_s_classes a_s_starts a_s_lengths a_s_cells a_L a_K a_vc a_vd a_si a_sj a_iv a_inn a_ac) ∧ (TRN a_L a_K a_si a_iv a_inn a_g_beyond a_h_beyond a_r_scratch a_g_steps a_h_steps a_u_atom a_u_other a_u_hand a_u_vars a_u_marks a_r_now v_a_size v_a_limit v_a_digits v_a_kind v_a_from v_a_to v_b_size v_b_limit v_b_digits v_b_kind v_b_from v_b_to v_s_things v_s_cellsMade a_s_starts a_s_lengths v_t_tapeSize v_o_size v_u_marksMade a_t_tape) ∧ (CPq a9.toInt b9.toInt d9.toInt r.toInt)) 0 0 := by
  intro sz
  refine Met.ofW (cc := cX9_copies) (maxL := 4) (ret := (some .int)) (by decide) rfl ?_
  intro p e s m args below meth c s₁ B hml hv
  obtain ⟨rfl, hsz, hP, hK, hD0, hE⟩ := hv
  have hx := B.exec
  have hb := B.bytes
  have hr := B.returns
  have hts := atoms_spec (ws := (wG yX9_copies cX9_copies 4 (some .int))) B.pre
  have hown : s.vm.findClass RX9 = some m.cls := findClass_of_methodNamed B.named
  have hlocks := B.notSynchronized
  subst hsz
  have hD := hD0.self (sz := s.heap.size)
  obtain ⟨A, hAe⟩ : ∃ A : Nat → Prop, A = va_A (tw cs q v_t_tapeSize v_t_textSize v_t_faultKind a_t_tape a_t_text a_g_beyond v_g_size a_g_steps a_h_beyond v_h_size a_h_steps a_r_scratch a_r_now v_r_takes v_r_negative v_r_namePlace v_r_faultKind v_r_faultPlace v_a_size v_a_limit v_a_digits v_a_kind v_a_from v_a_to v_o_size a_o_out v_b_size v_b_limit v_b_digits v_b_kind v_b_from v_b_to a_u_atom a_u_other a_u_hand v_u_marksMade v_u_came v_u_guesses v_u_right v_u_taken a_u_vars a_u_marks a_u_outcomes a_u_indexes v_s_things v_s_looked v_s_lookedTooOften v_s_arraysMade v_s_cellsMade a_s_classes a_s_starts a_s_lengths a_s_cells a_L a_K a_vc a_vd a_si a_sj a_iv a_inn a_ac) s.heap.size := ⟨_, rfl⟩
  rw [← hAe] at hD hE
  have hA : ∀ q : Nat, s.heap.size ≤ q → A q := fun q h => by rw [hAe]; exact Or.inr h
  have hS : va_S A s.heap s.heap [] := va_S.rf
  have hl := lv_entry ([.ref (q 0), .int a9, .int b9, .int d9]) (n := 4) (Nat.le_of_ble_eq_true rfl)
  rw [lg_entry_eq]
  generalize (lg_sl ([.ref (q 0), .int a9, .int b9, .int d9]) ++ List.replicate (4 - (lg_sl ([.ref (q 0), .int a9, .int b9, .int d9])).length) Slot.unset).toArray = ls at hl ⊢
  have hl : lv_has ls 4 [(0, .ref (q 0)), (1, .int a9), (2, .int b9), (3, .int d9)] := hl
  refine wq (fun Q hQ => ?_)
  have kc0 : (-1 : Int32).toInt = -1 := by decide
  have kc1 : (0 : Int32).toInt = 0 := by decide
  have kc2 : (6 : Int32).toInt = 6 := by decide
  obtain ⟨H, hH⟩ : ∃ H : Heap, H = s.heap := ⟨_, rfl⟩
  obtain ⟨locs, hlc⟩ : ∃ L : List Loc, L = [] := ⟨_, rfl⟩
  have hP : va_P D vwCl (tw cs q v_t_tapeSize v_t_textSize v_t_faultKind a_t_tape a_t_text a_g_beyond v_g_size a_g_steps a_h_beyond v_h_size a_h_steps a_r_scratch a_r_now v_r_takes v_r_negative v_r_namePlace v_r_faultKind v_r_faultPlace v_a_size v_a_limit v_a_digits v_a_kind v_a_from v_a_to v_o_size a_o_out v_b_size v_b_limit v_b_digits v_b_kind v_b_from v_b_to a_u_atom a_u_other a_u_hand v_u_marksMade v_u_came v_u_guesses v_u_right v_u_taken a_u_vars a_u_marks a_u_outcomes a_u_indexes v_s_things v_s_looked v_s_lookedTooOften v_s_arraysMade v_s_cellsMade a_s_classes a_s_starts a_s_lengths a_s_cells a_L a_K a_vc a_vd a_si a_sj a_iv a_inn a_ac) H := by rw [hH]; exact hP
  have hS : va_S A s.heap H locs := by rw [hH, hlc]; exact hS
  refine wHL hH hlc ?_
  have b_a9 := iB a9
  have b_b9 := iB b9
  have b_d9 := iB d9
  obtain ⟨hRF, hPI, hNow, hLA, hLB, hSTO, ⟨ht0, ht1⟩, ⟨ho0, ho1⟩, hm0, hFB⟩ := id p_0
  refine lv_iload_n hx hb dX9_copies_0 rfl (lv_at hl 3 rfl) ?_
  refine call_iSP (As := [.int d9]) (rest := []) ⟨hx, hb, hml, hown, hts⟩ (tX0_isArrays (l := l) d9) (va_cwS 1 hts (gS (wr59 _ (List.mem_of_getElem? (i := 0) rfl)) (wr59 _ (List.mem_of_getElem? (i := 1) rfl)) (wr19 _ (List.mem_of_getElem? (i := 5) rfl)) (wr59 _ (List.mem_of_getElem? (i := 2) rfl))) rfl rfl rfl (by decide +kernel) ⟨Nat.le_of_ble_eq_true rfl, Nat.le_of_ble_eq_true rfl⟩) (hK.sub [] rfl) hP hD hE hS hA rfl hl.1 rfl (Nat.le_of_ble_eq_true rfl) dX9_copies_1 ⟨Nat.le_of_ble_eq_true rfl, Nat.le_of_ble_eq_true rfl⟩ (fun r1 w9 H locs hw1 hP hD hS => ?_)
  obtain ⟨rfl, hw1_0⟩ := hw1
  have b_r1 := iB r1
  refine m_if_eq (X := r1.toInt) (tgt := 16) hx hb dX9_copies_4 (by decide) rfl (fun c4 => ?_) (fun c4 => ?_)
  · skip
    refine lv_iconst (v := (-1)) hx hb dX9_copies_16 (by decide) ?_
    subst hAe
    rw [hQ]
    exact W.iret (v := (-1)) hx hb hr (fun t ht hW => ⟨⟨(-1), _, rfl, ⟨rfl, by exact ⟨by assumption, by assumption, by assumption, by assumption, by assumption, by assumption, ⟨by omega, by omega⟩, ⟨by omega, by omega⟩, by omega, by assumption⟩, by first | exact CPq.bad (by decide) (fun q => (hw1_0.resolve_left (fun z => by omega)).2 ⟨q.2.1, q.2.2⟩) | exact CPq.bad (by decide) (fun q => absurd (STq.uniq hw10_1 q.1) (by omega)) | (have hA9 := (hw1_0.resolve_right (fun z => by omega)).2; have h20 := hA9.1; have hs9 : STq a9.toInt b9.toInt 0 := (show r10.toInt = 0 by omega) ▸ hw10_1; have hv9 : CVq a9.toInt b9.toInt d9.toInt := ⟨hs9, hA9⟩; have ha9 := hs9.val.1.1; exact CPq.ne hv9 (by omega) (by omega) (by decide)) | (have hA9 := (hw1_0.resolve_right (fun z => by omega)).2; have h20 := hA9.1; have hs9 : STq a9.toInt b9.toInt 0 := (show r10.toInt = 0 by omega) ▸ hw10_1; have hv9 : CVq a9.toInt b9.toInt d9.toInt := ⟨hs9, hA9⟩; have ha9 := hs9.val.1.1; exact CPq.eq hv9 (by omega) (by omega) (by decide)) | (have hA9 := (hw1_0.resolve_right (fun z => by omega)).2; have h20 := hA9.1; have hs9 : STq a9.toInt b9.toInt 0 := (show r10.toInt = 0 by omega) ▸ hw10_1; have hv9 : CVq a9.toInt b9.toInt d9.toInt := ⟨hs9, hA9⟩; have ha9 := hs9.val.1.1; have hB9 := ICp.nn hs9.val.1.2.2; have e41 := hw41_0 (by omega); have hw9 := hw45_0 (by omega) hB9; rw [e41] at hw9; exact CPq.last hv9 (by omega) (by omega) hw9)⟩, by rw [ht]; exact hP, va_K.moved hW.alike hK, hD⟩, hS.F ht⟩) hS.2.2 dX9_copies_17
  · skip
    refine lv_aload_n hx hb dX9_copies_7 rfl (lv_at hl 0 rfl) ?_
    refine lv_iload_n hx hb dX9_copies_8 rfl (lv_at hl 1 rfl) ?_
    refine lv_iload_n hx hb dX9_copies_9 rfl (lv_at hl 2 rfl) ?_
    refine call_i (As := [.int a9, .int b9]) (rest := []) ⟨hx, hb, hml, hown, hts⟩ (tX9_stores (l := l) a9 b9 (by first | assumption | omega | (intros; omega) | decide)) (cwV 2 hts (gV (wr59 _ (List.mem_of_getElem? (i := 14) rfl)) (wr58 _ (List.mem_of_getElem? (i := 21) rfl)) (wr58 _ (List.mem_of_getElem? (i := 22) rfl)) (wr1 _ (List.mem_of_getElem? (i := 2) rfl)) (wr58 _ (List.mem_of_getElem? (i := 23) rfl))) rfl rfl rfl (by decide +kernel) ⟨Nat.le_of_ble_eq_true rfl, Nat.le_of_ble_eq_true rfl⟩) (va_recv hK hP (ci := 8) (q0 := 0) rfl rfl) hK hP hD hE hS hA rfl hl.1 rfl (Nat.le_of_ble_eq_true rfl) dX9_copies_10 ⟨Nat.le_of_ble_eq_true rfl, Nat.le_of_ble_eq_true rfl⟩ (fun r10 w9 H locs hw10 hP hD hS => ?_)
    obtain ⟨rfl, hw10_0, hw10_1⟩ := hw10
    have b_r10 := iB r10
    refine m_if_eq (X := r10.toInt) (tgt := 18) hx hb dX9_copies_13 (by decide) rfl (fun c13 => ?_) (fun c13 => ?_)
    · skip
      refine lv_iload_n hx hb dX9_copies_18 rfl (lv_at hl 1 rfl) ?_
      refine lv_iload_n hx hb dX9_copies_19 rfl (lv_at hl 3 rfl) ?_
      refine call_iSP (As := [.int a9, .int d9]) (rest := []) ⟨hx, hb, hml, hown, hts⟩ (tX0_areUnlike (l := l) a9 d9) (va_cwS 2 hts (gS (wr59 _ (List.mem_of_getElem? (i := 15) rfl)) (wr44 _ (List.mem_of_getElem? (i := 23) rfl)) (wr19 _ (List.mem_of_getElem? (i := 5) rfl)) (wr45 _ (List.mem_of_getElem? (i := 0) rfl))) rfl rfl rfl (by decide +kernel) ⟨Nat.le_of_ble_eq_true rfl, Nat.le_of_ble_eq_true rfl⟩) (hK.sub [] rfl) hP hD hE hS hA rfl hl.1 rfl (Nat.le_of_ble_eq_true rfl) dX9_copies_20 ⟨Nat.le_of_ble_eq_true rfl, Nat.le_of_ble_eq_true rfl⟩ (fun r20 w9 H locs hw20 hP hD hS => ?_)
      obtain ⟨rfl, hw20_0, hw20_1⟩ := hw20
      have b_r20 := iB r20
      refine m_if_eq (X := r20.toInt) (tgt := 29) hx hb dX9_copies_23 (by decide) rfl (fun c23 => ?_) (fun c23 => ?_)
      · skip
        refine lv_iload_n hx hb dX9_copies_29 rfl (lv_at hl 1 rfl) ?_
        refine call_iSP (As := [.int a9]) (rest := []) ⟨hx, hb, hml, hown, hts⟩ (tX0_ofNumbers (l := l) a9) (va_cwS 1 hts (gS (wr59 _ (List.mem_of_getElem? (i := 16) rfl)) (wr45 _ (List.mem_of_getElem? (i := 2) rfl)) (wr19 _ (List.mem_of_getElem? (i := 5) rfl)) (wr45 _ (List.mem_of_getElem? (i := 3) rfl))) rfl rfl rfl (by decide +kernel) ⟨Nat.le_of_ble_eq_true rfl, Nat.le_of_ble_eq_true rfl⟩) (hK.sub [] rfl) hP hD hE hS hA rfl hl.1 rfl (Nat.le_of_ble_eq_true rfl) dX9_copies_30 ⟨Nat.le_of_ble_eq_true rfl, Nat.le_of_ble_eq_true rfl⟩ (fun r30 w9 H locs hw30 hP hD hS => ?_)
        obtain ⟨rfl, hw30_0⟩ := hw30
        have b_r30 := iB r30
        refine m_if_eq (X := r30.toInt) (tgt := 40) hx hb dX9_copies_33 (by decide) rfl (fun c33 => ?_) (fun c33 => ?_)
        · skip
          refine lv_iload_n hx hb dX9_copies_40 rfl (lv_at hl 3 rfl) ?_
          refine call_iSP (As := [.int d9]) (rest := []) ⟨hx, hb, hml, hown, hts⟩ (tX0_elementsOf (l := l) d9) (va_cwS 1 hts (gS (wr59 _ (List.mem_of_getElem? (i := 4) rfl)) (wr39 _ (List.mem_of_getElem? (i := 14) rfl)) (wr19 _ (List.mem_of_getElem? (i := 5) rfl)) (wr39 _ (List.mem_of_getElem? (i := 15) rfl))) rfl rfl rfl (by decide +kernel) ⟨Nat.le_of_ble_eq_true rfl, Nat.le_of_ble_eq_true rfl⟩) (hK.sub [] rfl) hP hD hE hS hA rfl hl.1 rfl (Nat.le_of_ble_eq_true rfl) dX9_copies_41 ⟨Nat.le_of_ble_eq_true rfl, Nat.le_of_ble_eq_true rfl⟩ (fun r41 w9 H locs hw41 hP hD hS => ?_)
          obtain ⟨rfl, hw41_0⟩ := hw41
          have b_r41 := iB r41
          refine lv_iload_n hx hb dX9_copies_44 rfl (lv_at hl 2 rfl) ?_
          refine call_iSP (As := [.int r41, .int b9]) (rest := []) ⟨hx, hb, hml, hown, hts⟩ (tX0_writeRefusal (l := l) r41 b9) (va_cwS 2 hts (gS (wr59 _ (List.mem_of_getElem? (i := 5) rfl)) (wr40 _ (List.mem_of_getElem? (i := 1) rfl)) (wr19 _ (List.mem_of_getElem? (i := 5) rfl)) (wr40 _ (List.mem_of_getElem? (i := 2) rfl))) rfl rfl rfl (by decide +kernel) ⟨Nat.le_of_ble_eq_true rfl, Nat.le_of_ble_eq_true rfl⟩) (hK.sub [] rfl) hP hD hE hS hA rfl hl.1 rfl (Nat.le_of_ble_eq_true rfl) dX9_copies_45 ⟨Nat.le_of_ble_eq_true rfl, Nat.le_of_ble_eq_true rfl⟩ (fun r45 w9 H locs hw45 hP hD hS => ?_)
          obtain ⟨rfl, hw45_0⟩ := hw45
          have b_r45 := iB r45
          subst hAe
          rw [hQ]
          exact W.iret (v := r45) hx hb hr (fun t ht hW => ⟨⟨r45, _, rfl, ⟨rfl, by exact ⟨by assumption, by assumption, by assumption, by assumption, by assumption, by assumption, ⟨by omega, by omega⟩, ⟨by omega, by omega⟩, by omega, by assumption⟩, by first | exact CPq.bad (by decide) (fun q => (hw1_0.resolve_left (fun z => by omega)).2 ⟨q.2.1, q.2.2⟩) | exact CPq.bad (by decide) (fun q => absurd (STq.uniq hw10_1 q.1) (by omega)) | (have hA9 := (hw1_0.resolve_right (fun z => by omega)).2; have h20 := hA9.1; have hs9 : STq a9.toInt b9.toInt 0 := (show r10.toInt = 0 by omega) ▸ hw10_1; have hv9 : CVq a9.toInt b9.toInt d9.toInt := ⟨hs9, hA9⟩; have ha9 := hs9.val.1.1; exact CPq.ne hv9 (by omega) (by omega) (by decide)) | (have hA9 := (hw1_0.resolve_right (fun z => by omega)).2; have h20 := hA9.1; have hs9 : STq a9.toInt b9.toInt 0 := (show r10.toInt = 0 by omega) ▸ hw10_1; have hv9 : CVq a9.toInt b9.toInt d9.toInt := ⟨hs9, hA9⟩; have ha9 := hs9.val.1.1; exact CPq.eq hv9 (by omega) (by omega) (by decide)) | (have hA9 := (hw1_0.resolve_right (fun z => by omega)).2; have h20 := hA9.1; have hs9 : STq a9.toInt b9.toInt 0 := (show r10.toInt = 0 by omega) ▸ hw10_1; have hv9 : CVq a9.toInt b9.toInt d9.toInt := ⟨hs9, hA9⟩; have ha9 := hs9.val.1.1; have hB9 := ICp.nn hs9.val.1.2.2; have e41 := hw41_0 (by omega); have hw9 := hw45_0 (by omega) hB9; rw [e41] at hw9; exact CPq.last hv9 (by omega) (by omega) hw9)⟩, by rw [ht]; exact hP, va_K.moved hW.alike hK, hD⟩, hS.F ht⟩) hS.2.2 dX9_copies_48
        · skip
          refine lv_iconst (v := 0) hx hb dX9_copies_36 (by decide) ?_
          refine lv_goto (tgt := 48) hx hb dX9_copies_37 (by decide) ?_
          subst hAe
          rw [hQ]
          exact W.iret (v := 0) hx hb hr (fun t ht hW => ⟨⟨0, _, rfl, ⟨rfl, by exact ⟨by assumption, by assumption, by assumption, by assumption, by assumption, by assumption, ⟨by omega, by omega⟩, ⟨by omega, by omega⟩, by omega, by assumption⟩, by first | exact CPq.bad (by decide) (fun q => (hw1_0.resolve_left (fun z => by omega)).2 ⟨q.2.1, q.2.2⟩) | exact CPq.bad (by decide) (fun q => absurd (STq.uniq hw10_1 q.1) (by omega)) | (have hA9 := (hw1_0.resolve_right (fun z => by omega)).2; have h20 := hA9.1; have hs9 : STq a9.toInt b9.toInt 0 := (show r10.toInt = 0 by omega) ▸ hw10_1; have hv9 : CVq a9.toInt b9.toInt d9.toInt := ⟨hs9, hA9⟩; have ha9 := hs9.val.1.1; exact CPq.ne hv9 (by omega) (by omega) (by decide)) | (have hA9 := (hw1_0.resolve_right (fun z => by omega)).2; have h20 := hA9.1; have hs9 : STq a9.toInt b9.toInt 0 := (show r10.toInt = 0 by omega) ▸ hw10_1; have hv9 : CVq a9.toInt b9.toInt d9.toInt := ⟨hs9, hA9⟩; have ha9 := hs9.val.1.1; exact CPq.eq hv9 (by omega) (by omega) (by decide)) | (have hA9 := (hw1_0.resolve_right (fun z => by omega)).2; have h20 := hA9.1; have hs9 : STq a9.toInt b9.toInt 0 := (show r10.toInt = 0 by omega) ▸ hw10_1; have hv9 : CVq a9.toInt b9.toInt d9.toInt := ⟨hs9, hA9⟩; have ha9 := hs9.val.1.1; have hB9 := ICp.nn hs9.val.1.2.2; have e41 := hw41_0 (by omega); have hw9 := hw45_0 (by omega) hB9; rw [e41] at hw9; exact CPq.last hv9 (by omega) (by omega) hw9)⟩, by rw [ht]; exact hP, va_K.moved hW.alike hK, hD⟩, hS.F ht⟩) hS.2.2 dX9_copies_48
      · skip
        refine lv_bipush (v := 6) hx hb dX9_copies_26 (by decide) ?_
        subst hAe
        rw [hQ]
        exact W.iret (v := 6) hx hb hr (fun t ht hW => ⟨⟨6, _, rfl, ⟨rfl, by exact ⟨by assumption, by assumption, by assumption, by assumption, by assumption, by assumption, ⟨by omega, by omega⟩, ⟨by omega, by omega⟩, by omega, by assumption⟩, by first | exact CPq.bad (by decide) (fun q => (hw1_0.resolve_left (fun z => by omega)).2 ⟨q.2.1, q.2.2⟩) | exact CPq.bad (by decide) (fun q => absurd (STq.uniq hw10_1 q.1) (by omega)) | (have hA9 := (hw1_0.resolve_right (fun z => by omega)).2; have h20 := hA9.1; have hs9 : STq a9.toInt b9.toInt 0 := (show r10.toInt = 0 by omega) ▸ hw10_1; have hv9 : CVq a9.toInt b9.toInt d9.toInt := ⟨hs9, hA9⟩; have ha9 := hs9.val.1.1; exact CPq.ne hv9 (by omega) (by omega) (by decide)) | (have hA9 := (hw1_0.resolve_right (fun z => by omega)).2; have h20 := hA9.1; have hs9 : STq a9.toInt b9.toInt 0 := (show r10.toInt = 0 by omega) ▸ hw10_1; have hv9 : CVq a9.toInt b9.toInt d9.toInt := ⟨hs9, hA9⟩; have ha9 := hs9.val.1.1; exact CPq.eq hv9 (by omega) (by omega) (by decide)) | (have hA9 := (hw1_0.resolve_right (fun z => by omega)).2; have h20 := hA9.1; have hs9 : STq a9.toInt b9.toInt 0 := (show r10.toInt = 0 by omega) ▸ hw10_1; have hv9 : CVq a9.toInt b9.toInt d9.toInt := ⟨hs9, hA9⟩; have ha9 := hs9.val.1.1; have hB9 := ICp.nn hs9.val.1.2.2; have e41 := hw41_0 (by omega); have hw9 := hw45_0 (by omega) hB9; rw [e41] at hw9; exact CPq.last hv9 (by omega) (by omega) hw9)⟩, by rw [ht]; exact hP, va_K.moved hW.alike hK, hD⟩, hS.F ht⟩) hS.2.2 dX9_copies_28
    · skip
      refine lv_iconst (v := (-1)) hx hb dX9_copies_16 (by decide) ?_
      subst hAe
      rw [hQ]
      exact W.iret (v := (-1)) hx hb hr (fun t ht hW => ⟨⟨(-1), _, rfl, ⟨rfl, by exact ⟨by assumption, by assumption, by assumption, by assumption, by assumption, by assumption, ⟨by omega, by omega⟩, ⟨by omega, by omega⟩, by omega, by assumption⟩, by first | exact CPq.bad (by decide) (fun q => (hw1_0.resolve_left (fun z => by omega)).2 ⟨q.2.1, q.2.2⟩) | exact CPq.bad (by decide) (fun q => absurd (STq.uniq hw10_1 q.1) (by omega)) | (have hA9 := (hw1_0.resolve_right (fun z => by omega)).2; have h20 := hA9.1; have hs9 : STq a9.toInt b9.toInt 0 := (show r10.toInt = 0 by omega) ▸ hw10_1; have hv9 : CVq a9.toInt b9.toInt d9.toInt := ⟨hs9, hA9⟩; have ha9 := hs9.val.1.1; exact CPq.ne hv9 (by omega) (by omega) (by decide)) | (have hA9 := (hw1_0.resolve_right (fun z => by omega)).2; have h20 := hA9.1; have hs9 : STq a9.toInt b9.toInt 0 := (show r10.toInt = 0 by omega) ▸ hw10_1; have hv9 : CVq a9.toInt b9.toInt d9.toInt := ⟨hs9, hA9⟩; have ha9 := hs9.val.1.1; exact CPq.eq hv9 (by omega) (by omega) (by decide)) | (have hA9 := (hw1_0.resolve_right (fun z => by omega)).2; have h20 := hA9.1; have hs9 : STq a9.toInt b9.toInt 0 := (show r10.toInt = 0 by omega) ▸ hw10_1; have hv9 : CVq a9.toInt b9.toInt d9.toInt := ⟨hs9, hA9⟩; have ha9 := hs9.val.1.1; have hB9 := ICp.nn hs9.val.1.2.2; have e41 := hw41_0 (by omega); have hw9 := hw45_0 (by omega) hB9; rw [e41] at hw9; exact CPq.last hv9 (by omega) (by omega) hw9)⟩, by rw [ht]; exact hP, va_K.moved hW.alike hK, hD⟩, hS.F ht⟩) hS.2.2 dX9_copies_17

def rmX9_count : Room := { frames := 40, cells := 0, slots := 0, locals := 800 }
set_option maxHeartbeats 4000000 in
set_option maxRecDepth 100000 in
theorem tX9_count {l : Launch} {D : va_G} {K : Nat → Nat → Nat} {cs : Nat → ClassId} {q : Nat → Nat} {v_t_tapeSize v_t_textSize v_t_faultKind v_g_size v_h_size v_r_takes v_r_negative v_r_namePlace v_r_faultKind v_r_faultPlace v_a_size v_a_limit v_a_digits v_a_kind v_a_from v_a_to v_o_size v_b_size v_b_limit v_b_digits v_b_kind v_b_from v_b_to v_u_marksMade v_u_came v_u_guesses v_u_right v_u_taken v_s_things v_s_looked v_s_lookedTooOften v_s_arraysMade v_s_cellsMade : Int32} {a_t_tape a_t_text a_o_out a_u_outcomes a_u_indexes a_s_classes a_s_starts a_s_lengths a_vc : Nat → Int32} {a_g_beyond a_h_beyond a_r_scratch a_r_now a_u_atom a_u_other a_u_hand : Nat} {a_g_steps a_h_steps a_u_vars a_u_marks : Nat → Option Nat} {a_s_cells a_vd a_sj : Nat → Int64} {a_L : List Nat} {a_K a_iv a_inn : Nat → Nat} {a_si a_ac : Nat → Nat → Int32} (w9 : Int32) (p_0 : TRN a_L a_K a_si a_iv a_inn a_g_beyond a_h_beyond a_r_scratch a_g_steps a_h_steps a_u_atom a_u_other a_u_hand a_u_vars a_u_marks a_r_now v_a_size v_a_limit v_a_digits v_a_kind v_a_from v_a_to v_b_size v_b_limit v_b_digits v_b_kind v_b_from v_b_to v_s_things v_s_cellsMade a_s_starts a_s_lengths v_t_tapeSize v_o_size v_u_marksMade a_t_tape) : CtI l yX9_count (wG yX9_count cX9_count 2 (some .int)) rmX9_count D (twT cs) K [.ref (q 0), .int w9] (tw cs q v_t_tapeSize v_t_textSize v_t_faultKind a_t_tape a_t_text a_g_beyond v_g_size a_g_steps a_h_beyond v_h_size a_h_steps a_r_scratch a_r_now v_r_takes v_r_negative v_r_namePlace v_r_faultKind v_r_faultPlace v_a_size v_a_limit v_a_digits v_a_kind v_a_from v_a_to v_o_size a_o_out v_b_size v_b_limit v_b_digits v_b_kind v_b_from v_b_to a_u_atom a_u_other a_u_hand v_u_marksMade v_u_came v_u_guesses v_u_right v_u_taken a_u_vars a_u_marks a_u_outcomes a_u_indexes v_s_things v_s_looked v_s_lookedTooOften v_s_arraysMade v_s_cellsMade a_s_classes a_s_starts a_s_lengths a_s_cells a_L a_K a_vc a_vd a_si a_sj a_iv a_inn a_ac) (fun r w1 => w1 = (tw cs q v_t_tapeSize v_t_textSize v_t_faultKind a_t_tape a_t_text a_g_beyond v_g_size a_g_steps a_h_beyond v_h_size a_h_steps a_r_scratch a_r_now v_r_takes v_r_negative v_r_namePlace v_r_faultKind v_r_faultPlace v_a_size v_a_limit v_a_digits v_a_kind v_a_from v_a_to v_o_size a_o_out v_b_size v_b_limit v_b_digits v_b_kind v_b_from v_b_to a_u_atom a_u_other a_u_hand v_u_marksMade v_u_came v_u_guesses v_u_right v_u_taken a_u_vars a_u_marks a_u_outcomes a_u_indexes v_s_things v_s_looked v_s_lookedTooOften v_s_arraysMade v_s_cellsMade a_s_classes a_s_starts a_s_lengths a_s_cells a_L a_K a_vc a_vd a_si a_sj a_iv a_inn a_ac) ∧ (TRN a_L a_K a_si a_iv a_inn a_g_beyond a_h_beyond a_r_scratch a_g_steps a_h_steps a_u_atom a_u_other a_u_hand a_u_vars a_u_marks a_r_now v_a_size v_a_limit v_a_digits v_a_kind v_a_from v_a_to v_b_size v_b_limit v_b_digits v_b_kind v_b_from v_b_to v_s_things v_s_cellsMade a_s_starts a_s_lengths v_t_tapeSize v_o_size v_u_marksMade a_t_tape)) 0 0 := by
  intro sz
  refine Met.ofW (cc := cX9_count) (maxL := 2) (ret := (some .int)) (by decide) rfl ?_
  intro p e s m args below meth c s₁ B hml hv
  obtain ⟨rfl, hsz, hP, hK, hD0, hE⟩ := hv
  have hx := B.exec
  have hb := B.bytes
  have hr := B.returns
  have hts := atoms_spec (ws := (wG yX9_count cX9_count 2 (some .int))) B.pre
  have hown : s.vm.findClass RX9 = some m.cls := findClass_of_methodNamed B.named
  have hlocks := B.notSynchronized
  subst hsz
  have hD := hD0.self (sz := s.heap.size)
  obtain ⟨A, hAe⟩ : ∃ A : Nat → Prop, A = va_A (tw cs q v_t_tapeSize v_t_textSize v_t_faultKind a_t_tape a_t_text a_g_beyond v_g_size a_g_steps a_h_beyond v_h_size a_h_steps a_r_scratch a_r_now v_r_takes v_r_negative v_r_namePlace v_r_faultKind v_r_faultPlace v_a_size v_a_limit v_a_digits v_a_kind v_a_from v_a_to v_o_size a_o_out v_b_size v_b_limit v_b_digits v_b_kind v_b_from v_b_to a_u_atom a_u_other a_u_hand v_u_marksMade v_u_came v_u_guesses v_u_right v_u_taken a_u_vars a_u_marks a_u_outcomes a_u_indexes v_s_things v_s_looked v_s_lookedTooOften v_s_arraysMade v_s_cellsMade a_s_classes a_s_starts a_s_lengths a_s_cells a_L a_K a_vc a_vd a_si a_sj a_iv a_inn a_ac) s.heap.size := ⟨_, rfl⟩
  rw [← hAe] at hD hE
  have hA : ∀ q : Nat, s.heap.size ≤ q → A q := fun q h => by rw [hAe]; exact Or.inr h
  have hS : va_S A s.heap s.heap [] := va_S.rf
  have hl := lv_entry ([.ref (q 0), .int w9]) (n := 2) (Nat.le_of_ble_eq_true rfl)
  rw [lg_entry_eq]
  generalize (lg_sl ([.ref (q 0), .int w9]) ++ List.replicate (2 - (lg_sl ([.ref (q 0), .int w9])).length) Slot.unset).toArray = ls at hl ⊢
  have hl : lv_has ls 2 [(0, .ref (q 0)), (1, .int w9)] := hl
  refine wq (fun Q hQ => ?_)
  have hinX3 : ∀ w ∈ wsX30, w ∈ (wG yX9_count cX9_count 2 (some .int)) := fun w h => List.mem_cons_of_mem _ (inlX3 w h)
  have hinX5 : ∀ w ∈ wsX50, w ∈ (wG yX9_count cX9_count 2 (some .int)) := fun w h => List.mem_cons_of_mem _ (inlX5 w h)
  have hinX9 : ∀ w ∈ wsX90, w ∈ (wG yX9_count cX9_count 2 (some .int)) := fun w h => List.mem_cons_of_mem _ (inlX9 w h)
  have k_2_11 := hts (.fieldLink RX9 50 "ArrayTrainer" "runner" "LArrayTrainer$Runner;") (List.mem_cons_of_mem _ (wr2 _ (List.mem_of_getElem? (i := 11) rfl)))
  have k_1_19 := hts (.fieldLink RX9 19 "ArrayTrainer" "program" "LArrayTrainer$Program;") (List.mem_cons_of_mem _ (wr1 _ (List.mem_of_getElem? (i := 19) rfl)))
  have k_8_11 := hts (.fieldLink RX9 85 "ArrayTrainer$Program" "size" "I") (List.mem_cons_of_mem _ (wr8 _ (List.mem_of_getElem? (i := 11) rfl)))
  have k_7_0 := hts (.fieldLink RX9 54 "ArrayTrainer" "tapeSize" "I") (List.mem_cons_of_mem _ (wr7 _ (List.mem_of_getElem? (i := 0) rfl)))
  have k_2_7 := hts (.fieldLink RX9 43 "ArrayTrainer" "speller" "LArrayTrainer$Speller;") (List.mem_cons_of_mem _ (wr2 _ (List.mem_of_getElem? (i := 7) rfl)))
  have k_32_22 := hts (.fieldLink RX9 113 "ArrayTrainer$Speller" "size" "I") (List.mem_cons_of_mem _ (wr32 _ (List.mem_of_getElem? (i := 22) rfl)))
  obtain ⟨H, hH⟩ : ∃ H : Heap, H = s.heap := ⟨_, rfl⟩
  obtain ⟨locs, hlc⟩ : ∃ L : List Loc, L = [] := ⟨_, rfl⟩
  have hP : va_P D vwCl (tw cs q v_t_tapeSize v_t_textSize v_t_faultKind a_t_tape a_t_text a_g_beyond v_g_size a_g_steps a_h_beyond v_h_size a_h_steps a_r_scratch a_r_now v_r_takes v_r_negative v_r_namePlace v_r_faultKind v_r_faultPlace v_a_size v_a_limit v_a_digits v_a_kind v_a_from v_a_to v_o_size a_o_out v_b_size v_b_limit v_b_digits v_b_kind v_b_from v_b_to a_u_atom a_u_other a_u_hand v_u_marksMade v_u_came v_u_guesses v_u_right v_u_taken a_u_vars a_u_marks a_u_outcomes a_u_indexes v_s_things v_s_looked v_s_lookedTooOften v_s_arraysMade v_s_cellsMade a_s_classes a_s_starts a_s_lengths a_s_cells a_L a_K a_vc a_vd a_si a_sj a_iv a_inn a_ac) H := by rw [hH]; exact hP
  have hS : va_S A s.heap H locs := by rw [hH, hlc]; exact hS
  refine wHL hH hlc ?_
  have b_w9 := iB w9
  obtain ⟨hRF, hPI, hNow, hLA, hLB, hSTO, ⟨ht0, ht1⟩, ⟨ho0, ho1⟩, hm0, hFB⟩ := id p_0
  refine lv_iload_n hx hb dX9_count_0 rfl (lv_at hl 1 rfl) ?_
  rcases (show (w9.toInt < 0 ∨ 2 < w9.toInt) ∨ w9.toInt = 0 ∨ w9.toInt = 1 ∨ w9.toInt = 2 by omega) with c1 | c1 | c1 | c1
  · skip
    refine lv_tableOut (tgt := 49) hx hb dX9_count_1 c1 (by decide) ?_
    refine lv_aload_n hx hb dX9_count_49 rfl (lv_at hl 0 rfl) ?_
    refine va_get (D := D) (ci := 8) (v := .ref (q 12)) (C := RX9) (T := TX9) (N := 10) hx hb hts hinX9 hown hK hP 0 rfl rfl 9 (by decide) k_2_11 (fun _ h9 => h9) rfl dX9_count_50 ?_
    refine lv_iload_n hx hb dX9_count_53 rfl (lv_at hl 1 rfl) ?_
    refine call_i (As := [.int w9]) (rest := []) ⟨hx, hb, hml, hown, hts⟩ (tX4_tally (l := l) w9) (cwV 1 hts (gV (wr60 _ (List.mem_of_getElem? (i := 2) rfl)) (wr60 _ (List.mem_of_getElem? (i := 3) rfl)) (wr60 _ (List.mem_of_getElem? (i := 4) rfl)) (wr2 _ (List.mem_of_getElem? (i := 10) rfl)) (wr60 _ (List.mem_of_getElem? (i := 5) rfl))) rfl rfl rfl (by decide +kernel) ⟨Nat.le_of_ble_eq_true rfl, Nat.le_of_ble_eq_true rfl⟩) (va_recv hK hP (ci := 3) (q0 := 12) rfl rfl) hK hP hD hE hS hA rfl hl.1 rfl (Nat.le_of_ble_eq_true rfl) dX9_count_54 ⟨Nat.le_of_ble_eq_true rfl, Nat.le_of_ble_eq_true rfl⟩ (fun r54 w9 H locs hw54 hP hD hS => ?_)
    obtain ⟨rfl⟩ := hw54
    have b_r54 := iB r54
    subst hAe
    rw [hQ]
    exact W.iret (v := r54) hx hb hr (fun t ht hW => ⟨⟨r54, _, rfl, ⟨rfl, by exact ⟨by assumption, by assumption, by assumption, by assumption, by assumption, by assumption, ⟨by omega, by omega⟩, ⟨by omega, by omega⟩, by omega, by assumption⟩⟩, by rw [ht]; exact hP, va_K.moved hW.alike hK, hD⟩, hS.F ht⟩) hS.2.2 dX9_count_57
  · skip
    refine lv_tableIn (tgt := 28) (off := 27) hx hb dX9_count_1 (by omega) (by omega) (by rw [c1]; rfl) (by decide) ?_
    refine lv_aload_n hx hb dX9_count_28 rfl (lv_at hl 0 rfl) ?_
    refine va_get (D := D) (ci := 8) (v := .ref (q 3)) (C := RX9) (T := TX9) (N := 10) hx hb hts hinX9 hown hK hP 0 rfl rfl 4 (by decide) k_1_19 (fun _ h9 => h9) rfl dX9_count_29 ?_
    refine va_get (D := D) (ci := 2) (v := .int v_g_size) (C := RX3) (T := TX3) (N := 3) hx hb hts hinX3 hown hK hP 3 rfl rfl 2 (by decide) k_8_11 (fun _ h9 => h9) rfl dX9_count_32 ?_
    subst hAe
    rw [hQ]
    exact W.iret (v := v_g_size) hx hb hr (fun t ht hW => ⟨⟨v_g_size, _, rfl, ⟨rfl, by exact ⟨by assumption, by assumption, by assumption, by assumption, by assumption, by assumption, ⟨by omega, by omega⟩, ⟨by omega, by omega⟩, by omega, by assumption⟩⟩, by rw [ht]; exact hP, va_K.moved hW.alike hK, hD⟩, hS.F ht⟩) hS.2.2 dX9_count_35
  · skip
    refine lv_tableIn (tgt := 36) (off := 35) hx hb dX9_count_1 (by omega) (by omega) (by rw [c1]; rfl) (by decide) ?_
    refine lv_aload_n hx hb dX9_count_36 rfl (lv_at hl 0 rfl) ?_
    refine va_get (D := D) (ci := 8) (v := .int v_t_tapeSize) (C := RX9) (T := TX9) (N := 10) hx hb hts hinX9 hown hK hP 0 rfl rfl 1 (by decide) k_7_0 (fun _ h9 => h9) rfl dX9_count_37 ?_
    subst hAe
    rw [hQ]
    exact W.iret (v := v_t_tapeSize) hx hb hr (fun t ht hW => ⟨⟨v_t_tapeSize, _, rfl, ⟨rfl, by exact ⟨by assumption, by assumption, by assumption, by assumption, by assumption, by assumption, ⟨by omega, by omega⟩, ⟨by omega, by omega⟩, by omega, by assumption⟩⟩, by rw [ht]; exact hP, va_K.moved hW.alike hK, hD⟩, hS.F ht⟩) hS.2.2 dX9_count_40
  · skip
    refine lv_tableIn (tgt := 41) (off := 40) hx hb dX9_count_1 (by omega) (by omega) (by rw [c1]; rfl) (by decide) ?_
    refine lv_aload_n hx hb dX9_count_41 rfl (lv_at hl 0 rfl) ?_
    refine va_get (D := D) (ci := 8) (v := .ref (q 9)) (C := RX9) (T := TX9) (N := 10) hx hb hts hinX9 hown hK hP 0 rfl rfl 8 (by decide) k_2_7 (fun _ h9 => h9) rfl dX9_count_42 ?_
    refine va_get (D := D) (ci := 4) (v := .int v_o_size) (C := RX5) (T := TX5) (N := 3) hx hb hts hinX5 hown hK hP 9 rfl rfl 2 (by decide) k_32_22 (fun _ h9 => h9) rfl dX9_count_45 ?_
    subst hAe
    rw [hQ]
    exact W.iret (v := v_o_size) hx hb hr (fun t ht hW => ⟨⟨v_o_size, _, rfl, ⟨rfl, by exact ⟨by assumption, by assumption, by assumption, by assumption, by assumption, by assumption, ⟨by omega, by omega⟩, ⟨by omega, by omega⟩, by omega, by assumption⟩⟩, by rw [ht]; exact hP, va_K.moved hW.alike hK, hD⟩, hS.F ht⟩) hS.2.2 dX9_count_48

def rmX9_compile : Room := { frames := 220, cells := 306, slots := 2142, locals := 4400 }
set_option maxHeartbeats 4000000 in
set_option maxRecDepth 100000 in
theorem tX9_compile {l : Launch} {D : va_G} {K : Nat → Nat → Nat} {cs : Nat → ClassId} {q : Nat → Nat} {v_t_tapeSize v_t_textSize v_t_faultKind v_g_size v_h_size v_r_takes v_r_negative v_r_namePlace v_r_faultKind v_r_faultPlace v_a_size v_a_limit v_a_digits v_a_kind v_a_from v_a_to v_o_size v_b_size v_b_limit v_b_digits v_b_kind v_b_from v_b_to v_u_marksMade v_u_came v_u_guesses v_u_right v_u_taken v_s_things v_s_looked v_s_lookedTooOften v_s_arraysMade v_s_cellsMade : Int32} {a_t_tape a_t_text a_o_out a_u_outcomes a_u_indexes a_s_classes a_s_starts a_s_lengths a_vc : Nat → Int32} {a_g_beyond a_h_beyond a_r_scratch a_r_now a_u_atom a_u_other a_u_hand : Nat} {a_g_steps a_h_steps a_u_vars a_u_marks : Nat → Option Nat} {a_s_cells a_vd a_sj : Nat → Int64} {a_L : List Nat} {a_K a_iv a_inn : Nat → Nat} {a_si a_ac : Nat → Nat → Int32} (p_0 : TRN a_L a_K a_si a_iv a_inn a_g_beyond a_h_beyond a_r_scratch a_g_steps a_h_steps a_u_atom a_u_other a_u_hand a_u_vars a_u_marks a_r_now v_a_size v_a_limit v_a_digits v_a_kind v_a_from v_a_to v_b_size v_b_limit v_b_digits v_b_kind v_b_from v_b_to v_s_things v_s_cellsMade a_s_starts a_s_lengths v_t_tapeSize v_o_size v_u_marksMade a_t_tape) : CtI l yX9_compile (wG yX9_compile cX9_compile 3 (some .int)) rmX9_compile D (twT cs) K [.ref (q 0)] (tw cs q v_t_tapeSize v_t_textSize v_t_faultKind a_t_tape a_t_text a_g_beyond v_g_size a_g_steps a_h_beyond v_h_size a_h_steps a_r_scratch a_r_now v_r_takes v_r_negative v_r_namePlace v_r_faultKind v_r_faultPlace v_a_size v_a_limit v_a_digits v_a_kind v_a_from v_a_to v_o_size a_o_out v_b_size v_b_limit v_b_digits v_b_kind v_b_from v_b_to a_u_atom a_u_other a_u_hand v_u_marksMade v_u_came v_u_guesses v_u_right v_u_taken a_u_vars a_u_marks a_u_outcomes a_u_indexes v_s_things v_s_looked v_s_lookedTooOften v_s_arraysMade v_s_cellsMade a_s_classes a_s_starts a_s_lengths a_s_cells a_L a_K a_vc a_vd a_si a_sj a_iv a_inn a_ac) (fun r w1 => ∃ (q9 : Nat → Nat) (v_t_tapeSize' : Int32) (v_t_textSize' : Int32) (v_t_faultKind' : Int32) (a_t_text' : Nat → Int32) (a_g_beyond' : Nat) (v_g_size' : Int32) (a_g_steps' : Nat → Option Nat) (a_h_beyond' : Nat) (v_h_size' : Int32) (a_h_steps' : Nat → Option Nat) (a_r_now' : Nat) (v_r_takes' : Int32) (v_r_negative' : Int32) (v_r_namePlace' : Int32) (v_r_faultKind' : Int32) (v_r_faultPlace' : Int32) (v_a_size' : Int32) (v_a_limit' : Int32) (v_a_digits' : Int32) (v_a_kind' : Int32) (v_a_from' : Int32) (v_a_to' : Int32) (v_u_marksMade' : Int32) (v_u_came' : Int32) (v_u_guesses' : Int32) (v_u_right' : Int32) (v_u_taken' : Int32) (a_u_outcomes' : Nat → Int32) (v_s_things' : Int32) (v_s_arraysMade' : Int32) (v_s_cellsMade' : Int32) (a_L' : List Nat) (a_K' : Nat → Nat) (a_vc' : Nat → Int32) (a_vd' : Nat → Int64) (a_si' : Nat → Nat → Int32) (a_sj' : Nat → Int64) (a_iv' : Nat → Nat) (a_inn' : Nat → Nat) (a_ac' : Nat → Nat → Int32), w1 = (tw cs q9 v_t_tapeSize' v_t_textSize' v_t_faultKind' a_t_tape a_t_text' a_g_beyond' v_g_size' a_g_steps' a_h_beyond' v_h_size' a_h_steps' a_r_scratch a_r_now' v_r_takes' v_r_negative' v_r_namePlace' v_r_faultKind' v_r_faultPlace' v_a_size' v_a_limit' v_a_digits' v_a_kind' v_a_from' v_a_to' v_o_size a_o_out v_b_size v_b_limit v_b_digits v_b_kind v_b_from v_b_to a_u_atom a_u_other a_u_hand v_u_marksMade' v_u_came' v_u_guesses' v_u_right' v_u_taken' a_u_vars a_u_marks a_u_outcomes' a_u_indexes v_s_things' v_s_looked v_s_lookedTooOften v_s_arraysMade' v_s_cellsMade' a_s_classes a_s_starts a_s_lengths a_s_cells a_L' a_K' a_vc' a_vd' a_si' a_sj' a_iv' a_inn' a_ac') ∧ (TRN a_L' a_K' a_si' a_iv' a_inn' a_g_beyond' a_h_beyond' a_r_scratch a_g_steps' a_h_steps' a_u_atom a_u_other a_u_hand a_u_vars a_u_marks a_r_now' v_a_size' v_a_limit' v_a_digits' v_a_kind' v_a_from' v_a_to' v_b_size v_b_limit v_b_digits v_b_kind v_b_from v_b_to v_s_things' v_s_cellsMade' a_s_starts a_s_lengths v_t_tapeSize' v_o_size v_u_marksMade' a_t_tape) ∧ (q9 0 = q 0)) 306 2142 := by
  intro sz
  refine Met.ofW (cc := cX9_compile) (maxL := 3) (ret := (some .int)) (by decide) rfl ?_
  intro p e s m args below meth c s₁ B hml hv
  obtain ⟨rfl, hsz, hP, hK, hD0, hE⟩ := hv
  have hx := B.exec
  have hb := B.bytes
  have hr := B.returns
  have hts := atoms_spec (ws := (wG yX9_compile cX9_compile 3 (some .int))) B.pre
  have hown : s.vm.findClass RX9 = some m.cls := findClass_of_methodNamed B.named
  have hlocks := B.notSynchronized
  subst hsz
  have hD := hD0.self (sz := s.heap.size)
  obtain ⟨A, hAe⟩ : ∃ A : Nat → Prop, A = va_A (tw cs q v_t_tapeSize v_t_textSize v_t_faultKind a_t_tape a_t_text a_g_beyond v_g_size a_g_steps a_h_beyond v_h_size a_h_steps a_r_scratch a_r_now v_r_takes v_r_negative v_r_namePlace v_r_faultKind v_r_faultPlace v_a_size v_a_limit v_a_digits v_a_kind v_a_from v_a_to v_o_size a_o_out v_b_size v_b_limit v_b_digits v_b_kind v_b_from v_b_to a_u_atom a_u_other a_u_hand v_u_marksMade v_u_came v_u_guesses v_u_right v_u_taken a_u_vars a_u_marks a_u_outcomes a_u_indexes v_s_things v_s_looked v_s_lookedTooOften v_s_arraysMade v_s_cellsMade a_s_classes a_s_starts a_s_lengths a_s_cells a_L a_K a_vc a_vd a_si a_sj a_iv a_inn a_ac) s.heap.size := ⟨_, rfl⟩
  rw [← hAe] at hD hE
  have hA : ∀ q : Nat, s.heap.size ≤ q → A q := fun q h => by rw [hAe]; exact Or.inr h
  have hS : va_S A s.heap s.heap [] := va_S.rf
  have hl := lv_entry ([.ref (q 0)]) (n := 3) (Nat.le_of_ble_eq_true rfl)
  rw [lg_entry_eq]
  generalize (lg_sl ([.ref (q 0)]) ++ List.replicate (3 - (lg_sl ([.ref (q 0)])).length) Slot.unset).toArray = ls at hl ⊢
  have hl : lv_has ls 3 [(0, .ref (q 0))] := hl
  refine wq (fun Q hQ => ?_)
  have hinX2 : ∀ w ∈ wsX20, w ∈ (wG yX9_compile cX9_compile 3 (some .int)) := fun w h => List.mem_cons_of_mem _ (inlX2 w h)
  have hinX3 : ∀ w ∈ wsX30, w ∈ (wG yX9_compile cX9_compile 3 (some .int)) := fun w h => List.mem_cons_of_mem _ (inlX3 w h)
  have hinX9 : ∀ w ∈ wsX90, w ∈ (wG yX9_compile cX9_compile 3 (some .int)) := fun w h => List.mem_cons_of_mem _ (inlX9 w h)
  have kc0 : (-1 : Int32).toInt = -1 := by decide
  have kc1 : (0 : Int32).toInt = 0 := by decide
  have kc2 : (3000 : Int32).toInt = 3000 := by decide
  have k_2_3 := hts (.fieldLink RX9 36 "ArrayTrainer" "parser" "LArrayTrainer$Parser;") (List.mem_cons_of_mem _ (wr2 _ (List.mem_of_getElem? (i := 3) rfl)))
  have k_7_0 := hts (.fieldLink RX9 54 "ArrayTrainer" "tapeSize" "I") (List.mem_cons_of_mem _ (wr7 _ (List.mem_of_getElem? (i := 0) rfl)))
  have k_1_20 := hts (.fieldLink RX9 23 "ArrayTrainer" "spare" "LArrayTrainer$Program;") (List.mem_cons_of_mem _ (wr1 _ (List.mem_of_getElem? (i := 20) rfl)))
  have k_8_3 := hts (.fieldLink RX9 66 "ArrayTrainer$Parser" "faultKind" "I") (List.mem_cons_of_mem _ (wr8 _ (List.mem_of_getElem? (i := 3) rfl)))
  have k_8_4 := hts (.fieldLink RX9 69 "ArrayTrainer" "faultKind" "I") (List.mem_cons_of_mem _ (wr8 _ (List.mem_of_getElem? (i := 4) rfl)))
  have k_8_5 := hts (.fieldLink RX9 70 "ArrayTrainer$Parser" "faultPlace" "I") (List.mem_cons_of_mem _ (wr8 _ (List.mem_of_getElem? (i := 5) rfl)))
  have k_1_19 := hts (.fieldLink RX9 19 "ArrayTrainer" "program" "LArrayTrainer$Program;") (List.mem_cons_of_mem _ (wr1 _ (List.mem_of_getElem? (i := 19) rfl)))
  have k_1_14 := hts (.fieldLink RX9 9 "ArrayTrainer" "tape" "[B") (List.mem_cons_of_mem _ (wr1 _ (List.mem_of_getElem? (i := 14) rfl)))
  have k_1_15 := hts (.fieldLink RX9 13 "ArrayTrainer" "text" "[B") (List.mem_cons_of_mem _ (wr1 _ (List.mem_of_getElem? (i := 15) rfl)))
  have k_8_6 := hts (.methodLink RX9 73 arraycopyName) (List.mem_cons_of_mem _ (wr8 _ (List.mem_of_getElem? (i := 6) rfl)))
  have k_8_7 := hts (.native arraycopyName) (List.mem_cons_of_mem _ (wr8 _ (List.mem_of_getElem? (i := 7) rfl)))
  have k_8_8 := hts (.static arraycopyName) (List.mem_cons_of_mem _ (wr8 _ (List.mem_of_getElem? (i := 8) rfl)))
  have k_8_9 := hts (.initialized "java/lang/System") (List.mem_cons_of_mem _ (wr8 _ (List.mem_of_getElem? (i := 9) rfl)))
  have k_8_10 := hts (.fieldLink RX9 79 "ArrayTrainer" "textSize" "I") (List.mem_cons_of_mem _ (wr8 _ (List.mem_of_getElem? (i := 10) rfl)))
  have k_2_11 := hts (.fieldLink RX9 50 "ArrayTrainer" "runner" "LArrayTrainer$Runner;") (List.mem_cons_of_mem _ (wr2 _ (List.mem_of_getElem? (i := 11) rfl)))
  have k_8_11 := hts (.fieldLink RX9 85 "ArrayTrainer$Program" "size" "I") (List.mem_cons_of_mem _ (wr8 _ (List.mem_of_getElem? (i := 11) rfl)))
  obtain ⟨H, hH⟩ : ∃ H : Heap, H = s.heap := ⟨_, rfl⟩
  obtain ⟨locs, hlc⟩ : ∃ L : List Loc, L = [] := ⟨_, rfl⟩
  have hP : va_P D vwCl (tw cs q v_t_tapeSize v_t_textSize v_t_faultKind a_t_tape a_t_text a_g_beyond v_g_size a_g_steps a_h_beyond v_h_size a_h_steps a_r_scratch a_r_now v_r_takes v_r_negative v_r_namePlace v_r_faultKind v_r_faultPlace v_a_size v_a_limit v_a_digits v_a_kind v_a_from v_a_to v_o_size a_o_out v_b_size v_b_limit v_b_digits v_b_kind v_b_from v_b_to a_u_atom a_u_other a_u_hand v_u_marksMade v_u_came v_u_guesses v_u_right v_u_taken a_u_vars a_u_marks a_u_outcomes a_u_indexes v_s_things v_s_looked v_s_lookedTooOften v_s_arraysMade v_s_cellsMade a_s_classes a_s_starts a_s_lengths a_s_cells a_L a_K a_vc a_vd a_si a_sj a_iv a_inn a_ac) H := by rw [hH]; exact hP
  have hS : va_S A s.heap H locs := by rw [hH, hlc]; exact hS
  refine wHL hH hlc ?_
  obtain ⟨hRF, hPI, hNow, hLA, hLB, hSTO, ⟨ht0, ht1⟩, ⟨ho0, ho1⟩, hm0, hFB⟩ := id p_0
  refine lv_aload_n hx hb dX9_compile_0 rfl (lv_at hl 0 rfl) ?_
  refine va_get (D := D) (ci := 8) (v := .ref (q 7)) (C := RX9) (T := TX9) (N := 10) hx hb hts hinX9 hown hK hP 0 rfl rfl 7 (by decide) k_2_3 (fun _ h9 => h9) rfl dX9_compile_1 ?_
  refine lv_aload_n hx hb dX9_compile_4 rfl (lv_at hl 0 rfl) ?_
  refine va_get (D := D) (ci := 8) (v := .int v_t_tapeSize) (C := RX9) (T := TX9) (N := 10) hx hb hts hinX9 hown hK hP 0 rfl rfl 1 (by decide) k_7_0 (fun _ h9 => h9) rfl dX9_compile_5 ?_
  refine lv_aload_n hx hb dX9_compile_8 rfl (lv_at hl 0 rfl) ?_
  refine va_get (D := D) (ci := 8) (v := .ref (q 5)) (C := RX9) (T := TX9) (N := 10) hx hb hts hinX9 hown hK hP 0 rfl rfl 5 (by decide) k_1_20 (fun _ h9 => h9) rfl dX9_compile_9 ?_
  refine call_i (As := [.int v_t_tapeSize, .ref (q 5)]) (rest := []) ⟨hx, hb, hml, hown, hts⟩ (tX2_readProgram (l := l) v_t_tapeSize  (by first | assumption | omega | (intros; omega) | decide) (by first | assumption | omega | (intros; omega) | decide) (by first | assumption | omega | (intros; omega) | decide) (by first | assumption | omega | (intros; omega) | decide)) (cwV 2 hts (gV (wr8 _ (List.mem_of_getElem? (i := 12) rfl)) (wr8 _ (List.mem_of_getElem? (i := 13) rfl)) (wr8 _ (List.mem_of_getElem? (i := 14) rfl)) (wr1 _ (List.mem_of_getElem? (i := 23) rfl)) (wr8 _ (List.mem_of_getElem? (i := 15) rfl))) rfl rfl rfl (by decide +kernel) ⟨Nat.le_of_ble_eq_true rfl, Nat.le_of_ble_eq_true rfl⟩) (va_recv hK hP (ci := 1) (q0 := 7) rfl rfl) hK hP hD hE hS hA rfl hl.1 rfl (Nat.le_of_ble_eq_true rfl) dX9_compile_12 ⟨by show _ ≤ 306; omega, by show _ ≤ 2142; omega⟩ (fun r12 w9 H locs hw12 hP hD hS => ?_)
  obtain ⟨v_h_size_12, a_h_steps_12, a_r_now_12, v_r_takes_12, v_r_negative_12, v_r_namePlace_12, v_r_faultKind_12, v_r_faultPlace_12, v_a_size_12, v_a_limit_12, v_a_digits_12, v_a_kind_12, v_a_from_12, v_a_to_12, a_L_12, a_K_12, a_si_12, a_sj_12, a_iv_12, a_inn_12, a_ac_12, rfl, hw12_0, hw12_1, hw12_2, hw12_3, hw12_4⟩ := hw12
  have b_v_h_size_12 := iB v_h_size_12
  have b_v_r_takes_12 := iB v_r_takes_12
  have b_v_r_negative_12 := iB v_r_negative_12
  have b_v_r_namePlace_12 := iB v_r_namePlace_12
  have b_v_r_faultKind_12 := iB v_r_faultKind_12
  have b_v_r_faultPlace_12 := iB v_r_faultPlace_12
  have b_v_a_size_12 := iB v_a_size_12
  have b_v_a_limit_12 := iB v_a_limit_12
  have b_v_a_digits_12 := iB v_a_digits_12
  have b_v_a_kind_12 := iB v_a_kind_12
  have b_v_a_from_12 := iB v_a_from_12
  have b_v_a_to_12 := iB v_a_to_12
  have b_r12 := iB r12
  refine lv_istore_n (lv' := [(1, .int r12), (0, .ref (q 0))]) hx hb dX9_compile_15 rfl hl (by decide) rfl (fun ls hl => ?_)
  refine lv_aload_n hx hb dX9_compile_16 rfl (lv_at hl 1 rfl) ?_
  refine lv_aload_n hx hb dX9_compile_17 rfl (lv_at hl 1 rfl) ?_
  refine va_get (D := D) (ci := 8) (v := .ref (q 7)) (C := RX9) (T := TX9) (N := 10) hx hb hts hinX9 hown hK hP 0 rfl rfl 7 (by decide) k_2_3 (fun _ h9 => h9) rfl dX9_compile_18 ?_
  refine va_get (D := D) (ci := 1) (v := .int v_r_faultKind_12) (C := RX2) (T := TX2) (N := 8) hx hb hts hinX2 hown hK hP 7 rfl rfl 6 (by decide) k_8_3 (fun _ h9 => h9) rfl dX9_compile_21 ?_
  refine va_put (D := D) (ci := 8) (v := .int v_r_faultKind_12) (ty := .int) (C := RX9) (T := TX9) (N := 10) hx hb hts hinX9 tyX9 tyX9_ok nmX9 hown hK hP hD hS 0 rfl rfl 6 (by decide) k_8_4 (fun _ h9 => h9) rfl (by decide +kernel) rfl rfl (Nat.le_of_ble_eq_true rfl) dX9_compile_24 (fun H locs hP hD hS => ?_)
  have hP : va_P D vwCl (tw cs q v_t_tapeSize v_t_textSize v_r_faultKind_12 a_t_tape a_t_text a_g_beyond v_g_size a_g_steps a_h_beyond v_h_size_12 a_h_steps_12 a_r_scratch a_r_now_12 v_r_takes_12 v_r_negative_12 v_r_namePlace_12 v_r_faultKind_12 v_r_faultPlace_12 v_a_size_12 v_a_limit_12 v_a_digits_12 v_a_kind_12 v_a_from_12 v_a_to_12 v_o_size a_o_out v_b_size v_b_limit v_b_digits v_b_kind v_b_from v_b_to a_u_atom a_u_other a_u_hand v_u_marksMade v_u_came v_u_guesses v_u_right v_u_taken a_u_vars a_u_marks a_u_outcomes a_u_indexes v_s_things v_s_looked v_s_lookedTooOften v_s_arraysMade v_s_cellsMade a_s_classes a_s_starts a_s_lengths a_s_cells a_L_12 a_K_12 a_vc a_vd a_si_12 a_sj_12 a_iv_12 a_inn_12 a_ac_12) H := hP
  have hD : va_D A (tw cs q v_t_tapeSize v_t_textSize v_r_faultKind_12 a_t_tape a_t_text a_g_beyond v_g_size a_g_steps a_h_beyond v_h_size_12 a_h_steps_12 a_r_scratch a_r_now_12 v_r_takes_12 v_r_negative_12 v_r_namePlace_12 v_r_faultKind_12 v_r_faultPlace_12 v_a_size_12 v_a_limit_12 v_a_digits_12 v_a_kind_12 v_a_from_12 v_a_to_12 v_o_size a_o_out v_b_size v_b_limit v_b_digits v_b_kind v_b_from v_b_to a_u_atom a_u_other a_u_hand v_u_marksMade v_u_came v_u_guesses v_u_right v_u_taken a_u_vars a_u_marks a_u_outcomes a_u_indexes v_s_things v_s_looked v_s_lookedTooOften v_s_arraysMade v_s_cellsMade a_s_classes a_s_starts a_s_lengths a_s_cells a_L_12 a_K_12 a_vc a_vd a_si_12 a_sj_12 a_iv_12 a_inn_12 a_ac_12) := hD
  refine lv_iload_n hx hb dX9_compile_27 rfl (lv_at hl 0 rfl) ?_
  refine m_if_eq (X := r12.toInt) (tgt := 41) hx hb dX9_compile_28 (by decide) rfl (fun c28 => ?_) (fun c28 => ?_)
  · skip
    refine lv_iconst (v := (-1)) hx hb dX9_compile_41 (by decide) ?_
    refine lv_aload_n hx hb dX9_compile_42 rfl (lv_at hl 1 rfl) ?_
    refine va_get (D := D) (ci := 8) (v := .ref (q 7)) (C := RX9) (T := TX9) (N := 10) hx hb hts hinX9 hown hK hP 0 rfl rfl 7 (by decide) k_2_3 (fun _ h9 => h9) rfl dX9_compile_43 ?_
    refine va_get (D := D) (ci := 1) (v := .int v_r_faultPlace_12) (C := RX2) (T := TX2) (N := 8) hx hb hts hinX2 hown hK hP 7 rfl rfl 7 (by decide) k_8_5 (fun _ h9 => h9) rfl dX9_compile_46 ?_
    refine m_isub (X := (-1)) (Y := v_r_faultPlace_12.toInt) hx hb dX9_compile_49 (by decide) rfl (fun x49 e_x49 g9 => ?_)
    obtain ⟨k_x49, g_x49⟩ := g9
    have b_x49 := iB x49
    try (have q_x49 : x49.toInt = (-1) - v_r_faultPlace_12.toInt := (by omega); clear g_x49 k_x49)
    refine W.widen (k := 306) (n := 2142) (by omega) (by omega) ?_
    subst hAe
    rw [hQ]
    exact W.iret (v := x49) hx hb hr (fun t ht hW => ⟨⟨x49, _, rfl, ⟨q, v_t_tapeSize, v_t_textSize, v_r_faultKind_12, a_t_text, a_g_beyond, v_g_size, a_g_steps, a_h_beyond, v_h_size_12, a_h_steps_12, a_r_now_12, v_r_takes_12, v_r_negative_12, v_r_namePlace_12, v_r_faultKind_12, v_r_faultPlace_12, v_a_size_12, v_a_limit_12, v_a_digits_12, v_a_kind_12, v_a_from_12, v_a_to_12, v_u_marksMade, v_u_came, v_u_guesses, v_u_right, v_u_taken, a_u_outcomes, v_s_things, v_s_arraysMade, v_s_cellsMade, a_L_12, a_K_12, a_vc, a_vd, a_si_12, a_sj_12, a_iv_12, a_inn_12, a_ac_12, rfl, by exact ⟨by assumption, by assumption, by assumption, by assumption, by assumption, by assumption, ⟨by omega, by omega⟩, ⟨by omega, by omega⟩, by omega, by assumption⟩, rfl⟩, by rw [ht]; exact hP, va_K.moved hW.alike hK, hD⟩, hS.F ht⟩) hS.2.2 dX9_compile_50
  · skip
    refine lv_aload_n hx hb dX9_compile_31 rfl (lv_at hl 1 rfl) ?_
    refine va_get (D := D) (ci := 8) (v := .int v_t_tapeSize) (C := RX9) (T := TX9) (N := 10) hx hb hts hinX9 hown hK hP 0 rfl rfl 1 (by decide) k_7_0 (fun _ h9 => h9) rfl dX9_compile_32 ?_
    refine lv_sipush (v := 3000) hx hb dX9_compile_35 (by decide) ?_
    refine m_icmp_le (X := v_t_tapeSize.toInt) (Y := 3000) (tgt := 51) hx hb dX9_compile_38 (by decide) rfl (by decide) (fun c38 => ?_) (fun c38 => ?_)
    · skip
      refine lv_aload_n hx hb dX9_compile_51 rfl (lv_at hl 1 rfl) ?_
      refine va_get (D := D) (ci := 8) (v := .ref (q 3)) (C := RX9) (T := TX9) (N := 10) hx hb hts hinX9 hown hK hP 0 rfl rfl 4 (by decide) k_1_19 (fun _ h9 => h9) rfl dX9_compile_52 ?_
      refine lv_astore_n (lv' := [(2, .ref (q 3)), (1, .int r12), (0, .ref (q 0))]) hx hb dX9_compile_55 rfl hl (by decide) rfl (fun ls hl => ?_)
      refine lv_aload_n hx hb dX9_compile_56 rfl (lv_at hl 2 rfl) ?_
      refine lv_aload_n hx hb dX9_compile_57 rfl (lv_at hl 2 rfl) ?_
      refine va_get (D := D) (ci := 8) (v := .ref (q 5)) (C := RX9) (T := TX9) (N := 10) hx hb hts hinX9 hown hK hP 0 rfl rfl 5 (by decide) k_1_20 (fun _ h9 => h9) rfl dX9_compile_58 ?_
      refine va_put (D := D) (ci := 8) (v := .ref (q 5)) (ty := (.object "ArrayTrainer$Program")) (C := RX9) (T := TX9) (N := 10) hx hb hts hinX9 tyX9 tyX9_ok nmX9 hown hK hP hD hS 0 rfl rfl 4 (by decide) k_1_19 (fun _ h9 => h9) rfl (by decide +kernel) rfl rfl (Nat.le_of_ble_eq_true rfl) dX9_compile_61 (fun H locs hP hD hS => ?_)
      refine lv_aload_n hx hb dX9_compile_64 rfl (lv_at hl 2 rfl) ?_
      refine lv_aload_n hx hb dX9_compile_65 rfl (lv_at hl 0 rfl) ?_
      refine va_put (D := D) (ci := 8) (v := .ref (q 3)) (ty := (.object "ArrayTrainer$Program")) (C := RX9) (T := TX9) (N := 10) hx hb hts hinX9 tyX9 tyX9_ok nmX9 hown hK hP hD hS 0 rfl rfl 5 (by decide) k_1_20 (fun _ h9 => h9) rfl (by decide +kernel) rfl rfl (Nat.le_of_ble_eq_true rfl) dX9_compile_66 (fun H locs hP hD hS => ?_)
      have hP : va_P D vwCl ([(q 0, .inr (8, [.ref (q 1), .int v_t_tapeSize, .ref (q 2), .int v_t_textSize, .ref (q 5), .ref (q 3), .int v_r_faultKind_12, .ref (q 7), .ref (q 9), .ref (q 12)])), (q 1, .inl (cs 2, (3100, .inl a_t_tape))), (q 2, .inl (cs 2, (3000, .inl a_t_text))), (q 3, .inr (2, [.ref (q 4), .ref a_g_beyond, .int v_g_size])), (q 4, .inl (cs 4, (100, .inr (.inr (.inr (.inr a_g_steps)))))), (q 5, .inr (2, [.ref (q 6), .ref a_h_beyond, .int v_h_size_12])), (q 6, .inl (cs 4, (100, .inr (.inr (.inr (.inr a_h_steps_12)))))), (q 7, .inr (1, [.ref (q 8), .ref a_r_scratch, .ref a_r_now_12, .int v_r_takes_12, .int v_r_negative_12, .int v_r_namePlace_12, .int v_r_faultKind_12, .int v_r_faultPlace_12])), (q 8, .inr (0, [.ref (q 1), .int v_a_size_12, .int v_a_limit_12, .int v_a_digits_12, .int v_a_kind_12, .int v_a_from_12, .int v_a_to_12])), (q 9, .inr (4, [.ref (q 11), .ref (q 10), .int v_o_size])), (q 10, .inl (cs 2, (256, .inl a_o_out))), (q 11, .inr (0, [.ref (q 2), .int v_b_size, .int v_b_limit, .int v_b_digits, .int v_b_kind, .int v_b_from, .int v_b_to])), (q 12, .inr (3, [.ref (q 17), .ref (q 13), .ref (q 14), .ref (q 15), .ref (q 16), .ref a_u_atom, .ref a_u_other, .ref a_u_hand, .int v_u_marksMade, .int v_u_came, .int v_u_guesses, .int v_u_right, .int v_u_taken])), (q 13, .inl (cs 3, (26, .inr (.inr (.inr (.inr a_u_vars)))))), (q 14, .inl (cs 3, (50, .inr (.inr (.inr (.inr a_u_marks)))))), (q 15, .inl (cs 0, (100, .inl a_u_outcomes))), (q 16, .inl (cs 0, (3, .inl a_u_indexes))), (q 17, .inr (6, [.ref (q 18), .ref (q 19), .ref (q 20), .ref (q 21), .int v_s_things, .int v_s_looked, .int v_s_lookedTooOften, .int v_s_arraysMade, .int v_s_cellsMade])), (q 18, .inl (cs 0, (301, .inl a_s_classes))), (q 19, .inl (cs 0, (301, .inl a_s_starts))), (q 20, .inl (cs 0, (301, .inl a_s_lengths))), (q 21, .inl (cs 1, (4000, .inr (.inl a_s_cells))))] ++ (twP cs a_L_12 a_K_12 a_vc a_vd a_si_12 a_sj_12 a_iv_12 a_inn_12 a_ac_12)) H := hP
      have hD : va_D A ([(q 0, .inr (8, [.ref (q 1), .int v_t_tapeSize, .ref (q 2), .int v_t_textSize, .ref (q 5), .ref (q 3), .int v_r_faultKind_12, .ref (q 7), .ref (q 9), .ref (q 12)])), (q 1, .inl (cs 2, (3100, .inl a_t_tape))), (q 2, .inl (cs 2, (3000, .inl a_t_text))), (q 3, .inr (2, [.ref (q 4), .ref a_g_beyond, .int v_g_size])), (q 4, .inl (cs 4, (100, .inr (.inr (.inr (.inr a_g_steps)))))), (q 5, .inr (2, [.ref (q 6), .ref a_h_beyond, .int v_h_size_12])), (q 6, .inl (cs 4, (100, .inr (.inr (.inr (.inr a_h_steps_12)))))), (q 7, .inr (1, [.ref (q 8), .ref a_r_scratch, .ref a_r_now_12, .int v_r_takes_12, .int v_r_negative_12, .int v_r_namePlace_12, .int v_r_faultKind_12, .int v_r_faultPlace_12])), (q 8, .inr (0, [.ref (q 1), .int v_a_size_12, .int v_a_limit_12, .int v_a_digits_12, .int v_a_kind_12, .int v_a_from_12, .int v_a_to_12])), (q 9, .inr (4, [.ref (q 11), .ref (q 10), .int v_o_size])), (q 10, .inl (cs 2, (256, .inl a_o_out))), (q 11, .inr (0, [.ref (q 2), .int v_b_size, .int v_b_limit, .int v_b_digits, .int v_b_kind, .int v_b_from, .int v_b_to])), (q 12, .inr (3, [.ref (q 17), .ref (q 13), .ref (q 14), .ref (q 15), .ref (q 16), .ref a_u_atom, .ref a_u_other, .ref a_u_hand, .int v_u_marksMade, .int v_u_came, .int v_u_guesses, .int v_u_right, .int v_u_taken])), (q 13, .inl (cs 3, (26, .inr (.inr (.inr (.inr a_u_vars)))))), (q 14, .inl (cs 3, (50, .inr (.inr (.inr (.inr a_u_marks)))))), (q 15, .inl (cs 0, (100, .inl a_u_outcomes))), (q 16, .inl (cs 0, (3, .inl a_u_indexes))), (q 17, .inr (6, [.ref (q 18), .ref (q 19), .ref (q 20), .ref (q 21), .int v_s_things, .int v_s_looked, .int v_s_lookedTooOften, .int v_s_arraysMade, .int v_s_cellsMade])), (q 18, .inl (cs 0, (301, .inl a_s_classes))), (q 19, .inl (cs 0, (301, .inl a_s_starts))), (q 20, .inl (cs 0, (301, .inl a_s_lengths))), (q 21, .inl (cs 1, (4000, .inr (.inl a_s_cells))))] ++ (twP cs a_L_12 a_K_12 a_vc a_vd a_si_12 a_sj_12 a_iv_12 a_inn_12 a_ac_12)) := hD
      have hP : va_P D vwCl (tw cs (swq q) v_t_tapeSize v_t_textSize v_r_faultKind_12 a_t_tape a_t_text a_h_beyond v_h_size_12 a_h_steps_12 a_g_beyond v_g_size a_g_steps a_r_scratch a_r_now_12 v_r_takes_12 v_r_negative_12 v_r_namePlace_12 v_r_faultKind_12 v_r_faultPlace_12 v_a_size_12 v_a_limit_12 v_a_digits_12 v_a_kind_12 v_a_from_12 v_a_to_12 v_o_size a_o_out v_b_size v_b_limit v_b_digits v_b_kind v_b_from v_b_to a_u_atom a_u_other a_u_hand v_u_marksMade v_u_came v_u_guesses v_u_right v_u_taken a_u_vars a_u_marks a_u_outcomes a_u_indexes v_s_things v_s_looked v_s_lookedTooOften v_s_arraysMade v_s_cellsMade a_s_classes a_s_starts a_s_lengths a_s_cells a_L_12 a_K_12 a_vc a_vd a_si_12 a_sj_12 a_iv_12 a_inn_12 a_ac_12) H := hP.part [0, 1, 2, 5, 6, 3, 4, 7, 8, 9, 10, 11, 12, 13, 14, 15, 16, 17, 18, 19, 20, 21] rfl
      have hD : va_D A (tw cs (swq q) v_t_tapeSize v_t_textSize v_r_faultKind_12 a_t_tape a_t_text a_h_beyond v_h_size_12 a_h_steps_12 a_g_beyond v_g_size a_g_steps a_r_scratch a_r_now_12 v_r_takes_12 v_r_negative_12 v_r_namePlace_12 v_r_faultKind_12 v_r_faultPlace_12 v_a_size_12 v_a_limit_12 v_a_digits_12 v_a_kind_12 v_a_from_12 v_a_to_12 v_o_size a_o_out v_b_size v_b_limit v_b_digits v_b_kind v_b_from v_b_to a_u_atom a_u_other a_u_hand v_u_marksMade v_u_came v_u_guesses v_u_right v_u_taken a_u_vars a_u_marks a_u_outcomes a_u_indexes v_s_things v_s_looked v_s_lookedTooOften v_s_arraysMade v_s_cellsMade a_s_classes a_s_starts a_s_lengths a_s_cells a_L_12 a_K_12 a_vc a_vd a_si_12 a_sj_12 a_iv_12 a_inn_12 a_ac_12) := hD.part [0, 1, 2, 5, 6, 3, 4, 7, 8, 9, 10, 11, 12, 13, 14, 15, 16, 17, 18, 19, 20, 21] rfl rfl
      have hRF : RF a_L_12 a_K_12 a_h_beyond a_g_beyond a_r_scratch a_h_steps_12 a_g_steps a_u_atom a_u_other a_u_hand a_u_vars a_u_marks := RF.swap (by assumption)
      refine lv_aload_n hx hb dX9_compile_69 rfl (lv_at hl 2 rfl) ?_
      refine va_get (D := D) (ci := 8) (v := .ref ((swq q) 1)) (C := RX9) (T := TX9) (N := 10) hx hb hts hinX9 hown hK hP 0 rfl rfl 0 (by decide) k_1_14 (fun _ h9 => h9) rfl dX9_compile_70 ?_
      refine lv_iconst (v := 0) hx hb dX9_compile_73 (by decide) ?_
      refine lv_aload_n hx hb dX9_compile_74 rfl (lv_at hl 2 rfl) ?_
      refine va_get (D := D) (ci := 8) (v := .ref ((swq q) 2)) (C := RX9) (T := TX9) (N := 10) hx hb hts hinX9 hown hK hP 0 rfl rfl 2 (by decide) k_1_15 (fun _ h9 => h9) rfl dX9_compile_75 ?_
      refine lv_iconst (v := 0) hx hb dX9_compile_78 (by decide) ?_
      refine lv_aload_n hx hb dX9_compile_79 rfl (lv_at hl 2 rfl) ?_
      refine va_get (D := D) (ci := 8) (v := .int v_t_tapeSize) (C := RX9) (T := TX9) (N := 10) hx hb hts hinX9 hown hK hP 0 rfl rfl 1 (by decide) k_7_0 (fun _ h9 => h9) rfl dX9_compile_80 ?_
      refine va_copyi (ty := .byte) hx hb (by rw [hml]; exact hl.1.symm) hown k_8_6 k_8_7 k_8_8 k_8_9 hK hP hD hS 1 2 2 2 rfl rfl rfl rfl rfl (by decide) (by decide) (nneg (by omega)) (cpB (by decide) (by omega) (by omega)) (cpB (by decide) (by omega) (by omega)) (by intro i _; exact hFB _) (Nat.le_of_ble_eq_true rfl) (Nat.le_of_ble_eq_true rfl) dX9_compile_83 (fun H locs hP hD hS => ?_)
      obtain ⟨a_t_text_83, e_a_t_text_83⟩ : ∃ g, g = va_cpy a_t_tape a_t_text (0 : Int32).toNatClampNeg (0 : Int32).toNatClampNeg v_t_tapeSize.toNatClampNeg := ⟨_, rfl⟩
      have hP : va_P D vwCl (tw cs (swq q) v_t_tapeSize v_t_textSize v_r_faultKind_12 a_t_tape a_t_text_83 a_h_beyond v_h_size_12 a_h_steps_12 a_g_beyond v_g_size a_g_steps a_r_scratch a_r_now_12 v_r_takes_12 v_r_negative_12 v_r_namePlace_12 v_r_faultKind_12 v_r_faultPlace_12 v_a_size_12 v_a_limit_12 v_a_digits_12 v_a_kind_12 v_a_from_12 v_a_to_12 v_o_size a_o_out v_b_size v_b_limit v_b_digits v_b_kind v_b_from v_b_to a_u_atom a_u_other a_u_hand v_u_marksMade v_u_came v_u_guesses v_u_right v_u_taken a_u_vars a_u_marks a_u_outcomes a_u_indexes v_s_things v_s_looked v_s_lookedTooOften v_s_arraysMade v_s_cellsMade a_s_classes a_s_starts a_s_lengths a_s_cells a_L_12 a_K_12 a_vc a_vd a_si_12 a_sj_12 a_iv_12 a_inn_12 a_ac_12) H := by rw [e_a_t_text_83]; exact hP
      have hD : va_D A (tw cs (swq q) v_t_tapeSize v_t_textSize v_r_faultKind_12 a_t_tape a_t_text_83 a_h_beyond v_h_size_12 a_h_steps_12 a_g_beyond v_g_size a_g_steps a_r_scratch a_r_now_12 v_r_takes_12 v_r_negative_12 v_r_namePlace_12 v_r_faultKind_12 v_r_faultPlace_12 v_a_size_12 v_a_limit_12 v_a_digits_12 v_a_kind_12 v_a_from_12 v_a_to_12 v_o_size a_o_out v_b_size v_b_limit v_b_digits v_b_kind v_b_from v_b_to a_u_atom a_u_other a_u_hand v_u_marksMade v_u_came v_u_guesses v_u_right v_u_taken a_u_vars a_u_marks a_u_outcomes a_u_indexes v_s_things v_s_looked v_s_lookedTooOften v_s_arraysMade v_s_cellsMade a_s_classes a_s_starts a_s_lengths a_s_cells a_L_12 a_K_12 a_vc a_vd a_si_12 a_sj_12 a_iv_12 a_inn_12 a_ac_12) := by rw [e_a_t_text_83]; exact hD
      refine lv_aload_n hx hb dX9_compile_86 rfl (lv_at hl 2 rfl) ?_
      refine lv_aload_n hx hb dX9_compile_87 rfl (lv_at hl 2 rfl) ?_
      refine va_get (D := D) (ci := 8) (v := .int v_t_tapeSize) (C := RX9) (T := TX9) (N := 10) hx hb hts hinX9 hown hK hP 0 rfl rfl 1 (by decide) k_7_0 (fun _ h9 => h9) rfl dX9_compile_88 ?_
      refine va_put (D := D) (ci := 8) (v := .int v_t_tapeSize) (ty := .int) (C := RX9) (T := TX9) (N := 10) hx hb hts hinX9 tyX9 tyX9_ok nmX9 hown hK hP hD hS 0 rfl rfl 3 (by decide) k_8_10 (fun _ h9 => h9) rfl (by decide +kernel) rfl rfl (Nat.le_of_ble_eq_true rfl) dX9_compile_91 (fun H locs hP hD hS => ?_)
      have hP : va_P D vwCl (tw cs (swq q) v_t_tapeSize v_t_tapeSize v_r_faultKind_12 a_t_tape a_t_text_83 a_h_beyond v_h_size_12 a_h_steps_12 a_g_beyond v_g_size a_g_steps a_r_scratch a_r_now_12 v_r_takes_12 v_r_negative_12 v_r_namePlace_12 v_r_faultKind_12 v_r_faultPlace_12 v_a_size_12 v_a_limit_12 v_a_digits_12 v_a_kind_12 v_a_from_12 v_a_to_12 v_o_size a_o_out v_b_size v_b_limit v_b_digits v_b_kind v_b_from v_b_to a_u_atom a_u_other a_u_hand v_u_marksMade v_u_came v_u_guesses v_u_right v_u_taken a_u_vars a_u_marks a_u_outcomes a_u_indexes v_s_things v_s_looked v_s_lookedTooOften v_s_arraysMade v_s_cellsMade a_s_classes a_s_starts a_s_lengths a_s_cells a_L_12 a_K_12 a_vc a_vd a_si_12 a_sj_12 a_iv_12 a_inn_12 a_ac_12) H := hP
      have hD : va_D A (tw cs (swq q) v_t_tapeSize v_t_tapeSize v_r_faultKind_12 a_t_tape a_t_text_83 a_h_beyond v_h_size_12 a_h_steps_12 a_g_beyond v_g_size a_g_steps a_r_scratch a_r_now_12 v_r_takes_12 v_r_negative_12 v_r_namePlace_12 v_r_faultKind_12 v_r_faultPlace_12 v_a_size_12 v_a_limit_12 v_a_digits_12 v_a_kind_12 v_a_from_12 v_a_to_12 v_o_size a_o_out v_b_size v_b_limit v_b_digits v_b_kind v_b_from v_b_to a_u_atom a_u_other a_u_hand v_u_marksMade v_u_came v_u_guesses v_u_right v_u_taken a_u_vars a_u_marks a_u_outcomes a_u_indexes v_s_things v_s_looked v_s_lookedTooOften v_s_arraysMade v_s_cellsMade a_s_classes a_s_starts a_s_lengths a_s_cells a_L_12 a_K_12 a_vc a_vd a_si_12 a_sj_12 a_iv_12 a_inn_12 a_ac_12) := hD
      refine lv_aload_n hx hb dX9_compile_94 rfl (lv_at hl 2 rfl) ?_
      refine lv_iconst (v := 0) hx hb dX9_compile_95 (by decide) ?_
      refine va_put (D := D) (ci := 8) (v := .int 0) (ty := .int) (C := RX9) (T := TX9) (N := 10) hx hb hts hinX9 tyX9 tyX9_ok nmX9 hown hK hP hD hS 0 rfl rfl 1 (by decide) k_7_0 (fun _ h9 => h9) rfl (by decide +kernel) rfl rfl (Nat.le_of_ble_eq_true rfl) dX9_compile_96 (fun H locs hP hD hS => ?_)
      have hP : va_P D vwCl (tw cs (swq q) (0 : Int32) v_t_tapeSize v_r_faultKind_12 a_t_tape a_t_text_83 a_h_beyond v_h_size_12 a_h_steps_12 a_g_beyond v_g_size a_g_steps a_r_scratch a_r_now_12 v_r_takes_12 v_r_negative_12 v_r_namePlace_12 v_r_faultKind_12 v_r_faultPlace_12 v_a_size_12 v_a_limit_12 v_a_digits_12 v_a_kind_12 v_a_from_12 v_a_to_12 v_o_size a_o_out v_b_size v_b_limit v_b_digits v_b_kind v_b_from v_b_to a_u_atom a_u_other a_u_hand v_u_marksMade v_u_came v_u_guesses v_u_right v_u_taken a_u_vars a_u_marks a_u_outcomes a_u_indexes v_s_things v_s_looked v_s_lookedTooOften v_s_arraysMade v_s_cellsMade a_s_classes a_s_starts a_s_lengths a_s_cells a_L_12 a_K_12 a_vc a_vd a_si_12 a_sj_12 a_iv_12 a_inn_12 a_ac_12) H := hP
      have hD : va_D A (tw cs (swq q) (0 : Int32) v_t_tapeSize v_r_faultKind_12 a_t_tape a_t_text_83 a_h_beyond v_h_size_12 a_h_steps_12 a_g_beyond v_g_size a_g_steps a_r_scratch a_r_now_12 v_r_takes_12 v_r_negative_12 v_r_namePlace_12 v_r_faultKind_12 v_r_faultPlace_12 v_a_size_12 v_a_limit_12 v_a_digits_12 v_a_kind_12 v_a_from_12 v_a_to_12 v_o_size a_o_out v_b_size v_b_limit v_b_digits v_b_kind v_b_from v_b_to a_u_atom a_u_other a_u_hand v_u_marksMade v_u_came v_u_guesses v_u_right v_u_taken a_u_vars a_u_marks a_u_outcomes a_u_indexes v_s_things v_s_looked v_s_lookedTooOften v_s_arraysMade v_s_cellsMade a_s_classes a_s_starts a_s_lengths a_s_cells a_L_12 a_K_12 a_vc a_vd a_si_12 a_sj_12 a_iv_12 a_inn_12 a_ac_12) := hD
      refine lv_aload_n hx hb dX9_compile_99 rfl (lv_at hl 2 rfl) ?_
      refine va_get (D := D) (ci := 8) (v := .ref ((swq q) 12)) (C := RX9) (T := TX9) (N := 10) hx hb hts hinX9 hown hK hP 0 rfl rfl 9 (by decide) k_2_11 (fun _ h9 => h9) rfl dX9_compile_100 ?_
      refine call_v (As := []) (rest := []) ⟨hx, hb, hml, hown, hts⟩ (tX4_forget (l := l)  (by first | assumption | omega | (intros; omega) | decide) (by first | assumption | omega | (intros; omega) | decide)) (cwV 0 hts (gV (wr21 _ (List.mem_of_getElem? (i := 7) rfl)) (wr21 _ (List.mem_of_getElem? (i := 8) rfl)) (wr21 _ (List.mem_of_getElem? (i := 9) rfl)) (wr2 _ (List.mem_of_getElem? (i := 10) rfl)) (wr21 _ (List.mem_of_getElem? (i := 10) rfl))) rfl rfl rfl (by decide +kernel) ⟨Nat.le_of_ble_eq_true rfl, Nat.le_of_ble_eq_true rfl⟩) (va_recv hK hP (ci := 3) (q0 := 12) rfl rfl) hK hP hD hE hS hA rfl hl.1 rfl (Nat.le_of_ble_eq_true rfl) dX9_compile_103 ⟨by show _ ≤ 306; omega, by show _ ≤ 2142; omega⟩ (fun w9 H locs hw103 hP hD hS => ?_)
      obtain ⟨v_u_marksMade_103, v_u_came_103, v_u_guesses_103, v_u_right_103, v_u_taken_103, a_u_outcomes_103, v_s_things_103, v_s_arraysMade_103, v_s_cellsMade_103, a_vc_103, a_vd_103, rfl, hw103_0, hw103_1⟩ := hw103
      have b_v_u_marksMade_103 := iB v_u_marksMade_103
      have b_v_u_came_103 := iB v_u_came_103
      have b_v_u_guesses_103 := iB v_u_guesses_103
      have b_v_u_right_103 := iB v_u_right_103
      have b_v_u_taken_103 := iB v_u_taken_103
      have b_v_s_things_103 := iB v_s_things_103
      have b_v_s_arraysMade_103 := iB v_s_arraysMade_103
      have b_v_s_cellsMade_103 := iB v_s_cellsMade_103
      refine lv_aload_n hx hb dX9_compile_106 rfl (lv_at hl 2 rfl) ?_
      refine va_get (D := D) (ci := 8) (v := .ref ((swq q) 3)) (C := RX9) (T := TX9) (N := 10) hx hb hts hinX9 hown hK hP 0 rfl rfl 4 (by decide) k_1_19 (fun _ h9 => h9) rfl dX9_compile_107 ?_
      refine va_get (D := D) (ci := 2) (v := .int v_h_size_12) (C := RX3) (T := TX3) (N := 3) hx hb hts hinX3 hown hK hP 3 rfl rfl 2 (by decide) k_8_11 (fun _ h9 => h9) rfl dX9_compile_110 ?_
      refine W.widen (k := 306) (n := 2142) (by omega) (by omega) ?_
      subst hAe
      rw [hQ]
      exact W.iret (v := v_h_size_12) hx hb hr (fun t ht hW => ⟨⟨v_h_size_12, _, rfl, ⟨(swq q), (0 : Int32), v_t_tapeSize, v_r_faultKind_12, a_t_text_83, a_h_beyond, v_h_size_12, a_h_steps_12, a_g_beyond, v_g_size, a_g_steps, a_r_now_12, v_r_takes_12, v_r_negative_12, v_r_namePlace_12, v_r_faultKind_12, v_r_faultPlace_12, v_a_size_12, v_a_limit_12, v_a_digits_12, v_a_kind_12, v_a_from_12, v_a_to_12, v_u_marksMade_103, v_u_came_103, v_u_guesses_103, v_u_right_103, v_u_taken_103, a_u_outcomes_103, v_s_things_103, v_s_arraysMade_103, v_s_cellsMade_103, a_L_12, a_K_12, a_vc_103, a_vd_103, a_si_12, a_sj_12, a_iv_12, a_inn_12, a_ac_12, rfl, by exact ⟨by assumption, by assumption, by assumption, by assumption, by assumption, by assumption, ⟨by omega, by omega⟩, ⟨by omega, by omega⟩, by omega, by assumption⟩, rfl⟩, by rw [ht]; exact hP, va_K.moved hW.alike hK, hD⟩, hS.F ht⟩) hS.2.2 dX9_compile_113
    · skip
      refine lv_iconst (v := (-1)) hx hb dX9_compile_41 (by decide) ?_
      refine lv_aload_n hx hb dX9_compile_42 rfl (lv_at hl 1 rfl) ?_
      refine va_get (D := D) (ci := 8) (v := .ref (q 7)) (C := RX9) (T := TX9) (N := 10) hx hb hts hinX9 hown hK hP 0 rfl rfl 7 (by decide) k_2_3 (fun _ h9 => h9) rfl dX9_compile_43 ?_
      refine va_get (D := D) (ci := 1) (v := .int v_r_faultPlace_12) (C := RX2) (T := TX2) (N := 8) hx hb hts hinX2 hown hK hP 7 rfl rfl 7 (by decide) k_8_5 (fun _ h9 => h9) rfl dX9_compile_46 ?_
      refine m_isub (X := (-1)) (Y := v_r_faultPlace_12.toInt) hx hb dX9_compile_49 (by decide) rfl (fun x49 e_x49 g9 => ?_)
      obtain ⟨k_x49, g_x49⟩ := g9
      have b_x49 := iB x49
      try (have q_x49 : x49.toInt = (-1) - v_r_faultPlace_12.toInt := (by omega); clear g_x49 k_x49)
      refine W.widen (k := 306) (n := 2142) (by omega) (by omega) ?_
      subst hAe
      rw [hQ]
      exact W.iret (v := x49) hx hb hr (fun t ht hW => ⟨⟨x49, _, rfl, ⟨q, v_t_tapeSize, v_t_textSize, v_r_faultKind_12, a_t_text, a_g_beyond, v_g_size, a_g_steps, a_h_beyond, v_h_size_12, a_h_steps_12, a_r_now_12, v_r_takes_12, v_r_negative_12, v_r_namePlace_12, v_r_faultKind_12, v_r_faultPlace_12, v_a_size_12, v_a_limit_12, v_a_digits_12, v_a_kind_12, v_a_from_12, v_a_to_12, v_u_marksMade, v_u_came, v_u_guesses, v_u_right, v_u_taken, a_u_outcomes, v_s_things, v_s_arraysMade, v_s_cellsMade, a_L_12, a_K_12, a_vc, a_vd, a_si_12, a_sj_12, a_iv_12, a_inn_12, a_ac_12, rfl, by exact ⟨by assumption, by assumption, by assumption, by assumption, by assumption, by assumption, ⟨by omega, by omega⟩, ⟨by omega, by omega⟩, by omega, by assumption⟩, rfl⟩, by rw [ht]; exact hP, va_K.moved hW.alike hK, hD⟩, hS.F ht⟩) hS.2.2 dX9_compile_50

def rmX9_step : Room := { frames := 80, cells := 3, slots := 21, locals := 1600 }
set_option maxHeartbeats 4000000 in
set_option maxRecDepth 100000 in
theorem tX9_step {l : Launch} (hl9 : l.stackTraces = false) {D : va_G} {K : Nat → Nat → Nat} {cs : Nat → ClassId} {q : Nat → Nat} {v_t_tapeSize v_t_textSize v_t_faultKind v_g_size v_h_size v_r_takes v_r_negative v_r_namePlace v_r_faultKind v_r_faultPlace v_a_size v_a_limit v_a_digits v_a_kind v_a_from v_a_to v_o_size v_b_size v_b_limit v_b_digits v_b_kind v_b_from v_b_to v_u_marksMade v_u_came v_u_guesses v_u_right v_u_taken v_s_things v_s_looked v_s_lookedTooOften v_s_arraysMade v_s_cellsMade : Int32} {a_t_tape a_t_text a_o_out a_u_outcomes a_u_indexes a_s_classes a_s_starts a_s_lengths a_vc : Nat → Int32} {a_g_beyond a_h_beyond a_r_scratch a_r_now a_u_atom a_u_other a_u_hand : Nat} {a_g_steps a_h_steps a_u_vars a_u_marks : Nat → Option Nat} {a_s_cells a_vd a_sj : Nat → Int64} {a_L : List Nat} {a_K a_iv a_inn : Nat → Nat} {a_si a_ac : Nat → Nat → Int32} (k9 : Int32) (w9 : Int32) (p_0 : TRN a_L a_K a_si a_iv a_inn a_g_beyond a_h_beyond a_r_scratch a_g_steps a_h_steps a_u_atom a_u_other a_u_hand a_u_vars a_u_marks a_r_now v_a_size v_a_limit v_a_digits v_a_kind v_a_from v_a_to v_b_size v_b_limit v_b_digits v_b_kind v_b_from v_b_to v_s_things v_s_cellsMade a_s_starts a_s_lengths v_t_tapeSize v_o_size v_u_marksMade a_t_tape) : CtIX l yX9_step (wG yX9_step cX9_step 4 (some .int)) rmX9_step D (twT cs) K [.ref (q 0), .int k9, .int w9] (tw cs q v_t_tapeSize v_t_textSize v_t_faultKind a_t_tape a_t_text a_g_beyond v_g_size a_g_steps a_h_beyond v_h_size a_h_steps a_r_scratch a_r_now v_r_takes v_r_negative v_r_namePlace v_r_faultKind v_r_faultPlace v_a_size v_a_limit v_a_digits v_a_kind v_a_from v_a_to v_o_size a_o_out v_b_size v_b_limit v_b_digits v_b_kind v_b_from v_b_to a_u_atom a_u_other a_u_hand v_u_marksMade v_u_came v_u_guesses v_u_right v_u_taken a_u_vars a_u_marks a_u_outcomes a_u_indexes v_s_things v_s_looked v_s_lookedTooOften v_s_arraysMade v_s_cellsMade a_s_classes a_s_starts a_s_lengths a_s_cells a_L a_K a_vc a_vd a_si a_sj a_iv a_inn a_ac) (fun r w1 => ∃ (a_g_steps' : Nat → Option Nat) (a_L' : List Nat) (a_K' : Nat → Nat) (a_si' : Nat → Nat → Int32) (a_sj' : Nat → Int64) (a_iv' : Nat → Nat) (a_inn' : Nat → Nat) (a_ac' : Nat → Nat → Int32), w1 = (tw cs q v_t_tapeSize v_t_textSize v_t_faultKind a_t_tape a_t_text a_g_beyond v_g_size a_g_steps' a_h_beyond v_h_size a_h_steps a_r_scratch a_r_now v_r_takes v_r_negative v_r_namePlace v_r_faultKind v_r_faultPlace v_a_size v_a_limit v_a_digits v_a_kind v_a_from v_a_to v_o_size a_o_out v_b_size v_b_limit v_b_digits v_b_kind v_b_from v_b_to a_u_atom a_u_other a_u_hand v_u_marksMade v_u_came v_u_guesses v_u_right v_u_taken a_u_vars a_u_marks a_u_outcomes a_u_indexes v_s_things v_s_looked v_s_lookedTooOften v_s_arraysMade v_s_cellsMade a_s_classes a_s_starts a_s_lengths a_s_cells a_L' a_K' a_vc a_vd a_si' a_sj' a_iv' a_inn' a_ac') ∧ (TRN a_L' a_K' a_si' a_iv' a_inn' a_g_beyond a_h_beyond a_r_scratch a_g_steps' a_h_steps a_u_atom a_u_other a_u_hand a_u_vars a_u_marks a_r_now v_a_size v_a_limit v_a_digits v_a_kind v_a_from v_a_to v_b_size v_b_limit v_b_digits v_b_kind v_b_from v_b_to v_s_things v_s_cellsMade a_s_starts a_s_lengths v_t_tapeSize v_o_size v_u_marksMade a_t_tape)) nsE (fun w1 => ∃ (a_g_steps' : Nat → Option Nat) (a_L' : List Nat) (a_K' : Nat → Nat) (a_si' : Nat → Nat → Int32) (a_sj' : Nat → Int64) (a_iv' : Nat → Nat) (a_inn' : Nat → Nat) (a_ac' : Nat → Nat → Int32), w1 = (tw cs q v_t_tapeSize v_t_textSize v_t_faultKind a_t_tape a_t_text a_g_beyond v_g_size a_g_steps' a_h_beyond v_h_size a_h_steps a_r_scratch a_r_now v_r_takes v_r_negative v_r_namePlace v_r_faultKind v_r_faultPlace v_a_size v_a_limit v_a_digits v_a_kind v_a_from v_a_to v_o_size a_o_out v_b_size v_b_limit v_b_digits v_b_kind v_b_from v_b_to a_u_atom a_u_other a_u_hand v_u_marksMade v_u_came v_u_guesses v_u_right v_u_taken a_u_vars a_u_marks a_u_outcomes a_u_indexes v_s_things v_s_looked v_s_lookedTooOften v_s_arraysMade v_s_cellsMade a_s_classes a_s_starts a_s_lengths a_s_cells a_L' a_K' a_vc a_vd a_si' a_sj' a_iv' a_inn' a_ac') ∧ (TRN a_L' a_K' a_si' a_iv' a_inn' a_g_beyond a_h_beyond a_r_scratch a_g_steps' a_h_steps a_u_atom a_u_other a_u_hand a_u_vars a_u_marks a_r_now v_a_size v_a_limit v_a_digits v_a_kind v_a_from v_a_to v_b_size v_b_limit v_b_digits v_b_kind v_b_from v_b_to v_s_things v_s_cellsMade a_s_starts a_s_lengths v_t_tapeSize v_o_size v_u_marksMade a_t_tape)) 3 21 := by
  intro sz
  refine vx_ofW (cc := cX9_step) (maxL := 4) (ret := (some .int)) (by decide) rfl ?_
  intro p e s m args below meth c s₁ B hml hno hv
  obtain ⟨rfl, hsz, hP, hK, hD0, hE⟩ := hv
  have hx := B.exec
  have hb := B.bytes
  have hr := B.returns
  have hts := atoms_spec (ws := (wG yX9_step cX9_step 4 (some .int))) B.pre
  have hown : s.vm.findClass RX9 = some m.cls := findClass_of_methodNamed B.named
  have hlocks := B.notSynchronized
  subst hsz
  have hD := hD0.self (sz := s.heap.size)
  obtain ⟨A, hAe⟩ : ∃ A : Nat → Prop, A = va_A (tw cs q v_t_tapeSize v_t_textSize v_t_faultKind a_t_tape a_t_text a_g_beyond v_g_size a_g_steps a_h_beyond v_h_size a_h_steps a_r_scratch a_r_now v_r_takes v_r_negative v_r_namePlace v_r_faultKind v_r_faultPlace v_a_size v_a_limit v_a_digits v_a_kind v_a_from v_a_to v_o_size a_o_out v_b_size v_b_limit v_b_digits v_b_kind v_b_from v_b_to a_u_atom a_u_other a_u_hand v_u_marksMade v_u_came v_u_guesses v_u_right v_u_taken a_u_vars a_u_marks a_u_outcomes a_u_indexes v_s_things v_s_looked v_s_lookedTooOften v_s_arraysMade v_s_cellsMade a_s_classes a_s_starts a_s_lengths a_s_cells a_L a_K a_vc a_vd a_si a_sj a_iv a_inn a_ac) s.heap.size := ⟨_, rfl⟩
  rw [← hAe] at hD hE
  have hA : ∀ q : Nat, s.heap.size ≤ q → A q := fun q h => by rw [hAe]; exact Or.inr h
  have hS : va_S A s.heap s.heap [] := va_S.rf
  have hl := lv_entry ([.ref (q 0), .int k9, .int w9]) (n := 4) (Nat.le_of_ble_eq_true rfl)
  rw [lg_entry_eq]
  generalize (lg_sl ([.ref (q 0), .int k9, .int w9]) ++ List.replicate (4 - (lg_sl ([.ref (q 0), .int k9, .int w9])).length) Slot.unset).toArray = ls at hl ⊢
  have hl : lv_has ls 4 [(0, .ref (q 0)), (1, .int k9), (2, .int w9)] := hl
  refine wq (fun Q hQ => ?_)
  have hinX3 : ∀ w ∈ wsX30, w ∈ (wG yX9_step cX9_step 4 (some .int)) := fun w h => List.mem_cons_of_mem _ (inlX3 w h)
  have hinX6 : ∀ w ∈ wsX60, w ∈ (wG yX9_step cX9_step 4 (some .int)) := fun w h => List.mem_cons_of_mem _ (inlX6 w h)
  have hinX9 : ∀ w ∈ wsX90, w ∈ (wG yX9_step cX9_step 4 (some .int)) := fun w h => List.mem_cons_of_mem _ (inlX9 w h)
  have kc0 : (3 : Int32).toInt = 3 := by decide
  have k_32_4 := hts (.classLink RX9 88 "java/util/NoSuchElementException") (List.mem_cons_of_mem _ (wr32 _ (List.mem_of_getElem? (i := 4) rfl)))
  have k_32_5 := hts (.initialized "java/util/NoSuchElementException") (List.mem_cons_of_mem _ (wr32 _ (List.mem_of_getElem? (i := 5) rfl)))
  have k_1_19 := hts (.fieldLink RX9 19 "ArrayTrainer" "program" "LArrayTrainer$Program;") (List.mem_cons_of_mem _ (wr1 _ (List.mem_of_getElem? (i := 19) rfl)))
  have k_8_11 := hts (.fieldLink RX9 85 "ArrayTrainer$Program" "size" "I") (List.mem_cons_of_mem _ (wr8 _ (List.mem_of_getElem? (i := 11) rfl)))
  have k_32_9 := hts (.fieldLink RX9 106 "ArrayTrainer$Step" "place" "I") (List.mem_cons_of_mem _ (wr32 _ (List.mem_of_getElem? (i := 9) rfl)))
  have k_32_6 := hts (.fieldLink RX9 95 "ArrayTrainer$Step" "act" "I") (List.mem_cons_of_mem _ (wr32 _ (List.mem_of_getElem? (i := 6) rfl)))
  have k_32_7 := hts (.fieldLink RX9 100 "ArrayTrainer$Step" "guess" "I") (List.mem_cons_of_mem _ (wr32 _ (List.mem_of_getElem? (i := 7) rfl)))
  have k_32_8 := hts (.fieldLink RX9 103 "ArrayTrainer$Step" "take" "I") (List.mem_cons_of_mem _ (wr32 _ (List.mem_of_getElem? (i := 8) rfl)))
  obtain ⟨H, hH⟩ : ∃ H : Heap, H = s.heap := ⟨_, rfl⟩
  obtain ⟨locs, hlc⟩ : ∃ L : List Loc, L = [] := ⟨_, rfl⟩
  have hP : va_P D vwCl (tw cs q v_t_tapeSize v_t_textSize v_t_faultKind a_t_tape a_t_text a_g_beyond v_g_size a_g_steps a_h_beyond v_h_size a_h_steps a_r_scratch a_r_now v_r_takes v_r_negative v_r_namePlace v_r_faultKind v_r_faultPlace v_a_size v_a_limit v_a_digits v_a_kind v_a_from v_a_to v_o_size a_o_out v_b_size v_b_limit v_b_digits v_b_kind v_b_from v_b_to a_u_atom a_u_other a_u_hand v_u_marksMade v_u_came v_u_guesses v_u_right v_u_taken a_u_vars a_u_marks a_u_outcomes a_u_indexes v_s_things v_s_looked v_s_lookedTooOften v_s_arraysMade v_s_cellsMade a_s_classes a_s_starts a_s_lengths a_s_cells a_L a_K a_vc a_vd a_si a_sj a_iv a_inn a_ac) H := by rw [hH]; exact hP
  have hS : va_S A s.heap H locs := by rw [hH, hlc]; exact hS
  refine wHL hH hlc ?_
  have b_k9 := iB k9
  have b_w9 := iB w9
  obtain ⟨hRF, hPI, hNow, hLA, hLB, hSTO, ⟨ht0, ht1⟩, ⟨ho0, ho1⟩, hm0, hFB⟩ := id p_0
  refine lv_iload_n hx hb dX9_step_0 rfl (lv_at hl 1 rfl) ?_
  have J24 : ∀ (H : Heap) (locs : List Loc) (ls : Array Slot), va_P D vwCl (tw cs q v_t_tapeSize v_t_textSize v_t_faultKind a_t_tape a_t_text a_g_beyond v_g_size a_g_steps a_h_beyond v_h_size a_h_steps a_r_scratch a_r_now v_r_takes v_r_negative v_r_namePlace v_r_faultKind v_r_faultPlace v_a_size v_a_limit v_a_digits v_a_kind v_a_from v_a_to v_o_size a_o_out v_b_size v_b_limit v_b_digits v_b_kind v_b_from v_b_to a_u_atom a_u_other a_u_hand v_u_marksMade v_u_came v_u_guesses v_u_right v_u_taken a_u_vars a_u_marks a_u_outcomes a_u_indexes v_s_things v_s_looked v_s_lookedTooOften v_s_arraysMade v_s_cellsMade a_s_classes a_s_starts a_s_lengths a_s_cells a_L a_K a_vc a_vd a_si a_sj a_iv a_inn a_ac) H → va_D A (tw cs q v_t_tapeSize v_t_textSize v_t_faultKind a_t_tape a_t_text a_g_beyond v_g_size a_g_steps a_h_beyond v_h_size a_h_steps a_r_scratch a_r_now v_r_takes v_r_negative v_r_namePlace v_r_faultKind v_r_faultPlace v_a_size v_a_limit v_a_digits v_a_kind v_a_from v_a_to v_o_size a_o_out v_b_size v_b_limit v_b_digits v_b_kind v_b_from v_b_to a_u_atom a_u_other a_u_hand v_u_marksMade v_u_came v_u_guesses v_u_right v_u_taken a_u_vars a_u_marks a_u_outcomes a_u_indexes v_s_things v_s_looked v_s_lookedTooOften v_s_arraysMade v_s_cellsMade a_s_classes a_s_starts a_s_lengths a_s_cells a_L a_K a_vc a_vd a_si a_sj a_iv a_inn a_ac) → va_S A s.heap H locs → lv_has ls 4 [] → W p l e (headSpec (wG yX9_step cX9_step 4 (some .int)) rmX9_step).room s m ([.ref (q 0), .int k9, .int w9] : List Value).toArray below meth c H locs (0) (0) Q (F0 m 24 ls []) := by
    intro H locs ls hP hD hS hl
    have hT : TRN a_L a_K a_si a_iv a_inn a_g_beyond a_h_beyond a_r_scratch a_g_steps a_h_steps a_u_atom a_u_other a_u_hand a_u_vars a_u_marks a_r_now v_a_size v_a_limit v_a_digits v_a_kind v_a_from v_a_to v_b_size v_b_limit v_b_digits v_b_kind v_b_from v_b_to v_s_things v_s_cellsMade a_s_starts a_s_lengths v_t_tapeSize v_o_size v_u_marksMade a_t_tape := by exact ⟨by assumption, by assumption, (by first | assumption | exact aS.grow hw37_3 hw37_4 (by assumption)), by assumption, by assumption, by assumption, ⟨by omega, by omega⟩, ⟨by omega, by omega⟩, by omega, by assumption⟩
    subst hAe
    rw [hQ]
    exact vx_throw0 (names := exN) (cls := nsE) (own := RX9) hx hb hl9 hown (by decide +kernel) (by decide +kernel) k_32_4 k_32_5 (hat_ns hts hE.2.2.2.2.2.2) gd_ns hE.2.2.2.1 hE.2.2.2.2.1 hS (hl.1.trans hml.symm) dX9_step_24 dX9_step_27 dX9_step_28 dX9_step_31 (fun x h9 => (hno x h9).elim) (Nat.le_of_ble_eq_true rfl) (Nat.le_of_ble_eq_true rfl) (Nat.le_of_ble_eq_true rfl) (Nat.le_of_ble_eq_true rfl) hlocks (fun t hvm hz hk => ⟨_, ⟨a_g_steps, a_L, a_K, a_si, a_sj, a_iv, a_inn, a_ac, rfl, hT⟩, ⟨rfl, hP.kept (fun k q hq => hk q.1 (hP k q hq).lt), va_K.moved hvm hK, hD⟩, ⟨Nat.le_trans hS.1 hz, fun q hq hn => (hk q (Nat.lt_of_lt_of_le hq hS.1)).trans (hS.2.1 q hq hn)⟩⟩) hS.2.2 (Nat.le_of_ble_eq_true rfl) (Nat.le_of_ble_eq_true rfl)
  refine m_if_lt (X := k9.toInt) (tgt := 24) hx hb dX9_step_1 (by decide) rfl (fun c1 => ?_) (fun c1 => ?_)
  · skip
    exact J24 H locs ls hP hD hS (lv_sub hl [] rfl)
  · skip
    refine lv_iload_n hx hb dX9_step_4 rfl (lv_at hl 1 rfl) ?_
    refine lv_aload_n hx hb dX9_step_5 rfl (lv_at hl 0 rfl) ?_
    refine va_get (D := D) (ci := 8) (v := .ref (q 3)) (C := RX9) (T := TX9) (N := 10) hx hb hts hinX9 hown hK hP 0 rfl rfl 4 (by decide) k_1_19 (fun _ h9 => h9) rfl dX9_step_6 ?_
    refine va_get (D := D) (ci := 2) (v := .int v_g_size) (C := RX3) (T := TX3) (N := 3) hx hb hts hinX3 hown hK hP 3 rfl rfl 2 (by decide) k_8_11 (fun _ h9 => h9) rfl dX9_step_9 ?_
    refine m_icmp_ge (X := k9.toInt) (Y := v_g_size.toInt) (tgt := 24) hx hb dX9_step_12 (by decide) rfl rfl (fun c12 => ?_) (fun c12 => ?_)
    · skip
      exact J24 H locs ls hP hD hS (lv_sub hl [] rfl)
    · skip
      refine lv_iload_n hx hb dX9_step_15 rfl (lv_at hl 2 rfl) ?_
      refine m_if_lt (X := w9.toInt) (tgt := 24) hx hb dX9_step_16 (by decide) rfl (fun c16 => ?_) (fun c16 => ?_)
      · skip
        exact J24 H locs ls hP hD hS (lv_sub hl [] rfl)
      · skip
        refine lv_iload_n hx hb dX9_step_19 rfl (lv_at hl 2 rfl) ?_
        refine lv_iconst (v := 3) hx hb dX9_step_20 (by decide) ?_
        refine m_icmp_le (X := w9.toInt) (Y := 3) (tgt := 32) hx hb dX9_step_21 (by decide) rfl (by decide) (fun c21 => ?_) (fun c21 => ?_)
        · skip
          refine lv_aload_n hx hb dX9_step_32 rfl (lv_at hl 0 rfl) ?_
          refine va_get (D := D) (ci := 8) (v := .ref (q 3)) (C := RX9) (T := TX9) (N := 10) hx hb hts hinX9 hown hK hP 0 rfl rfl 4 (by decide) k_1_19 (fun _ h9 => h9) rfl dX9_step_33 ?_
          refine lv_iload_n hx hb dX9_step_36 rfl (lv_at hl 1 rfl) ?_
          refine call_r (As := [.int k9]) (rest := []) ⟨hx, hb, hml, hown, hts⟩ (tX3_stepAt_qg (l := l) k9 (by first | assumption | omega | (intros; omega) | decide) (by first | assumption | omega | (intros; omega) | decide)) (cwV 1 hts (gV (wr32 _ (List.mem_of_getElem? (i := 10) rfl)) (wr16 _ (List.mem_of_getElem? (i := 1) rfl)) (wr16 _ (List.mem_of_getElem? (i := 2) rfl)) (wr1 _ (List.mem_of_getElem? (i := 18) rfl)) (wr16 _ (List.mem_of_getElem? (i := 3) rfl))) rfl rfl rfl (by decide +kernel) ⟨Nat.le_of_ble_eq_true rfl, Nat.le_of_ble_eq_true rfl⟩) (va_recv hK hP (ci := 2) (q0 := 3) rfl rfl) hK hP hD hE hS hA rfl hl.1 rfl (Nat.le_of_ble_eq_true rfl) dX9_step_37 ⟨by show _ ≤ 3; omega, by show _ ≤ 21; omega⟩ (fun r37 w9 H locs hw37 hP hD hS => ?_)
          obtain ⟨a_g_steps_37, a_L_37, a_K_37, a_si_37, a_sj_37, a_iv_37, a_inn_37, a_ac_37, rfl, hw37_0, hw37_1, hw37_2, hw37_3, hw37_4⟩ := hw37
          refine lv_astore_n (lv' := [(3, .ref r37), (0, .ref (q 0)), (1, .int k9), (2, .int w9)]) hx hb dX9_step_40 rfl hl (by decide) rfl (fun ls hl => ?_)
          refine lv_iload_n hx hb dX9_step_41 rfl (lv_at hl 3 rfl) ?_
          rcases (show (w9.toInt < 0 ∨ 2 < w9.toInt) ∨ w9.toInt = 0 ∨ w9.toInt = 1 ∨ w9.toInt = 2 by omega) with c42 | c42 | c42 | c42
          · skip
            refine lv_tableOut (tgt := 83) hx hb dX9_step_42 c42 (by decide) ?_
            refine lv_aload_n hx hb dX9_step_83 rfl (lv_at hl 0 rfl) ?_
            obtain ⟨k84_, hk84_⟩ := pl_S (X := (twX cs q v_t_tapeSize v_t_textSize v_t_faultKind a_t_tape a_t_text a_g_beyond v_g_size a_g_steps_37 a_h_beyond v_h_size a_h_steps a_r_scratch a_r_now v_r_takes v_r_negative v_r_namePlace v_r_faultKind v_r_faultPlace v_a_size v_a_limit v_a_digits v_a_kind v_a_from v_a_to v_o_size a_o_out v_b_size v_b_limit v_b_digits v_b_kind v_b_from v_b_to a_u_atom a_u_other a_u_hand v_u_marksMade v_u_came v_u_guesses v_u_right v_u_taken a_u_vars a_u_marks a_u_outcomes a_u_indexes v_s_things v_s_looked v_s_lookedTooOften v_s_arraysMade v_s_cellsMade a_s_classes a_s_starts a_s_lengths a_s_cells)) (cI := cs 0) (vc := a_vc) (vd := a_vd) (si := a_si_37) (sj := a_sj_37) (iv := a_iv_37) (inn := a_inn_37) (ac := a_ac_37) hw37_0
            refine va_get (D := D) (ci := 5) (v := .int (a_si_37 r37 3)) (C := RX6) (T := TX6) (N := 15) hx hb hts hinX6 hown hK hP k84_ hk84_ rfl 3 (by decide) k_32_9 (fun _ h9 => h9) rfl dX9_step_84 ?_
            refine lv_topi (fun x84 e_x84 => ?_)
            have b_x84 := iB x84
            refine W.widen (k := 3) (n := 21) (by omega) (by omega) ?_
            subst hAe
            rw [hQ]
            refine vx_ret ?_
            exact W.iret (v := x84) hx hb hr (fun t ht hW => ⟨⟨x84, _, rfl, ⟨a_g_steps_37, a_L_37, a_K_37, a_si_37, a_sj_37, a_iv_37, a_inn_37, a_ac_37, rfl, by exact ⟨by assumption, by assumption, (by first | assumption | exact aS.grow hw37_3 hw37_4 (by assumption)), by assumption, by assumption, by assumption, ⟨by omega, by omega⟩, ⟨by omega, by omega⟩, by omega, by assumption⟩⟩, by rw [ht]; exact hP, va_K.moved hW.alike hK, hD⟩, hS.F ht⟩) hS.2.2 dX9_step_87
          · skip
            refine lv_tableIn (tgt := 68) (off := 26) hx hb dX9_step_42 (by omega) (by omega) (by rw [c42]; rfl) (by decide) ?_
            refine lv_aload_n hx hb dX9_step_68 rfl (lv_at hl 0 rfl) ?_
            obtain ⟨k69_, hk69_⟩ := pl_S (X := (twX cs q v_t_tapeSize v_t_textSize v_t_faultKind a_t_tape a_t_text a_g_beyond v_g_size a_g_steps_37 a_h_beyond v_h_size a_h_steps a_r_scratch a_r_now v_r_takes v_r_negative v_r_namePlace v_r_faultKind v_r_faultPlace v_a_size v_a_limit v_a_digits v_a_kind v_a_from v_a_to v_o_size a_o_out v_b_size v_b_limit v_b_digits v_b_kind v_b_from v_b_to a_u_atom a_u_other a_u_hand v_u_marksMade v_u_came v_u_guesses v_u_right v_u_taken a_u_vars a_u_marks a_u_outcomes a_u_indexes v_s_things v_s_looked v_s_lookedTooOften v_s_arraysMade v_s_cellsMade a_s_classes a_s_starts a_s_lengths a_s_cells)) (cI := cs 0) (vc := a_vc) (vd := a_vd) (si := a_si_37) (sj := a_sj_37) (iv := a_iv_37) (inn := a_inn_37) (ac := a_ac_37) hw37_0
            refine va_get (D := D) (ci := 5) (v := .int (a_si_37 r37 0)) (C := RX6) (T := TX6) (N := 15) hx hb hts hinX6 hown hK hP k69_ hk69_ rfl 0 (by decide) k_32_6 (fun _ h9 => h9) rfl dX9_step_69 ?_
            refine lv_topi (fun x69 e_x69 => ?_)
            have b_x69 := iB x69
            refine W.widen (k := 3) (n := 21) (by omega) (by omega) ?_
            subst hAe
            rw [hQ]
            refine vx_ret ?_
            exact W.iret (v := x69) hx hb hr (fun t ht hW => ⟨⟨x69, _, rfl, ⟨a_g_steps_37, a_L_37, a_K_37, a_si_37, a_sj_37, a_iv_37, a_inn_37, a_ac_37, rfl, by exact ⟨by assumption, by assumption, (by first | assumption | exact aS.grow hw37_3 hw37_4 (by assumption)), by assumption, by assumption, by assumption, ⟨by omega, by omega⟩, ⟨by omega, by omega⟩, by omega, by assumption⟩⟩, by rw [ht]; exact hP, va_K.moved hW.alike hK, hD⟩, hS.F ht⟩) hS.2.2 dX9_step_72
          · skip
            refine lv_tableIn (tgt := 73) (off := 31) hx hb dX9_step_42 (by omega) (by omega) (by rw [c42]; rfl) (by decide) ?_
            refine lv_aload_n hx hb dX9_step_73 rfl (lv_at hl 0 rfl) ?_
            obtain ⟨k74_, hk74_⟩ := pl_S (X := (twX cs q v_t_tapeSize v_t_textSize v_t_faultKind a_t_tape a_t_text a_g_beyond v_g_size a_g_steps_37 a_h_beyond v_h_size a_h_steps a_r_scratch a_r_now v_r_takes v_r_negative v_r_namePlace v_r_faultKind v_r_faultPlace v_a_size v_a_limit v_a_digits v_a_kind v_a_from v_a_to v_o_size a_o_out v_b_size v_b_limit v_b_digits v_b_kind v_b_from v_b_to a_u_atom a_u_other a_u_hand v_u_marksMade v_u_came v_u_guesses v_u_right v_u_taken a_u_vars a_u_marks a_u_outcomes a_u_indexes v_s_things v_s_looked v_s_lookedTooOften v_s_arraysMade v_s_cellsMade a_s_classes a_s_starts a_s_lengths a_s_cells)) (cI := cs 0) (vc := a_vc) (vd := a_vd) (si := a_si_37) (sj := a_sj_37) (iv := a_iv_37) (inn := a_inn_37) (ac := a_ac_37) hw37_0
            refine va_get (D := D) (ci := 5) (v := .int (a_si_37 r37 1)) (C := RX6) (T := TX6) (N := 15) hx hb hts hinX6 hown hK hP k74_ hk74_ rfl 1 (by decide) k_32_7 (fun _ h9 => h9) rfl dX9_step_74 ?_
            refine lv_topi (fun x74 e_x74 => ?_)
            have b_x74 := iB x74
            refine W.widen (k := 3) (n := 21) (by omega) (by omega) ?_
            subst hAe
            rw [hQ]
            refine vx_ret ?_
            exact W.iret (v := x74) hx hb hr (fun t ht hW => ⟨⟨x74, _, rfl, ⟨a_g_steps_37, a_L_37, a_K_37, a_si_37, a_sj_37, a_iv_37, a_inn_37, a_ac_37, rfl, by exact ⟨by assumption, by assumption, (by first | assumption | exact aS.grow hw37_3 hw37_4 (by assumption)), by assumption, by assumption, by assumption, ⟨by omega, by omega⟩, ⟨by omega, by omega⟩, by omega, by assumption⟩⟩, by rw [ht]; exact hP, va_K.moved hW.alike hK, hD⟩, hS.F ht⟩) hS.2.2 dX9_step_77
          · skip
            refine lv_tableIn (tgt := 78) (off := 36) hx hb dX9_step_42 (by omega) (by omega) (by rw [c42]; rfl) (by decide) ?_
            refine lv_aload_n hx hb dX9_step_78 rfl (lv_at hl 0 rfl) ?_
            obtain ⟨k79_, hk79_⟩ := pl_S (X := (twX cs q v_t_tapeSize v_t_textSize v_t_faultKind a_t_tape a_t_text a_g_beyond v_g_size a_g_steps_37 a_h_beyond v_h_size a_h_steps a_r_scratch a_r_now v_r_takes v_r_negative v_r_namePlace v_r_faultKind v_r_faultPlace v_a_size v_a_limit v_a_digits v_a_kind v_a_from v_a_to v_o_size a_o_out v_b_size v_b_limit v_b_digits v_b_kind v_b_from v_b_to a_u_atom a_u_other a_u_hand v_u_marksMade v_u_came v_u_guesses v_u_right v_u_taken a_u_vars a_u_marks a_u_outcomes a_u_indexes v_s_things v_s_looked v_s_lookedTooOften v_s_arraysMade v_s_cellsMade a_s_classes a_s_starts a_s_lengths a_s_cells)) (cI := cs 0) (vc := a_vc) (vd := a_vd) (si := a_si_37) (sj := a_sj_37) (iv := a_iv_37) (inn := a_inn_37) (ac := a_ac_37) hw37_0
            refine va_get (D := D) (ci := 5) (v := .int (a_si_37 r37 2)) (C := RX6) (T := TX6) (N := 15) hx hb hts hinX6 hown hK hP k79_ hk79_ rfl 2 (by decide) k_32_8 (fun _ h9 => h9) rfl dX9_step_79 ?_
            refine lv_topi (fun x79 e_x79 => ?_)
            have b_x79 := iB x79
            refine W.widen (k := 3) (n := 21) (by omega) (by omega) ?_
            subst hAe
            rw [hQ]
            refine vx_ret ?_
            exact W.iret (v := x79) hx hb hr (fun t ht hW => ⟨⟨x79, _, rfl, ⟨a_g_steps_37, a_L_37, a_K_37, a_si_37, a_sj_37, a_iv_37, a_inn_37, a_ac_37, rfl, by exact ⟨by assumption, by assumption, (by first | assumption | exact aS.grow hw37_3 hw37_4 (by assumption)), by assumption, by assumption, by assumption, ⟨by omega, by omega⟩, ⟨by omega, by omega⟩, by omega, by assumption⟩⟩, by rw [ht]; exact hP, va_K.moved hW.alike hK, hD⟩, hS.F ht⟩) hS.2.2 dX9_step_82
        · skip
          exact J24 H locs ls hP hD hS (lv_sub hl [] rfl)

def rmX9_spell : Room := { frames := 160, cells := 3, slots := 21, locals := 3200 }
set_option maxHeartbeats 4000000 in
set_option maxRecDepth 100000 in
theorem tX9_spell {l : Launch} (hl9 : l.stackTraces = false) {D : va_G} {K : Nat → Nat → Nat} {cs : Nat → ClassId} {q : Nat → Nat} {v_t_tapeSize v_t_textSize v_t_faultKind v_g_size v_h_size v_r_takes v_r_negative v_r_namePlace v_r_faultKind v_r_faultPlace v_a_size v_a_limit v_a_digits v_a_kind v_a_from v_a_to v_o_size v_b_size v_b_limit v_b_digits v_b_kind v_b_from v_b_to v_u_marksMade v_u_came v_u_guesses v_u_right v_u_taken v_s_things v_s_looked v_s_lookedTooOften v_s_arraysMade v_s_cellsMade : Int32} {a_t_tape a_t_text a_o_out a_u_outcomes a_u_indexes a_s_classes a_s_starts a_s_lengths a_vc : Nat → Int32} {a_g_beyond a_h_beyond a_r_scratch a_r_now a_u_atom a_u_other a_u_hand : Nat} {a_g_steps a_h_steps a_u_vars a_u_marks : Nat → Option Nat} {a_s_cells a_vd a_sj : Nat → Int64} {a_L : List Nat} {a_K a_iv a_inn : Nat → Nat} {a_si a_ac : Nat → Nat → Int32} (k9 : Int32) (p_0 : TRN a_L a_K a_si a_iv a_inn a_g_beyond a_h_beyond a_r_scratch a_g_steps a_h_steps a_u_atom a_u_other a_u_hand a_u_vars a_u_marks a_r_now v_a_size v_a_limit v_a_digits v_a_kind v_a_from v_a_to v_b_size v_b_limit v_b_digits v_b_kind v_b_from v_b_to v_s_things v_s_cellsMade a_s_starts a_s_lengths v_t_tapeSize v_o_size v_u_marksMade a_t_tape) : CtIX l yX9_spell (wG yX9_spell cX9_spell 2 (some .int)) rmX9_spell D (twT cs) K [.ref (q 0), .int k9] (tw cs q v_t_tapeSize v_t_textSize v_t_faultKind a_t_tape a_t_text a_g_beyond v_g_size a_g_steps a_h_beyond v_h_size a_h_steps a_r_scratch a_r_now v_r_takes v_r_negative v_r_namePlace v_r_faultKind v_r_faultPlace v_a_size v_a_limit v_a_digits v_a_kind v_a_from v_a_to v_o_size a_o_out v_b_size v_b_limit v_b_digits v_b_kind v_b_from v_b_to a_u_atom a_u_other a_u_hand v_u_marksMade v_u_came v_u_guesses v_u_right v_u_taken a_u_vars a_u_marks a_u_outcomes a_u_indexes v_s_things v_s_looked v_s_lookedTooOften v_s_arraysMade v_s_cellsMade a_s_classes a_s_starts a_s_lengths a_s_cells a_L a_K a_vc a_vd a_si a_sj a_iv a_inn a_ac) (fun r w1 => ∃ (a_g_steps' : Nat → Option Nat) (v_o_size' : Int32) (a_o_out' : Nat → Int32) (v_b_size' : Int32) (v_b_limit' : Int32) (v_b_digits' : Int32) (v_b_kind' : Int32) (v_b_from' : Int32) (v_b_to' : Int32) (a_L' : List Nat) (a_K' : Nat → Nat) (a_si' : Nat → Nat → Int32) (a_sj' : Nat → Int64) (a_iv' : Nat → Nat) (a_inn' : Nat → Nat) (a_ac' : Nat → Nat → Int32), w1 = (tw cs q v_t_tapeSize v_t_textSize v_t_faultKind a_t_tape a_t_text a_g_beyond v_g_size a_g_steps' a_h_beyond v_h_size a_h_steps a_r_scratch a_r_now v_r_takes v_r_negative v_r_namePlace v_r_faultKind v_r_faultPlace v_a_size v_a_limit v_a_digits v_a_kind v_a_from v_a_to v_o_size' a_o_out' v_b_size' v_b_limit' v_b_digits' v_b_kind' v_b_from' v_b_to' a_u_atom a_u_other a_u_hand v_u_marksMade v_u_came v_u_guesses v_u_right v_u_taken a_u_vars a_u_marks a_u_outcomes a_u_indexes v_s_things v_s_looked v_s_lookedTooOften v_s_arraysMade v_s_cellsMade a_s_classes a_s_starts a_s_lengths a_s_cells a_L' a_K' a_vc a_vd a_si' a_sj' a_iv' a_inn' a_ac') ∧ (TRN a_L' a_K' a_si' a_iv' a_inn' a_g_beyond a_h_beyond a_r_scratch a_g_steps' a_h_steps a_u_atom a_u_other a_u_hand a_u_vars a_u_marks a_r_now v_a_size v_a_limit v_a_digits v_a_kind v_a_from v_a_to v_b_size' v_b_limit' v_b_digits' v_b_kind' v_b_from' v_b_to' v_s_things v_s_cellsMade a_s_starts a_s_lengths v_t_tapeSize v_o_size' v_u_marksMade a_t_tape)) nsE (fun w1 => ∃ (a_g_steps' : Nat → Option Nat) (v_o_size' : Int32) (a_o_out' : Nat → Int32) (v_b_size' : Int32) (v_b_limit' : Int32) (v_b_digits' : Int32) (v_b_kind' : Int32) (v_b_from' : Int32) (v_b_to' : Int32) (a_L' : List Nat) (a_K' : Nat → Nat) (a_si' : Nat → Nat → Int32) (a_sj' : Nat → Int64) (a_iv' : Nat → Nat) (a_inn' : Nat → Nat) (a_ac' : Nat → Nat → Int32), w1 = (tw cs q v_t_tapeSize v_t_textSize v_t_faultKind a_t_tape a_t_text a_g_beyond v_g_size a_g_steps' a_h_beyond v_h_size a_h_steps a_r_scratch a_r_now v_r_takes v_r_negative v_r_namePlace v_r_faultKind v_r_faultPlace v_a_size v_a_limit v_a_digits v_a_kind v_a_from v_a_to v_o_size' a_o_out' v_b_size' v_b_limit' v_b_digits' v_b_kind' v_b_from' v_b_to' a_u_atom a_u_other a_u_hand v_u_marksMade v_u_came v_u_guesses v_u_right v_u_taken a_u_vars a_u_marks a_u_outcomes a_u_indexes v_s_things v_s_looked v_s_lookedTooOften v_s_arraysMade v_s_cellsMade a_s_classes a_s_starts a_s_lengths a_s_cells a_L' a_K' a_vc a_vd a_si' a_sj' a_iv' a_inn' a_ac') ∧ (TRN a_L' a_K' a_si' a_iv' a_inn' a_g_beyond a_h_beyond a_r_scratch a_g_steps' a_h_steps a_u_atom a_u_other a_u_hand a_u_vars a_u_marks a_r_now v_a_size v_a_limit v_a_digits v_a_kind v_a_from v_a_to v_b_size' v_b_limit' v_b_digits' v_b_kind' v_b_from' v_b_to' v_s_things v_s_cellsMade a_s_starts a_s_lengths v_t_tapeSize v_o_size' v_u_marksMade a_t_tape)) 3 21 := by
  intro sz
  refine vx_ofW (cc := cX9_spell) (maxL := 2) (ret := (some .int)) (by decide) rfl ?_
  intro p e s m args below meth c s₁ B hml hno hv
  obtain ⟨rfl, hsz, hP, hK, hD0, hE⟩ := hv
  have hx := B.exec
  have hb := B.bytes
  have hr := B.returns
  have hts := atoms_spec (ws := (wG yX9_spell cX9_spell 2 (some .int))) B.pre
  have hown : s.vm.findClass RX9 = some m.cls := findClass_of_methodNamed B.named
  have hlocks := B.notSynchronized
  subst hsz
  have hD := hD0.self (sz := s.heap.size)
  obtain ⟨A, hAe⟩ : ∃ A : Nat → Prop, A = va_A (tw cs q v_t_tapeSize v_t_textSize v_t_faultKind a_t_tape a_t_text a_g_beyond v_g_size a_g_steps a_h_beyond v_h_size a_h_steps a_r_scratch a_r_now v_r_takes v_r_negative v_r_namePlace v_r_faultKind v_r_faultPlace v_a_size v_a_limit v_a_digits v_a_kind v_a_from v_a_to v_o_size a_o_out v_b_size v_b_limit v_b_digits v_b_kind v_b_from v_b_to a_u_atom a_u_other a_u_hand v_u_marksMade v_u_came v_u_guesses v_u_right v_u_taken a_u_vars a_u_marks a_u_outcomes a_u_indexes v_s_things v_s_looked v_s_lookedTooOften v_s_arraysMade v_s_cellsMade a_s_classes a_s_starts a_s_lengths a_s_cells a_L a_K a_vc a_vd a_si a_sj a_iv a_inn a_ac) s.heap.size := ⟨_, rfl⟩
  rw [← hAe] at hD hE
  have hA : ∀ q : Nat, s.heap.size ≤ q → A q := fun q h => by rw [hAe]; exact Or.inr h
  have hS : va_S A s.heap s.heap [] := va_S.rf
  have hl := lv_entry ([.ref (q 0), .int k9]) (n := 2) (Nat.le_of_ble_eq_true rfl)
  rw [lg_entry_eq]
  generalize (lg_sl ([.ref (q 0), .int k9]) ++ List.replicate (2 - (lg_sl ([.ref (q 0), .int k9])).length) Slot.unset).toArray = ls at hl ⊢
  have hl : lv_has ls 2 [(0, .ref (q 0)), (1, .int k9)] := hl
  refine wq (fun Q hQ => ?_)
  have hinX3 : ∀ w ∈ wsX30, w ∈ (wG yX9_spell cX9_spell 2 (some .int)) := fun w h => List.mem_cons_of_mem _ (inlX3 w h)
  have hinX5 : ∀ w ∈ wsX50, w ∈ (wG yX9_spell cX9_spell 2 (some .int)) := fun w h => List.mem_cons_of_mem _ (inlX5 w h)
  have hinX6 : ∀ w ∈ wsX60, w ∈ (wG yX9_spell cX9_spell 2 (some .int)) := fun w h => List.mem_cons_of_mem _ (inlX6 w h)
  have hinX9 : ∀ w ∈ wsX90, w ∈ (wG yX9_spell cX9_spell 2 (some .int)) := fun w h => List.mem_cons_of_mem _ (inlX9 w h)
  have k_32_4 := hts (.classLink RX9 88 "java/util/NoSuchElementException") (List.mem_cons_of_mem _ (wr32 _ (List.mem_of_getElem? (i := 4) rfl)))
  have k_32_5 := hts (.initialized "java/util/NoSuchElementException") (List.mem_cons_of_mem _ (wr32 _ (List.mem_of_getElem? (i := 5) rfl)))
  have k_1_19 := hts (.fieldLink RX9 19 "ArrayTrainer" "program" "LArrayTrainer$Program;") (List.mem_cons_of_mem _ (wr1 _ (List.mem_of_getElem? (i := 19) rfl)))
  have k_8_11 := hts (.fieldLink RX9 85 "ArrayTrainer$Program" "size" "I") (List.mem_cons_of_mem _ (wr8 _ (List.mem_of_getElem? (i := 11) rfl)))
  have k_2_7 := hts (.fieldLink RX9 43 "ArrayTrainer" "speller" "LArrayTrainer$Speller;") (List.mem_cons_of_mem _ (wr2 _ (List.mem_of_getElem? (i := 7) rfl)))
  have k_8_10 := hts (.fieldLink RX9 79 "ArrayTrainer" "textSize" "I") (List.mem_cons_of_mem _ (wr8 _ (List.mem_of_getElem? (i := 10) rfl)))
  have k_32_9 := hts (.fieldLink RX9 106 "ArrayTrainer$Step" "place" "I") (List.mem_cons_of_mem _ (wr32 _ (List.mem_of_getElem? (i := 9) rfl)))
  have k_32_22 := hts (.fieldLink RX9 113 "ArrayTrainer$Speller" "size" "I") (List.mem_cons_of_mem _ (wr32 _ (List.mem_of_getElem? (i := 22) rfl)))
  obtain ⟨H, hH⟩ : ∃ H : Heap, H = s.heap := ⟨_, rfl⟩
  obtain ⟨locs, hlc⟩ : ∃ L : List Loc, L = [] := ⟨_, rfl⟩
  have hP : va_P D vwCl (tw cs q v_t_tapeSize v_t_textSize v_t_faultKind a_t_tape a_t_text a_g_beyond v_g_size a_g_steps a_h_beyond v_h_size a_h_steps a_r_scratch a_r_now v_r_takes v_r_negative v_r_namePlace v_r_faultKind v_r_faultPlace v_a_size v_a_limit v_a_digits v_a_kind v_a_from v_a_to v_o_size a_o_out v_b_size v_b_limit v_b_digits v_b_kind v_b_from v_b_to a_u_atom a_u_other a_u_hand v_u_marksMade v_u_came v_u_guesses v_u_right v_u_taken a_u_vars a_u_marks a_u_outcomes a_u_indexes v_s_things v_s_looked v_s_lookedTooOften v_s_arraysMade v_s_cellsMade a_s_classes a_s_starts a_s_lengths a_s_cells a_L a_K a_vc a_vd a_si a_sj a_iv a_inn a_ac) H := by rw [hH]; exact hP
  have hS : va_S A s.heap H locs := by rw [hH, hlc]; exact hS
  refine wHL hH hlc ?_
  have b_k9 := iB k9
  obtain ⟨hRF, hPI, hNow, hLA, hLB, hSTO, ⟨ht0, ht1⟩, ⟨ho0, ho1⟩, hm0, hFB⟩ := id p_0
  refine lv_iload_n hx hb dX9_spell_0 rfl (lv_at hl 1 rfl) ?_
  have J15 : ∀ (H : Heap) (locs : List Loc) (ls : Array Slot), va_P D vwCl (tw cs q v_t_tapeSize v_t_textSize v_t_faultKind a_t_tape a_t_text a_g_beyond v_g_size a_g_steps a_h_beyond v_h_size a_h_steps a_r_scratch a_r_now v_r_takes v_r_negative v_r_namePlace v_r_faultKind v_r_faultPlace v_a_size v_a_limit v_a_digits v_a_kind v_a_from v_a_to v_o_size a_o_out v_b_size v_b_limit v_b_digits v_b_kind v_b_from v_b_to a_u_atom a_u_other a_u_hand v_u_marksMade v_u_came v_u_guesses v_u_right v_u_taken a_u_vars a_u_marks a_u_outcomes a_u_indexes v_s_things v_s_looked v_s_lookedTooOften v_s_arraysMade v_s_cellsMade a_s_classes a_s_starts a_s_lengths a_s_cells a_L a_K a_vc a_vd a_si a_sj a_iv a_inn a_ac) H → va_D A (tw cs q v_t_tapeSize v_t_textSize v_t_faultKind a_t_tape a_t_text a_g_beyond v_g_size a_g_steps a_h_beyond v_h_size a_h_steps a_r_scratch a_r_now v_r_takes v_r_negative v_r_namePlace v_r_faultKind v_r_faultPlace v_a_size v_a_limit v_a_digits v_a_kind v_a_from v_a_to v_o_size a_o_out v_b_size v_b_limit v_b_digits v_b_kind v_b_from v_b_to a_u_atom a_u_other a_u_hand v_u_marksMade v_u_came v_u_guesses v_u_right v_u_taken a_u_vars a_u_marks a_u_outcomes a_u_indexes v_s_things v_s_looked v_s_lookedTooOften v_s_arraysMade v_s_cellsMade a_s_classes a_s_starts a_s_lengths a_s_cells a_L a_K a_vc a_vd a_si a_sj a_iv a_inn a_ac) → va_S A s.heap H locs → lv_has ls 2 [] → W p l e (headSpec (wG yX9_spell cX9_spell 2 (some .int)) rmX9_spell).room s m ([.ref (q 0), .int k9] : List Value).toArray below meth c H locs (0) (0) Q (F0 m 15 ls []) := by
    intro H locs ls hP hD hS hl
    have hT : TRN a_L a_K a_si a_iv a_inn a_g_beyond a_h_beyond a_r_scratch a_g_steps a_h_steps a_u_atom a_u_other a_u_hand a_u_vars a_u_marks a_r_now v_a_size v_a_limit v_a_digits v_a_kind v_a_from v_a_to v_b_size v_b_limit v_b_digits v_b_kind v_b_from v_b_to v_s_things v_s_cellsMade a_s_starts a_s_lengths v_t_tapeSize v_o_size v_u_marksMade a_t_tape := by exact ⟨by assumption, by assumption, (by first | assumption | exact aS.grow hw36_3 hw36_4 (by assumption)), by assumption, by assumption, by assumption, ⟨by omega, by omega⟩, ⟨by omega, by omega⟩, by omega, by assumption⟩
    subst hAe
    rw [hQ]
    exact vx_throw0 (names := exN) (cls := nsE) (own := RX9) hx hb hl9 hown (by decide +kernel) (by decide +kernel) k_32_4 k_32_5 (hat_ns hts hE.2.2.2.2.2.2) gd_ns hE.2.2.2.1 hE.2.2.2.2.1 hS (hl.1.trans hml.symm) dX9_spell_15 dX9_spell_18 dX9_spell_19 dX9_spell_22 (fun x h9 => (hno x h9).elim) (Nat.le_of_ble_eq_true rfl) (Nat.le_of_ble_eq_true rfl) (Nat.le_of_ble_eq_true rfl) (Nat.le_of_ble_eq_true rfl) hlocks (fun t hvm hz hk => ⟨_, ⟨a_g_steps, v_o_size, a_o_out, v_b_size, v_b_limit, v_b_digits, v_b_kind, v_b_from, v_b_to, a_L, a_K, a_si, a_sj, a_iv, a_inn, a_ac, rfl, hT⟩, ⟨rfl, hP.kept (fun k q hq => hk q.1 (hP k q hq).lt), va_K.moved hvm hK, hD⟩, ⟨Nat.le_trans hS.1 hz, fun q hq hn => (hk q (Nat.lt_of_lt_of_le hq hS.1)).trans (hS.2.1 q hq hn)⟩⟩) hS.2.2 (Nat.le_of_ble_eq_true rfl) (Nat.le_of_ble_eq_true rfl)
  refine m_if_lt (X := k9.toInt) (tgt := 15) hx hb dX9_spell_1 (by decide) rfl (fun c1 => ?_) (fun c1 => ?_)
  · skip
    exact J15 H locs ls hP hD hS (lv_sub hl [] rfl)
  · skip
    refine lv_iload_n hx hb dX9_spell_4 rfl (lv_at hl 1 rfl) ?_
    refine lv_aload_n hx hb dX9_spell_5 rfl (lv_at hl 0 rfl) ?_
    refine va_get (D := D) (ci := 8) (v := .ref (q 3)) (C := RX9) (T := TX9) (N := 10) hx hb hts hinX9 hown hK hP 0 rfl rfl 4 (by decide) k_1_19 (fun _ h9 => h9) rfl dX9_spell_6 ?_
    refine va_get (D := D) (ci := 2) (v := .int v_g_size) (C := RX3) (T := TX3) (N := 3) hx hb hts hinX3 hown hK hP 3 rfl rfl 2 (by decide) k_8_11 (fun _ h9 => h9) rfl dX9_spell_9 ?_
    refine m_icmp_lt (X := k9.toInt) (Y := v_g_size.toInt) (tgt := 23) hx hb dX9_spell_12 (by decide) rfl rfl (fun c12 => ?_) (fun c12 => ?_)
    · skip
      refine lv_aload_n hx hb dX9_spell_23 rfl (lv_at hl 0 rfl) ?_
      refine va_get (D := D) (ci := 8) (v := .ref (q 9)) (C := RX9) (T := TX9) (N := 10) hx hb hts hinX9 hown hK hP 0 rfl rfl 8 (by decide) k_2_7 (fun _ h9 => h9) rfl dX9_spell_24 ?_
      refine lv_aload_n hx hb dX9_spell_27 rfl (lv_at hl 0 rfl) ?_
      refine va_get (D := D) (ci := 8) (v := .int v_t_textSize) (C := RX9) (T := TX9) (N := 10) hx hb hts hinX9 hown hK hP 0 rfl rfl 3 (by decide) k_8_10 (fun _ h9 => h9) rfl dX9_spell_28 ?_
      refine lv_aload_n hx hb dX9_spell_31 rfl (lv_at hl 0 rfl) ?_
      refine va_get (D := D) (ci := 8) (v := .ref (q 3)) (C := RX9) (T := TX9) (N := 10) hx hb hts hinX9 hown hK hP 0 rfl rfl 4 (by decide) k_1_19 (fun _ h9 => h9) rfl dX9_spell_32 ?_
      refine lv_iload_n hx hb dX9_spell_35 rfl (lv_at hl 1 rfl) ?_
      refine call_r (As := [.int k9]) (rest := [.int v_t_textSize, .ref (q 9)]) ⟨hx, hb, hml, hown, hts⟩ (tX3_stepAt_qg (l := l) k9 (by first | assumption | omega | (intros; omega) | decide) (by first | assumption | omega | (intros; omega) | decide)) (cwV 1 hts (gV (wr32 _ (List.mem_of_getElem? (i := 10) rfl)) (wr16 _ (List.mem_of_getElem? (i := 1) rfl)) (wr16 _ (List.mem_of_getElem? (i := 2) rfl)) (wr1 _ (List.mem_of_getElem? (i := 18) rfl)) (wr16 _ (List.mem_of_getElem? (i := 3) rfl))) rfl rfl rfl (by decide +kernel) ⟨Nat.le_of_ble_eq_true rfl, Nat.le_of_ble_eq_true rfl⟩) (va_recv hK hP (ci := 2) (q0 := 3) rfl rfl) hK hP hD hE hS hA rfl hl.1 rfl (Nat.le_of_ble_eq_true rfl) dX9_spell_36 ⟨by show _ ≤ 3; omega, by show _ ≤ 21; omega⟩ (fun r36 w9 H locs hw36 hP hD hS => ?_)
      obtain ⟨a_g_steps_36, a_L_36, a_K_36, a_si_36, a_sj_36, a_iv_36, a_inn_36, a_ac_36, rfl, hw36_0, hw36_1, hw36_2, hw36_3, hw36_4⟩ := hw36
      obtain ⟨k39_, hk39_⟩ := pl_S (X := (twX cs q v_t_tapeSize v_t_textSize v_t_faultKind a_t_tape a_t_text a_g_beyond v_g_size a_g_steps_36 a_h_beyond v_h_size a_h_steps a_r_scratch a_r_now v_r_takes v_r_negative v_r_namePlace v_r_faultKind v_r_faultPlace v_a_size v_a_limit v_a_digits v_a_kind v_a_from v_a_to v_o_size a_o_out v_b_size v_b_limit v_b_digits v_b_kind v_b_from v_b_to a_u_atom a_u_other a_u_hand v_u_marksMade v_u_came v_u_guesses v_u_right v_u_taken a_u_vars a_u_marks a_u_outcomes a_u_indexes v_s_things v_s_looked v_s_lookedTooOften v_s_arraysMade v_s_cellsMade a_s_classes a_s_starts a_s_lengths a_s_cells)) (cI := cs 0) (vc := a_vc) (vd := a_vd) (si := a_si_36) (sj := a_sj_36) (iv := a_iv_36) (inn := a_inn_36) (ac := a_ac_36) hw36_0
      refine va_get (D := D) (ci := 5) (v := .int (a_si_36 r36 3)) (C := RX6) (T := TX6) (N := 15) hx hb hts hinX6 hown hK hP k39_ hk39_ rfl 3 (by decide) k_32_9 (fun _ h9 => h9) rfl dX9_spell_39 ?_
      refine lv_topi (fun x39 e_x39 => ?_)
      have b_x39 := iB x39
      refine call_v (As := [.int v_t_textSize, .int x39]) (rest := []) ⟨hx, hb, hml, hown, hts⟩ (tX5_write (l := l) v_t_textSize x39 (by first | assumption | omega | (intros; omega) | decide) (by first | assumption | omega | (intros; omega) | decide) (by first | assumption | omega | (intros; omega) | decide)) (cwV 2 hts (gV (wr32 _ (List.mem_of_getElem? (i := 23) rfl)) (wr33 _ (List.mem_of_getElem? (i := 0) rfl)) (wr33 _ (List.mem_of_getElem? (i := 1) rfl)) (wr2 _ (List.mem_of_getElem? (i := 6) rfl)) (wr33 _ (List.mem_of_getElem? (i := 2) rfl))) rfl rfl rfl (by decide +kernel) ⟨Nat.le_of_ble_eq_true rfl, Nat.le_of_ble_eq_true rfl⟩) (va_recv hK hP (ci := 4) (q0 := 9) rfl rfl) hK hP hD hE hS hA rfl hl.1 rfl (Nat.le_of_ble_eq_true rfl) dX9_spell_42 ⟨by show _ ≤ 3; omega, by show _ ≤ 21; omega⟩ (fun w9 H locs hw42 hP hD hS => ?_)
      obtain ⟨v_o_size_42, a_o_out_42, v_b_size_42, v_b_limit_42, v_b_digits_42, v_b_kind_42, v_b_from_42, v_b_to_42, rfl, hw42_0, hw42_1, hw42_2⟩ := hw42
      have b_v_o_size_42 := iB v_o_size_42
      have b_v_b_size_42 := iB v_b_size_42
      have b_v_b_limit_42 := iB v_b_limit_42
      have b_v_b_digits_42 := iB v_b_digits_42
      have b_v_b_kind_42 := iB v_b_kind_42
      have b_v_b_from_42 := iB v_b_from_42
      have b_v_b_to_42 := iB v_b_to_42
      refine lv_aload_n hx hb dX9_spell_45 rfl (lv_at hl 0 rfl) ?_
      refine va_get (D := D) (ci := 8) (v := .ref (q 9)) (C := RX9) (T := TX9) (N := 10) hx hb hts hinX9 hown hK hP 0 rfl rfl 8 (by decide) k_2_7 (fun _ h9 => h9) rfl dX9_spell_46 ?_
      refine va_get (D := D) (ci := 4) (v := .int v_o_size_42) (C := RX5) (T := TX5) (N := 3) hx hb hts hinX5 hown hK hP 9 rfl rfl 2 (by decide) k_32_22 (fun _ h9 => h9) rfl dX9_spell_49 ?_
      refine W.widen (k := 3) (n := 21) (by omega) (by omega) ?_
      subst hAe
      rw [hQ]
      refine vx_ret ?_
      exact W.iret (v := v_o_size_42) hx hb hr (fun t ht hW => ⟨⟨v_o_size_42, _, rfl, ⟨a_g_steps_36, v_o_size_42, a_o_out_42, v_b_size_42, v_b_limit_42, v_b_digits_42, v_b_kind_42, v_b_from_42, v_b_to_42, a_L_36, a_K_36, a_si_36, a_sj_36, a_iv_36, a_inn_36, a_ac_36, rfl, by exact ⟨by assumption, by assumption, (by first | assumption | exact aS.grow hw36_3 hw36_4 (by assumption)), by assumption, by assumption, by assumption, ⟨by omega, by omega⟩, ⟨by omega, by omega⟩, by omega, by assumption⟩⟩, by rw [ht]; exact hP, va_K.moved hW.alike hK, hD⟩, hS.F ht⟩) hS.2.2 dX9_spell_52
    · skip
      exact J15 H locs ls hP hD hS (lv_sub hl [] rfl)

def rmX9_octet : Room := { frames := 40, cells := 1, slots := 6, locals := 800 }
set_option maxHeartbeats 4000000 in
set_option maxRecDepth 100000 in
theorem tX9_octet {l : Launch} (hl9 : l.stackTraces = false) {D : va_G} {K : Nat → Nat → Nat} {cs : Nat → ClassId} {q : Nat → Nat} {v_t_tapeSize v_t_textSize v_t_faultKind v_g_size v_h_size v_r_takes v_r_negative v_r_namePlace v_r_faultKind v_r_faultPlace v_a_size v_a_limit v_a_digits v_a_kind v_a_from v_a_to v_o_size v_b_size v_b_limit v_b_digits v_b_kind v_b_from v_b_to v_u_marksMade v_u_came v_u_guesses v_u_right v_u_taken v_s_things v_s_looked v_s_lookedTooOften v_s_arraysMade v_s_cellsMade : Int32} {a_t_tape a_t_text a_o_out a_u_outcomes a_u_indexes a_s_classes a_s_starts a_s_lengths a_vc : Nat → Int32} {a_g_beyond a_h_beyond a_r_scratch a_r_now a_u_atom a_u_other a_u_hand : Nat} {a_g_steps a_h_steps a_u_vars a_u_marks : Nat → Option Nat} {a_s_cells a_vd a_sj : Nat → Int64} {a_L : List Nat} {a_K a_iv a_inn : Nat → Nat} {a_si a_ac : Nat → Nat → Int32} (i9 : Int32) (p_0 : TRN a_L a_K a_si a_iv a_inn a_g_beyond a_h_beyond a_r_scratch a_g_steps a_h_steps a_u_atom a_u_other a_u_hand a_u_vars a_u_marks a_r_now v_a_size v_a_limit v_a_digits v_a_kind v_a_from v_a_to v_b_size v_b_limit v_b_digits v_b_kind v_b_from v_b_to v_s_things v_s_cellsMade a_s_starts a_s_lengths v_t_tapeSize v_o_size v_u_marksMade a_t_tape) : CtIX l yX9_octet (wG yX9_octet cX9_octet 2 (some .int)) rmX9_octet D (twT cs) K [.ref (q 0), .int i9] (tw cs q v_t_tapeSize v_t_textSize v_t_faultKind a_t_tape a_t_text a_g_beyond v_g_size a_g_steps a_h_beyond v_h_size a_h_steps a_r_scratch a_r_now v_r_takes v_r_negative v_r_namePlace v_r_faultKind v_r_faultPlace v_a_size v_a_limit v_a_digits v_a_kind v_a_from v_a_to v_o_size a_o_out v_b_size v_b_limit v_b_digits v_b_kind v_b_from v_b_to a_u_atom a_u_other a_u_hand v_u_marksMade v_u_came v_u_guesses v_u_right v_u_taken a_u_vars a_u_marks a_u_outcomes a_u_indexes v_s_things v_s_looked v_s_lookedTooOften v_s_arraysMade v_s_cellsMade a_s_classes a_s_starts a_s_lengths a_s_cells a_L a_K a_vc a_vd a_si a_sj a_iv a_inn a_ac) (fun r w1 => w1 = (tw cs q v_t_tapeSize v_t_textSize v_t_faultKind a_t_tape a_t_text a_g_beyond v_g_size a_g_steps a_h_beyond v_h_size a_h_steps a_r_scratch a_r_now v_r_takes v_r_negative v_r_namePlace v_r_faultKind v_r_faultPlace v_a_size v_a_limit v_a_digits v_a_kind v_a_from v_a_to v_o_size a_o_out v_b_size v_b_limit v_b_digits v_b_kind v_b_from v_b_to a_u_atom a_u_other a_u_hand v_u_marksMade v_u_came v_u_guesses v_u_right v_u_taken a_u_vars a_u_marks a_u_outcomes a_u_indexes v_s_things v_s_looked v_s_lookedTooOften v_s_arraysMade v_s_cellsMade a_s_classes a_s_starts a_s_lengths a_s_cells a_L a_K a_vc a_vd a_si a_sj a_iv a_inn a_ac) ∧ (TRN a_L a_K a_si a_iv a_inn a_g_beyond a_h_beyond a_r_scratch a_g_steps a_h_steps a_u_atom a_u_other a_u_hand a_u_vars a_u_marks a_r_now v_a_size v_a_limit v_a_digits v_a_kind v_a_from v_a_to v_b_size v_b_limit v_b_digits v_b_kind v_b_from v_b_to v_s_things v_s_cellsMade a_s_starts a_s_lengths v_t_tapeSize v_o_size v_u_marksMade a_t_tape)) nsE (fun w1 => w1 = (tw cs q v_t_tapeSize v_t_textSize v_t_faultKind a_t_tape a_t_text a_g_beyond v_g_size a_g_steps a_h_beyond v_h_size a_h_steps a_r_scratch a_r_now v_r_takes v_r_negative v_r_namePlace v_r_faultKind v_r_faultPlace v_a_size v_a_limit v_a_digits v_a_kind v_a_from v_a_to v_o_size a_o_out v_b_size v_b_limit v_b_digits v_b_kind v_b_from v_b_to a_u_atom a_u_other a_u_hand v_u_marksMade v_u_came v_u_guesses v_u_right v_u_taken a_u_vars a_u_marks a_u_outcomes a_u_indexes v_s_things v_s_looked v_s_lookedTooOften v_s_arraysMade v_s_cellsMade a_s_classes a_s_starts a_s_lengths a_s_cells a_L a_K a_vc a_vd a_si a_sj a_iv a_inn a_ac) ∧ (TRN a_L a_K a_si a_iv a_inn a_g_beyond a_h_beyond a_r_scratch a_g_steps a_h_steps a_u_atom a_u_other a_u_hand a_u_vars a_u_marks a_r_now v_a_size v_a_limit v_a_digits v_a_kind v_a_from v_a_to v_b_size v_b_limit v_b_digits v_b_kind v_b_from v_b_to v_s_things v_s_cellsMade a_s_starts a_s_lengths v_t_tapeSize v_o_size v_u_marksMade a_t_tape)) 1 6 := by
  intro sz
  refine vx_ofW (cc := cX9_octet) (maxL := 2) (ret := (some .int)) (by decide) rfl ?_
  intro p e s m args below meth c s₁ B hml hno hv
  obtain ⟨rfl, hsz, hP, hK, hD0, hE⟩ := hv
  have hx := B.exec
  have hb := B.bytes
  have hr := B.returns
  have hts := atoms_spec (ws := (wG yX9_octet cX9_octet 2 (some .int))) B.pre
  have hown : s.vm.findClass RX9 = some m.cls := findClass_of_methodNamed B.named
  have hlocks := B.notSynchronized
  subst hsz
  have hD := hD0.self (sz := s.heap.size)
  obtain ⟨A, hAe⟩ : ∃ A : Nat → Prop, A = va_A (tw cs q v_t_tapeSize v_t_textSize v_t_faultKind a_t_tape a_t_text a_g_beyond v_g_size a_g_steps a_h_beyond v_h_size a_h_steps a_r_scratch a_r_now v_r_takes v_r_negative v_r_namePlace v_r_faultKind v_r_faultPlace v_a_size v_a_limit v_a_digits v_a_kind v_a_from v_a_to v_o_size a_o_out v_b_size v_b_limit v_b_digits v_b_kind v_b_from v_b_to a_u_atom a_u_other a_u_hand v_u_marksMade v_u_came v_u_guesses v_u_right v_u_taken a_u_vars a_u_marks a_u_outcomes a_u_indexes v_s_things v_s_looked v_s_lookedTooOften v_s_arraysMade v_s_cellsMade a_s_classes a_s_starts a_s_lengths a_s_cells a_L a_K a_vc a_vd a_si a_sj a_iv a_inn a_ac) s.heap.size := ⟨_, rfl⟩
  rw [← hAe] at hD hE
  have hA : ∀ q : Nat, s.heap.size ≤ q → A q := fun q h => by rw [hAe]; exact Or.inr h
  have hS : va_S A s.heap s.heap [] := va_S.rf
  have hl := lv_entry ([.ref (q 0), .int i9]) (n := 2) (Nat.le_of_ble_eq_true rfl)
  rw [lg_entry_eq]
  generalize (lg_sl ([.ref (q 0), .int i9]) ++ List.replicate (2 - (lg_sl ([.ref (q 0), .int i9])).length) Slot.unset).toArray = ls at hl ⊢
  have hl : lv_has ls 2 [(0, .ref (q 0)), (1, .int i9)] := hl
  refine wq (fun Q hQ => ?_)
  have hinX5 : ∀ w ∈ wsX50, w ∈ (wG yX9_octet cX9_octet 2 (some .int)) := fun w h => List.mem_cons_of_mem _ (inlX5 w h)
  have hinX9 : ∀ w ∈ wsX90, w ∈ (wG yX9_octet cX9_octet 2 (some .int)) := fun w h => List.mem_cons_of_mem _ (inlX9 w h)
  have k_32_4 := hts (.classLink RX9 88 "java/util/NoSuchElementException") (List.mem_cons_of_mem _ (wr32 _ (List.mem_of_getElem? (i := 4) rfl)))
  have k_32_5 := hts (.initialized "java/util/NoSuchElementException") (List.mem_cons_of_mem _ (wr32 _ (List.mem_of_getElem? (i := 5) rfl)))
  have k_2_7 := hts (.fieldLink RX9 43 "ArrayTrainer" "speller" "LArrayTrainer$Speller;") (List.mem_cons_of_mem _ (wr2 _ (List.mem_of_getElem? (i := 7) rfl)))
  have k_32_22 := hts (.fieldLink RX9 113 "ArrayTrainer$Speller" "size" "I") (List.mem_cons_of_mem _ (wr32 _ (List.mem_of_getElem? (i := 22) rfl)))
  obtain ⟨H, hH⟩ : ∃ H : Heap, H = s.heap := ⟨_, rfl⟩
  obtain ⟨locs, hlc⟩ : ∃ L : List Loc, L = [] := ⟨_, rfl⟩
  have hP : va_P D vwCl (tw cs q v_t_tapeSize v_t_textSize v_t_faultKind a_t_tape a_t_text a_g_beyond v_g_size a_g_steps a_h_beyond v_h_size a_h_steps a_r_scratch a_r_now v_r_takes v_r_negative v_r_namePlace v_r_faultKind v_r_faultPlace v_a_size v_a_limit v_a_digits v_a_kind v_a_from v_a_to v_o_size a_o_out v_b_size v_b_limit v_b_digits v_b_kind v_b_from v_b_to a_u_atom a_u_other a_u_hand v_u_marksMade v_u_came v_u_guesses v_u_right v_u_taken a_u_vars a_u_marks a_u_outcomes a_u_indexes v_s_things v_s_looked v_s_lookedTooOften v_s_arraysMade v_s_cellsMade a_s_classes a_s_starts a_s_lengths a_s_cells a_L a_K a_vc a_vd a_si a_sj a_iv a_inn a_ac) H := by rw [hH]; exact hP
  have hS : va_S A s.heap H locs := by rw [hH, hlc]; exact hS
  refine wHL hH hlc ?_
  have b_i9 := iB i9
  obtain ⟨hRF, hPI, hNow, hLA, hLB, hSTO, ⟨ht0, ht1⟩, ⟨ho0, ho1⟩, hm0, hFB⟩ := id p_0
  refine lv_iload_n hx hb dX9_octet_0 rfl (lv_at hl 1 rfl) ?_
  have J15 : ∀ (H : Heap) (locs : List Loc) (ls : Array Slot), va_P D vwCl (tw cs q v_t_tapeSize v_t_textSize v_t_faultKind a_t_tape a_t_text a_g_beyond v_g_size a_g_steps a_h_beyond v_h_size a_h_steps a_r_scratch a_r_now v_r_takes v_r_negative v_r_namePlace v_r_faultKind v_r_faultPlace v_a_size v_a_limit v_a_digits v_a_kind v_a_from v_a_to v_o_size a_o_out v_b_size v_b_limit v_b_digits v_b_kind v_b_from v_b_to a_u_atom a_u_other a_u_hand v_u_marksMade v_u_came v_u_guesses v_u_right v_u_taken a_u_vars a_u_marks a_u_outcomes a_u_indexes v_s_things v_s_looked v_s_lookedTooOften v_s_arraysMade v_s_cellsMade a_s_classes a_s_starts a_s_lengths a_s_cells a_L a_K a_vc a_vd a_si a_sj a_iv a_inn a_ac) H → va_D A (tw cs q v_t_tapeSize v_t_textSize v_t_faultKind a_t_tape a_t_text a_g_beyond v_g_size a_g_steps a_h_beyond v_h_size a_h_steps a_r_scratch a_r_now v_r_takes v_r_negative v_r_namePlace v_r_faultKind v_r_faultPlace v_a_size v_a_limit v_a_digits v_a_kind v_a_from v_a_to v_o_size a_o_out v_b_size v_b_limit v_b_digits v_b_kind v_b_from v_b_to a_u_atom a_u_other a_u_hand v_u_marksMade v_u_came v_u_guesses v_u_right v_u_taken a_u_vars a_u_marks a_u_outcomes a_u_indexes v_s_things v_s_looked v_s_lookedTooOften v_s_arraysMade v_s_cellsMade a_s_classes a_s_starts a_s_lengths a_s_cells a_L a_K a_vc a_vd a_si a_sj a_iv a_inn a_ac) → va_S A s.heap H locs → lv_has ls 2 [] → W p l e (headSpec (wG yX9_octet cX9_octet 2 (some .int)) rmX9_octet).room s m ([.ref (q 0), .int i9] : List Value).toArray below meth c H locs (0) (0) Q (F0 m 15 ls []) := by
    intro H locs ls hP hD hS hl
    have hT : TRN a_L a_K a_si a_iv a_inn a_g_beyond a_h_beyond a_r_scratch a_g_steps a_h_steps a_u_atom a_u_other a_u_hand a_u_vars a_u_marks a_r_now v_a_size v_a_limit v_a_digits v_a_kind v_a_from v_a_to v_b_size v_b_limit v_b_digits v_b_kind v_b_from v_b_to v_s_things v_s_cellsMade a_s_starts a_s_lengths v_t_tapeSize v_o_size v_u_marksMade a_t_tape := by exact ⟨by assumption, by assumption, by assumption, by assumption, by assumption, by assumption, ⟨by omega, by omega⟩, ⟨by omega, by omega⟩, by omega, by assumption⟩
    subst hAe
    rw [hQ]
    exact vx_throw0 (names := exN) (cls := nsE) (own := RX9) hx hb hl9 hown (by decide +kernel) (by decide +kernel) k_32_4 k_32_5 (hat_ns hts hE.2.2.2.2.2.2) gd_ns hE.2.2.2.1 hE.2.2.2.2.1 hS (hl.1.trans hml.symm) dX9_octet_15 dX9_octet_18 dX9_octet_19 dX9_octet_22 (fun x h9 => (hno x h9).elim) (Nat.le_of_ble_eq_true rfl) (Nat.le_of_ble_eq_true rfl) (Nat.le_of_ble_eq_true rfl) (Nat.le_of_ble_eq_true rfl) hlocks (fun t hvm hz hk => ⟨_, ⟨rfl, hT⟩, ⟨rfl, hP.kept (fun k q hq => hk q.1 (hP k q hq).lt), va_K.moved hvm hK, hD⟩, ⟨Nat.le_trans hS.1 hz, fun q hq hn => (hk q (Nat.lt_of_lt_of_le hq hS.1)).trans (hS.2.1 q hq hn)⟩⟩) hS.2.2 (Nat.le_of_ble_eq_true rfl) (Nat.le_of_ble_eq_true rfl)
  refine m_if_lt (X := i9.toInt) (tgt := 15) hx hb dX9_octet_1 (by decide) rfl (fun c1 => ?_) (fun c1 => ?_)
  · skip
    exact J15 H locs ls hP hD hS (lv_sub hl [] rfl)
  · skip
    refine lv_iload_n hx hb dX9_octet_4 rfl (lv_at hl 1 rfl) ?_
    refine lv_aload_n hx hb dX9_octet_5 rfl (lv_at hl 0 rfl) ?_
    refine va_get (D := D) (ci := 8) (v := .ref (q 9)) (C := RX9) (T := TX9) (N := 10) hx hb hts hinX9 hown hK hP 0 rfl rfl 8 (by decide) k_2_7 (fun _ h9 => h9) rfl dX9_octet_6 ?_
    refine va_get (D := D) (ci := 4) (v := .int v_o_size) (C := RX5) (T := TX5) (N := 3) hx hb hts hinX5 hown hK hP 9 rfl rfl 2 (by decide) k_32_22 (fun _ h9 => h9) rfl dX9_octet_9 ?_
    refine m_icmp_lt (X := i9.toInt) (Y := v_o_size.toInt) (tgt := 23) hx hb dX9_octet_12 (by decide) rfl rfl (fun c12 => ?_) (fun c12 => ?_)
    · skip
      refine lv_aload_n hx hb dX9_octet_23 rfl (lv_at hl 0 rfl) ?_
      refine va_get (D := D) (ci := 8) (v := .ref (q 9)) (C := RX9) (T := TX9) (N := 10) hx hb hts hinX9 hown hK hP 0 rfl rfl 8 (by decide) k_2_7 (fun _ h9 => h9) rfl dX9_octet_24 ?_
      refine lv_iload_n hx hb dX9_octet_27 rfl (lv_at hl 1 rfl) ?_
      refine call_i (As := [.int i9]) (rest := []) ⟨hx, hb, hml, hown, hts⟩ (tX5_byteAt (l := l) i9 (by first | assumption | omega | (intros; omega) | decide) (by first | assumption | omega | (intros; omega) | decide)) (cwV 1 hts (gV (wr34 _ (List.mem_of_getElem? (i := 21) rfl)) (wr34 _ (List.mem_of_getElem? (i := 22) rfl)) (wr34 _ (List.mem_of_getElem? (i := 23) rfl)) (wr2 _ (List.mem_of_getElem? (i := 6) rfl)) (wr35 _ (List.mem_of_getElem? (i := 0) rfl))) rfl rfl rfl (by decide +kernel) ⟨Nat.le_of_ble_eq_true rfl, Nat.le_of_ble_eq_true rfl⟩) (va_recv hK hP (ci := 4) (q0 := 9) rfl rfl) hK hP hD hE hS hA rfl hl.1 rfl (Nat.le_of_ble_eq_true rfl) dX9_octet_28 ⟨by show _ ≤ 1; omega, by show _ ≤ 6; omega⟩ (fun r28 w9 H locs hw28 hP hD hS => ?_)
      obtain ⟨rfl⟩ := hw28
      have b_r28 := iB r28
      refine W.widen (k := 1) (n := 6) (by omega) (by omega) ?_
      subst hAe
      rw [hQ]
      refine vx_ret ?_
      exact W.iret (v := r28) hx hb hr (fun t ht hW => ⟨⟨r28, _, rfl, ⟨rfl, by exact ⟨by assumption, by assumption, by assumption, by assumption, by assumption, by assumption, ⟨by omega, by omega⟩, ⟨by omega, by omega⟩, by omega, by assumption⟩⟩, by rw [ht]; exact hP, va_K.moved hW.alike hK, hD⟩, hS.F ht⟩) hS.2.2 dX9_octet_31
    · skip
      exact J15 H locs ls hP hD hS (lv_sub hl [] rfl)

def rmX9_run : Room := { frames := 220, cells := 306, slots := 2142, locals := 4400 }
set_option maxHeartbeats 4000000 in
set_option maxRecDepth 100000 in
theorem tX9_run {l : Launch} (hl9 : l.stackTraces = false) {D : va_G} {K : Nat → Nat → Nat} {cs : Nat → ClassId} {q : Nat → Nat} {v_t_tapeSize v_t_textSize v_t_faultKind v_g_size v_h_size v_r_takes v_r_negative v_r_namePlace v_r_faultKind v_r_faultPlace v_a_size v_a_limit v_a_digits v_a_kind v_a_from v_a_to v_o_size v_b_size v_b_limit v_b_digits v_b_kind v_b_from v_b_to v_u_marksMade v_u_came v_u_guesses v_u_right v_u_taken v_s_things v_s_looked v_s_lookedTooOften v_s_arraysMade v_s_cellsMade : Int32} {a_t_tape a_t_text a_o_out a_u_outcomes a_u_indexes a_s_classes a_s_starts a_s_lengths a_vc : Nat → Int32} {a_g_beyond a_h_beyond a_r_scratch a_r_now a_u_atom a_u_other a_u_hand : Nat} {a_g_steps a_h_steps a_u_vars a_u_marks : Nat → Option Nat} {a_s_cells a_vd a_sj : Nat → Int64} {a_L : List Nat} {a_K a_iv a_inn : Nat → Nat} {a_si a_ac : Nat → Nat → Int32} (p_0 : TRN a_L a_K a_si a_iv a_inn a_g_beyond a_h_beyond a_r_scratch a_g_steps a_h_steps a_u_atom a_u_other a_u_hand a_u_vars a_u_marks a_r_now v_a_size v_a_limit v_a_digits v_a_kind v_a_from v_a_to v_b_size v_b_limit v_b_digits v_b_kind v_b_from v_b_to v_s_things v_s_cellsMade a_s_starts a_s_lengths v_t_tapeSize v_o_size v_u_marksMade a_t_tape) : CtIX l yX9_run (wG yX9_run cX9_run 1 (some .int)) rmX9_run D (twT cs) K [.ref (q 0)] (tw cs q v_t_tapeSize v_t_textSize v_t_faultKind a_t_tape a_t_text a_g_beyond v_g_size a_g_steps a_h_beyond v_h_size a_h_steps a_r_scratch a_r_now v_r_takes v_r_negative v_r_namePlace v_r_faultKind v_r_faultPlace v_a_size v_a_limit v_a_digits v_a_kind v_a_from v_a_to v_o_size a_o_out v_b_size v_b_limit v_b_digits v_b_kind v_b_from v_b_to a_u_atom a_u_other a_u_hand v_u_marksMade v_u_came v_u_guesses v_u_right v_u_taken a_u_vars a_u_marks a_u_outcomes a_u_indexes v_s_things v_s_looked v_s_lookedTooOften v_s_arraysMade v_s_cellsMade a_s_classes a_s_starts a_s_lengths a_s_cells a_L a_K a_vc a_vd a_si a_sj a_iv a_inn a_ac) (fun r w1 => ∃ (a_g_steps' : Nat → Option Nat) (v_u_marksMade' : Int32) (v_u_came' : Int32) (v_u_guesses' : Int32) (v_u_right' : Int32) (v_u_taken' : Int32) (a_u_outcomes' : Nat → Int32) (a_u_indexes' : Nat → Int32) (v_s_things' : Int32) (v_s_looked' : Int32) (v_s_lookedTooOften' : Int32) (v_s_arraysMade' : Int32) (v_s_cellsMade' : Int32) (a_s_classes' : Nat → Int32) (a_s_starts' : Nat → Int32) (a_s_lengths' : Nat → Int32) (a_s_cells' : Nat → Int64) (a_L' : List Nat) (a_K' : Nat → Nat) (a_vc' : Nat → Int32) (a_vd' : Nat → Int64) (a_si' : Nat → Nat → Int32) (a_sj' : Nat → Int64) (a_iv' : Nat → Nat) (a_inn' : Nat → Nat) (a_ac' : Nat → Nat → Int32), w1 = (tw cs q v_t_tapeSize v_t_textSize v_t_faultKind a_t_tape a_t_text a_g_beyond v_g_size a_g_steps' a_h_beyond v_h_size a_h_steps a_r_scratch a_r_now v_r_takes v_r_negative v_r_namePlace v_r_faultKind v_r_faultPlace v_a_size v_a_limit v_a_digits v_a_kind v_a_from v_a_to v_o_size a_o_out v_b_size v_b_limit v_b_digits v_b_kind v_b_from v_b_to a_u_atom a_u_other a_u_hand v_u_marksMade' v_u_came' v_u_guesses' v_u_right' v_u_taken' a_u_vars a_u_marks a_u_outcomes' a_u_indexes' v_s_things' v_s_looked' v_s_lookedTooOften' v_s_arraysMade' v_s_cellsMade' a_s_classes' a_s_starts' a_s_lengths' a_s_cells' a_L' a_K' a_vc' a_vd' a_si' a_sj' a_iv' a_inn' a_ac') ∧ (TRN a_L' a_K' a_si' a_iv' a_inn' a_g_beyond a_h_beyond a_r_scratch a_g_steps' a_h_steps a_u_atom a_u_other a_u_hand a_u_vars a_u_marks a_r_now v_a_size v_a_limit v_a_digits v_a_kind v_a_from v_a_to v_b_size v_b_limit v_b_digits v_b_kind v_b_from v_b_to v_s_things' v_s_cellsMade' a_s_starts' a_s_lengths' v_t_tapeSize v_o_size v_u_marksMade' a_t_tape)) isE (fun w1 => ∃ (a_g_steps' : Nat → Option Nat) (v_u_marksMade' : Int32) (v_u_came' : Int32) (v_u_guesses' : Int32) (v_u_right' : Int32) (v_u_taken' : Int32) (a_u_outcomes' : Nat → Int32) (a_u_indexes' : Nat → Int32) (v_s_things' : Int32) (v_s_looked' : Int32) (v_s_lookedTooOften' : Int32) (v_s_arraysMade' : Int32) (v_s_cellsMade' : Int32) (a_s_classes' : Nat → Int32) (a_s_starts' : Nat → Int32) (a_s_lengths' : Nat → Int32) (a_s_cells' : Nat → Int64) (a_L' : List Nat) (a_K' : Nat → Nat) (a_vc' : Nat → Int32) (a_vd' : Nat → Int64) (a_si' : Nat → Nat → Int32) (a_sj' : Nat → Int64) (a_iv' : Nat → Nat) (a_inn' : Nat → Nat) (a_ac' : Nat → Nat → Int32), w1 = (tw cs q v_t_tapeSize v_t_textSize v_t_faultKind a_t_tape a_t_text a_g_beyond v_g_size a_g_steps' a_h_beyond v_h_size a_h_steps a_r_scratch a_r_now v_r_takes v_r_negative v_r_namePlace v_r_faultKind v_r_faultPlace v_a_size v_a_limit v_a_digits v_a_kind v_a_from v_a_to v_o_size a_o_out v_b_size v_b_limit v_b_digits v_b_kind v_b_from v_b_to a_u_atom a_u_other a_u_hand v_u_marksMade' v_u_came' v_u_guesses' v_u_right' v_u_taken' a_u_vars a_u_marks a_u_outcomes' a_u_indexes' v_s_things' v_s_looked' v_s_lookedTooOften' v_s_arraysMade' v_s_cellsMade' a_s_classes' a_s_starts' a_s_lengths' a_s_cells' a_L' a_K' a_vc' a_vd' a_si' a_sj' a_iv' a_inn' a_ac') ∧ (TRN a_L' a_K' a_si' a_iv' a_inn' a_g_beyond a_h_beyond a_r_scratch a_g_steps' a_h_steps a_u_atom a_u_other a_u_hand a_u_vars a_u_marks a_r_now v_a_size v_a_limit v_a_digits v_a_kind v_a_from v_a_to v_b_size v_b_limit v_b_digits v_b_kind v_b_from v_b_to v_s_things' v_s_cellsMade' a_s_starts' a_s_lengths' v_t_tapeSize v_o_size v_u_marksMade' a_t_tape)) 306 2142 := by
  intro sz
  refine vx_ofW (cc := cX9_run) (maxL := 1) (ret := (some .int)) (by decide) rfl ?_
  intro p e s m args below meth c s₁ B hml hno hv
  obtain ⟨rfl, hsz, hP, hK, hD0, hE⟩ := hv
  have hx := B.exec
  have hb := B.bytes
  have hr := B.returns
  have hts := atoms_spec (ws := (wG yX9_run cX9_run 1 (some .int))) B.pre
  have hown : s.vm.findClass RX9 = some m.cls := findClass_of_methodNamed B.named
  have hlocks := B.notSynchronized
  subst hsz
  have hD := hD0.self (sz := s.heap.size)
  obtain ⟨A, hAe⟩ : ∃ A : Nat → Prop, A = va_A (tw cs q v_t_tapeSize v_t_textSize v_t_faultKind a_t_tape a_t_text a_g_beyond v_g_size a_g_steps a_h_beyond v_h_size a_h_steps a_r_scratch a_r_now v_r_takes v_r_negative v_r_namePlace v_r_faultKind v_r_faultPlace v_a_size v_a_limit v_a_digits v_a_kind v_a_from v_a_to v_o_size a_o_out v_b_size v_b_limit v_b_digits v_b_kind v_b_from v_b_to a_u_atom a_u_other a_u_hand v_u_marksMade v_u_came v_u_guesses v_u_right v_u_taken a_u_vars a_u_marks a_u_outcomes a_u_indexes v_s_things v_s_looked v_s_lookedTooOften v_s_arraysMade v_s_cellsMade a_s_classes a_s_starts a_s_lengths a_s_cells a_L a_K a_vc a_vd a_si a_sj a_iv a_inn a_ac) s.heap.size := ⟨_, rfl⟩
  rw [← hAe] at hD hE
  have hA : ∀ q : Nat, s.heap.size ≤ q → A q := fun q h => by rw [hAe]; exact Or.inr h
  have hS : va_S A s.heap s.heap [] := va_S.rf
  have hl := lv_entry ([.ref (q 0)]) (n := 1) (Nat.le_of_ble_eq_true rfl)
  rw [lg_entry_eq]
  generalize (lg_sl ([.ref (q 0)]) ++ List.replicate (1 - (lg_sl ([.ref (q 0)])).length) Slot.unset).toArray = ls at hl ⊢
  have hl : lv_has ls 1 [(0, .ref (q 0))] := hl
  refine wq (fun Q hQ => ?_)
  have hinX3 : ∀ w ∈ wsX30, w ∈ (wG yX9_run cX9_run 1 (some .int)) := fun w h => List.mem_cons_of_mem _ (inlX3 w h)
  have hinX9 : ∀ w ∈ wsX90, w ∈ (wG yX9_run cX9_run 1 (some .int)) := fun w h => List.mem_cons_of_mem _ (inlX9 w h)
  have k_1_19 := hts (.fieldLink RX9 19 "ArrayTrainer" "program" "LArrayTrainer$Program;") (List.mem_cons_of_mem _ (wr1 _ (List.mem_of_getElem? (i := 19) rfl)))
  have k_8_11 := hts (.fieldLink RX9 85 "ArrayTrainer$Program" "size" "I") (List.mem_cons_of_mem _ (wr8 _ (List.mem_of_getElem? (i := 11) rfl)))
  have k_2_11 := hts (.fieldLink RX9 50 "ArrayTrainer" "runner" "LArrayTrainer$Runner;") (List.mem_cons_of_mem _ (wr2 _ (List.mem_of_getElem? (i := 11) rfl)))
  have k_35_13 := hts (.classLink RX9 118 "java/lang/IllegalStateException") (List.mem_cons_of_mem _ (wr35 _ (List.mem_of_getElem? (i := 13) rfl)))
  have k_35_14 := hts (.initialized "java/lang/IllegalStateException") (List.mem_cons_of_mem _ (wr35 _ (List.mem_of_getElem? (i := 14) rfl)))
  obtain ⟨H, hH⟩ : ∃ H : Heap, H = s.heap := ⟨_, rfl⟩
  obtain ⟨locs, hlc⟩ : ∃ L : List Loc, L = [] := ⟨_, rfl⟩
  have hP : va_P D vwCl (tw cs q v_t_tapeSize v_t_textSize v_t_faultKind a_t_tape a_t_text a_g_beyond v_g_size a_g_steps a_h_beyond v_h_size a_h_steps a_r_scratch a_r_now v_r_takes v_r_negative v_r_namePlace v_r_faultKind v_r_faultPlace v_a_size v_a_limit v_a_digits v_a_kind v_a_from v_a_to v_o_size a_o_out v_b_size v_b_limit v_b_digits v_b_kind v_b_from v_b_to a_u_atom a_u_other a_u_hand v_u_marksMade v_u_came v_u_guesses v_u_right v_u_taken a_u_vars a_u_marks a_u_outcomes a_u_indexes v_s_things v_s_looked v_s_lookedTooOften v_s_arraysMade v_s_cellsMade a_s_classes a_s_starts a_s_lengths a_s_cells a_L a_K a_vc a_vd a_si a_sj a_iv a_inn a_ac) H := by rw [hH]; exact hP
  have hS : va_S A s.heap H locs := by rw [hH, hlc]; exact hS
  refine wHL hH hlc ?_
  obtain ⟨hRF, hPI, hNow, hLA, hLB, hSTO, ⟨ht0, ht1⟩, ⟨ho0, ho1⟩, hm0, hFB⟩ := id p_0
  refine lv_aload_n hx hb dX9_run_0 rfl (lv_at hl 0 rfl) ?_
  refine va_get (D := D) (ci := 8) (v := .ref (q 3)) (C := RX9) (T := TX9) (N := 10) hx hb hts hinX9 hown hK hP 0 rfl rfl 4 (by decide) k_1_19 (fun _ h9 => h9) rfl dX9_run_1 ?_
  refine va_get (D := D) (ci := 2) (v := .int v_g_size) (C := RX3) (T := TX3) (N := 3) hx hb hts hinX3 hown hK hP 3 rfl rfl 2 (by decide) k_8_11 (fun _ h9 => h9) rfl dX9_run_4 ?_
  refine m_if_ne (X := v_g_size.toInt) (tgt := 18) hx hb dX9_run_7 (by decide) rfl (fun c7 => ?_) (fun c7 => ?_)
  · skip
    refine lv_aload_n hx hb dX9_run_18 rfl (lv_at hl 0 rfl) ?_
    refine va_get (D := D) (ci := 8) (v := .ref (q 12)) (C := RX9) (T := TX9) (N := 10) hx hb hts hinX9 hown hK hP 0 rfl rfl 9 (by decide) k_2_11 (fun _ h9 => h9) rfl dX9_run_19 ?_
    refine lv_aload_n hx hb dX9_run_22 rfl (lv_at hl 0 rfl) ?_
    refine va_get (D := D) (ci := 8) (v := .ref (q 3)) (C := RX9) (T := TX9) (N := 10) hx hb hts hinX9 hown hK hP 0 rfl rfl 4 (by decide) k_1_19 (fun _ h9 => h9) rfl dX9_run_23 ?_
    refine call_i (As := [.ref (q 3)]) (rest := []) ⟨hx, hb, hml, hown, hts⟩ (tX4_runAll (l := l)  (by first | assumption | omega | (intros; omega) | decide) (by first | assumption | omega | (intros; omega) | decide) (by first | assumption | omega | (intros; omega) | decide) (by first | assumption | omega | (intros; omega) | decide)) (cwV 1 hts (gV (wr35 _ (List.mem_of_getElem? (i := 15) rfl)) (wr35 _ (List.mem_of_getElem? (i := 16) rfl)) (wr35 _ (List.mem_of_getElem? (i := 17) rfl)) (wr2 _ (List.mem_of_getElem? (i := 10) rfl)) (wr35 _ (List.mem_of_getElem? (i := 18) rfl))) rfl rfl rfl (by decide +kernel) ⟨Nat.le_of_ble_eq_true rfl, Nat.le_of_ble_eq_true rfl⟩) (va_recv hK hP (ci := 3) (q0 := 12) rfl rfl) hK hP hD hE hS hA rfl hl.1 rfl (Nat.le_of_ble_eq_true rfl) dX9_run_26 ⟨by show _ ≤ 306; omega, by show _ ≤ 2142; omega⟩ (fun r26 w9 H locs hw26 hP hD hS => ?_)
    obtain ⟨a_g_steps_26, v_u_marksMade_26, v_u_came_26, v_u_guesses_26, v_u_right_26, v_u_taken_26, a_u_outcomes_26, a_u_indexes_26, v_s_things_26, v_s_looked_26, v_s_lookedTooOften_26, v_s_arraysMade_26, v_s_cellsMade_26, a_s_classes_26, a_s_starts_26, a_s_lengths_26, a_s_cells_26, a_L_26, a_K_26, a_vc_26, a_vd_26, a_si_26, a_sj_26, a_iv_26, a_inn_26, a_ac_26, rfl, hw26_0, hw26_1, hw26_2, hw26_3, hw26_4⟩ := hw26
    have b_v_u_marksMade_26 := iB v_u_marksMade_26
    have b_v_u_came_26 := iB v_u_came_26
    have b_v_u_guesses_26 := iB v_u_guesses_26
    have b_v_u_right_26 := iB v_u_right_26
    have b_v_u_taken_26 := iB v_u_taken_26
    have b_v_s_things_26 := iB v_s_things_26
    have b_v_s_looked_26 := iB v_s_looked_26
    have b_v_s_lookedTooOften_26 := iB v_s_lookedTooOften_26
    have b_v_s_arraysMade_26 := iB v_s_arraysMade_26
    have b_v_s_cellsMade_26 := iB v_s_cellsMade_26
    have b_r26 := iB r26
    refine W.widen (k := 306) (n := 2142) (by omega) (by omega) ?_
    subst hAe
    rw [hQ]
    refine vx_ret ?_
    exact W.iret (v := r26) hx hb hr (fun t ht hW => ⟨⟨r26, _, rfl, ⟨a_g_steps_26, v_u_marksMade_26, v_u_came_26, v_u_guesses_26, v_u_right_26, v_u_taken_26, a_u_outcomes_26, a_u_indexes_26, v_s_things_26, v_s_looked_26, v_s_lookedTooOften_26, v_s_arraysMade_26, v_s_cellsMade_26, a_s_classes_26, a_s_starts_26, a_s_lengths_26, a_s_cells_26, a_L_26, a_K_26, a_vc_26, a_vd_26, a_si_26, a_sj_26, a_iv_26, a_inn_26, a_ac_26, rfl, by exact ⟨by assumption, by assumption, by assumption, by assumption, by assumption, by assumption, ⟨by omega, by omega⟩, ⟨by omega, by omega⟩, by omega, by assumption⟩⟩, by rw [ht]; exact hP, va_K.moved hW.alike hK, hD⟩, hS.F ht⟩) hS.2.2 dX9_run_29
  · skip
    have hT : TRN a_L a_K a_si a_iv a_inn a_g_beyond a_h_beyond a_r_scratch a_g_steps a_h_steps a_u_atom a_u_other a_u_hand a_u_vars a_u_marks a_r_now v_a_size v_a_limit v_a_digits v_a_kind v_a_from v_a_to v_b_size v_b_limit v_b_digits v_b_kind v_b_from v_b_to v_s_things v_s_cellsMade a_s_starts a_s_lengths v_t_tapeSize v_o_size v_u_marksMade a_t_tape := by exact ⟨by assumption, by assumption, by assumption, by assumption, by assumption, by assumption, ⟨by omega, by omega⟩, ⟨by omega, by omega⟩, by omega, by assumption⟩
    subst hAe
    rw [hQ]
    exact vx_throw0 (names := exN) (cls := isE) (own := RX9) hx hb hl9 hown (by decide +kernel) (by decide +kernel) k_35_13 k_35_14 (hat_is hts hE.2.2.2.2.2.2) gd_is hE.2.2.2.1 hE.2.2.2.2.1 hS (hl.1.trans hml.symm) dX9_run_10 dX9_run_13 dX9_run_14 dX9_run_17 (fun x h9 => (hno x h9).elim) (Nat.le_of_ble_eq_true rfl) (Nat.le_of_ble_eq_true rfl) (Nat.le_of_ble_eq_true rfl) (Nat.le_of_ble_eq_true rfl) hlocks (fun t hvm hz hk => ⟨_, ⟨a_g_steps, v_u_marksMade, v_u_came, v_u_guesses, v_u_right, v_u_taken, a_u_outcomes, a_u_indexes, v_s_things, v_s_looked, v_s_lookedTooOften, v_s_arraysMade, v_s_cellsMade, a_s_classes, a_s_starts, a_s_lengths, a_s_cells, a_L, a_K, a_vc, a_vd, a_si, a_sj, a_iv, a_inn, a_ac, rfl, hT⟩, ⟨rfl, hP.kept (fun k q hq => hk q.1 (hP k q hq).lt), va_K.moved hvm hK, hD⟩, ⟨Nat.le_trans hS.1 hz, fun q hq hn => (hk q (Nat.lt_of_lt_of_le hq hS.1)).trans (hS.2.1 q hq hn)⟩⟩) hS.2.2 (Nat.le_of_ble_eq_true rfl) (Nat.le_of_ble_eq_true rfl)

def rmX9_outcome : Room := { frames := 40, cells := 1, slots := 6, locals := 800 }
set_option maxHeartbeats 4000000 in
set_option maxRecDepth 100000 in
theorem tX9_outcome {l : Launch} (hl9 : l.stackTraces = false) {D : va_G} {K : Nat → Nat → Nat} {cs : Nat → ClassId} {q : Nat → Nat} {v_t_tapeSize v_t_textSize v_t_faultKind v_g_size v_h_size v_r_takes v_r_negative v_r_namePlace v_r_faultKind v_r_faultPlace v_a_size v_a_limit v_a_digits v_a_kind v_a_from v_a_to v_o_size v_b_size v_b_limit v_b_digits v_b_kind v_b_from v_b_to v_u_marksMade v_u_came v_u_guesses v_u_right v_u_taken v_s_things v_s_looked v_s_lookedTooOften v_s_arraysMade v_s_cellsMade : Int32} {a_t_tape a_t_text a_o_out a_u_outcomes a_u_indexes a_s_classes a_s_starts a_s_lengths a_vc : Nat → Int32} {a_g_beyond a_h_beyond a_r_scratch a_r_now a_u_atom a_u_other a_u_hand : Nat} {a_g_steps a_h_steps a_u_vars a_u_marks : Nat → Option Nat} {a_s_cells a_vd a_sj : Nat → Int64} {a_L : List Nat} {a_K a_iv a_inn : Nat → Nat} {a_si a_ac : Nat → Nat → Int32} (k9 : Int32) (p_0 : TRN a_L a_K a_si a_iv a_inn a_g_beyond a_h_beyond a_r_scratch a_g_steps a_h_steps a_u_atom a_u_other a_u_hand a_u_vars a_u_marks a_r_now v_a_size v_a_limit v_a_digits v_a_kind v_a_from v_a_to v_b_size v_b_limit v_b_digits v_b_kind v_b_from v_b_to v_s_things v_s_cellsMade a_s_starts a_s_lengths v_t_tapeSize v_o_size v_u_marksMade a_t_tape) : CtIX l yX9_outcome (wG yX9_outcome cX9_outcome 2 (some .int)) rmX9_outcome D (twT cs) K [.ref (q 0), .int k9] (tw cs q v_t_tapeSize v_t_textSize v_t_faultKind a_t_tape a_t_text a_g_beyond v_g_size a_g_steps a_h_beyond v_h_size a_h_steps a_r_scratch a_r_now v_r_takes v_r_negative v_r_namePlace v_r_faultKind v_r_faultPlace v_a_size v_a_limit v_a_digits v_a_kind v_a_from v_a_to v_o_size a_o_out v_b_size v_b_limit v_b_digits v_b_kind v_b_from v_b_to a_u_atom a_u_other a_u_hand v_u_marksMade v_u_came v_u_guesses v_u_right v_u_taken a_u_vars a_u_marks a_u_outcomes a_u_indexes v_s_things v_s_looked v_s_lookedTooOften v_s_arraysMade v_s_cellsMade a_s_classes a_s_starts a_s_lengths a_s_cells a_L a_K a_vc a_vd a_si a_sj a_iv a_inn a_ac) (fun r w1 => w1 = (tw cs q v_t_tapeSize v_t_textSize v_t_faultKind a_t_tape a_t_text a_g_beyond v_g_size a_g_steps a_h_beyond v_h_size a_h_steps a_r_scratch a_r_now v_r_takes v_r_negative v_r_namePlace v_r_faultKind v_r_faultPlace v_a_size v_a_limit v_a_digits v_a_kind v_a_from v_a_to v_o_size a_o_out v_b_size v_b_limit v_b_digits v_b_kind v_b_from v_b_to a_u_atom a_u_other a_u_hand v_u_marksMade v_u_came v_u_guesses v_u_right v_u_taken a_u_vars a_u_marks a_u_outcomes a_u_indexes v_s_things v_s_looked v_s_lookedTooOften v_s_arraysMade v_s_cellsMade a_s_classes a_s_starts a_s_lengths a_s_cells a_L a_K a_vc a_vd a_si a_sj a_iv a_inn a_ac) ∧ (TRN a_L a_K a_si a_iv a_inn a_g_beyond a_h_beyond a_r_scratch a_g_steps a_h_steps a_u_atom a_u_other a_u_hand a_u_vars a_u_marks a_r_now v_a_size v_a_limit v_a_digits v_a_kind v_a_from v_a_to v_b_size v_b_limit v_b_digits v_b_kind v_b_from v_b_to v_s_things v_s_cellsMade a_s_starts a_s_lengths v_t_tapeSize v_o_size v_u_marksMade a_t_tape)) nsE (fun w1 => w1 = (tw cs q v_t_tapeSize v_t_textSize v_t_faultKind a_t_tape a_t_text a_g_beyond v_g_size a_g_steps a_h_beyond v_h_size a_h_steps a_r_scratch a_r_now v_r_takes v_r_negative v_r_namePlace v_r_faultKind v_r_faultPlace v_a_size v_a_limit v_a_digits v_a_kind v_a_from v_a_to v_o_size a_o_out v_b_size v_b_limit v_b_digits v_b_kind v_b_from v_b_to a_u_atom a_u_other a_u_hand v_u_marksMade v_u_came v_u_guesses v_u_right v_u_taken a_u_vars a_u_marks a_u_outcomes a_u_indexes v_s_things v_s_looked v_s_lookedTooOften v_s_arraysMade v_s_cellsMade a_s_classes a_s_starts a_s_lengths a_s_cells a_L a_K a_vc a_vd a_si a_sj a_iv a_inn a_ac) ∧ (TRN a_L a_K a_si a_iv a_inn a_g_beyond a_h_beyond a_r_scratch a_g_steps a_h_steps a_u_atom a_u_other a_u_hand a_u_vars a_u_marks a_r_now v_a_size v_a_limit v_a_digits v_a_kind v_a_from v_a_to v_b_size v_b_limit v_b_digits v_b_kind v_b_from v_b_to v_s_things v_s_cellsMade a_s_starts a_s_lengths v_t_tapeSize v_o_size v_u_marksMade a_t_tape)) 1 6 := by
  intro sz
  refine vx_ofW (cc := cX9_outcome) (maxL := 2) (ret := (some .int)) (by decide) rfl ?_
  intro p e s m args below meth c s₁ B hml hno hv
  obtain ⟨rfl, hsz, hP, hK, hD0, hE⟩ := hv
  have hx := B.exec
  have hb := B.bytes
  have hr := B.returns
  have hts := atoms_spec (ws := (wG yX9_outcome cX9_outcome 2 (some .int))) B.pre
  have hown : s.vm.findClass RX9 = some m.cls := findClass_of_methodNamed B.named
  have hlocks := B.notSynchronized
  subst hsz
  have hD := hD0.self (sz := s.heap.size)
  obtain ⟨A, hAe⟩ : ∃ A : Nat → Prop, A = va_A (tw cs q v_t_tapeSize v_t_textSize v_t_faultKind a_t_tape a_t_text a_g_beyond v_g_size a_g_steps a_h_beyond v_h_size a_h_steps a_r_scratch a_r_now v_r_takes v_r_negative v_r_namePlace v_r_faultKind v_r_faultPlace v_a_size v_a_limit v_a_digits v_a_kind v_a_from v_a_to v_o_size a_o_out v_b_size v_b_limit v_b_digits v_b_kind v_b_from v_b_to a_u_atom a_u_other a_u_hand v_u_marksMade v_u_came v_u_guesses v_u_right v_u_taken a_u_vars a_u_marks a_u_outcomes a_u_indexes v_s_things v_s_looked v_s_lookedTooOften v_s_arraysMade v_s_cellsMade a_s_classes a_s_starts a_s_lengths a_s_cells a_L a_K a_vc a_vd a_si a_sj a_iv a_inn a_ac) s.heap.size := ⟨_, rfl⟩
  rw [← hAe] at hD hE
  have hA : ∀ q : Nat, s.heap.size ≤ q → A q := fun q h => by rw [hAe]; exact Or.inr h
  have hS : va_S A s.heap s.heap [] := va_S.rf
  have hl := lv_entry ([.ref (q 0), .int k9]) (n := 2) (Nat.le_of_ble_eq_true rfl)
  rw [lg_entry_eq]
  generalize (lg_sl ([.ref (q 0), .int k9]) ++ List.replicate (2 - (lg_sl ([.ref (q 0), .int k9])).length) Slot.unset).toArray = ls at hl ⊢
  have hl : lv_has ls 2 [(0, .ref (q 0)), (1, .int k9)] := hl
  refine wq (fun Q hQ => ?_)
  have hinX3 : ∀ w ∈ wsX30, w ∈ (wG yX9_outcome cX9_outcome 2 (some .int)) := fun w h => List.mem_cons_of_mem _ (inlX3 w h)
  have hinX9 : ∀ w ∈ wsX90, w ∈ (wG yX9_outcome cX9_outcome 2 (some .int)) := fun w h => List.mem_cons_of_mem _ (inlX9 w h)
  have k_32_4 := hts (.classLink RX9 88 "java/util/NoSuchElementException") (List.mem_cons_of_mem _ (wr32 _ (List.mem_of_getElem? (i := 4) rfl)))
  have k_32_5 := hts (.initialized "java/util/NoSuchElementException") (List.mem_cons_of_mem _ (wr32 _ (List.mem_of_getElem? (i := 5) rfl)))
  have k_1_19 := hts (.fieldLink RX9 19 "ArrayTrainer" "program" "LArrayTrainer$Program;") (List.mem_cons_of_mem _ (wr1 _ (List.mem_of_getElem? (i := 19) rfl)))
  have k_8_11 := hts (.fieldLink RX9 85 "ArrayTrainer$Program" "size" "I") (List.mem_cons_of_mem _ (wr8 _ (List.mem_of_getElem? (i := 11) rfl)))
  have k_2_11 := hts (.fieldLink RX9 50 "ArrayTrainer" "runner" "LArrayTrainer$Runner;") (List.mem_cons_of_mem _ (wr2 _ (List.mem_of_getElem? (i := 11) rfl)))
  obtain ⟨H, hH⟩ : ∃ H : Heap, H = s.heap := ⟨_, rfl⟩
  obtain ⟨locs, hlc⟩ : ∃ L : List Loc, L = [] := ⟨_, rfl⟩
  have hP : va_P D vwCl (tw cs q v_t_tapeSize v_t_textSize v_t_faultKind a_t_tape a_t_text a_g_beyond v_g_size a_g_steps a_h_beyond v_h_size a_h_steps a_r_scratch a_r_now v_r_takes v_r_negative v_r_namePlace v_r_faultKind v_r_faultPlace v_a_size v_a_limit v_a_digits v_a_kind v_a_from v_a_to v_o_size a_o_out v_b_size v_b_limit v_b_digits v_b_kind v_b_from v_b_to a_u_atom a_u_other a_u_hand v_u_marksMade v_u_came v_u_guesses v_u_right v_u_taken a_u_vars a_u_marks a_u_outcomes a_u_indexes v_s_things v_s_looked v_s_lookedTooOften v_s_arraysMade v_s_cellsMade a_s_classes a_s_starts a_s_lengths a_s_cells a_L a_K a_vc a_vd a_si a_sj a_iv a_inn a_ac) H := by rw [hH]; exact hP
  have hS : va_S A s.heap H locs := by rw [hH, hlc]; exact hS
  refine wHL hH hlc ?_
  have b_k9 := iB k9
  obtain ⟨hRF, hPI, hNow, hLA, hLB, hSTO, ⟨ht0, ht1⟩, ⟨ho0, ho1⟩, hm0, hFB⟩ := id p_0
  refine lv_iload_n hx hb dX9_outcome_0 rfl (lv_at hl 1 rfl) ?_
  have J15 : ∀ (H : Heap) (locs : List Loc) (ls : Array Slot), va_P D vwCl (tw cs q v_t_tapeSize v_t_textSize v_t_faultKind a_t_tape a_t_text a_g_beyond v_g_size a_g_steps a_h_beyond v_h_size a_h_steps a_r_scratch a_r_now v_r_takes v_r_negative v_r_namePlace v_r_faultKind v_r_faultPlace v_a_size v_a_limit v_a_digits v_a_kind v_a_from v_a_to v_o_size a_o_out v_b_size v_b_limit v_b_digits v_b_kind v_b_from v_b_to a_u_atom a_u_other a_u_hand v_u_marksMade v_u_came v_u_guesses v_u_right v_u_taken a_u_vars a_u_marks a_u_outcomes a_u_indexes v_s_things v_s_looked v_s_lookedTooOften v_s_arraysMade v_s_cellsMade a_s_classes a_s_starts a_s_lengths a_s_cells a_L a_K a_vc a_vd a_si a_sj a_iv a_inn a_ac) H → va_D A (tw cs q v_t_tapeSize v_t_textSize v_t_faultKind a_t_tape a_t_text a_g_beyond v_g_size a_g_steps a_h_beyond v_h_size a_h_steps a_r_scratch a_r_now v_r_takes v_r_negative v_r_namePlace v_r_faultKind v_r_faultPlace v_a_size v_a_limit v_a_digits v_a_kind v_a_from v_a_to v_o_size a_o_out v_b_size v_b_limit v_b_digits v_b_kind v_b_from v_b_to a_u_atom a_u_other a_u_hand v_u_marksMade v_u_came v_u_guesses v_u_right v_u_taken a_u_vars a_u_marks a_u_outcomes a_u_indexes v_s_things v_s_looked v_s_lookedTooOften v_s_arraysMade v_s_cellsMade a_s_classes a_s_starts a_s_lengths a_s_cells a_L a_K a_vc a_vd a_si a_sj a_iv a_inn a_ac) → va_S A s.heap H locs → lv_has ls 2 [] → W p l e (headSpec (wG yX9_outcome cX9_outcome 2 (some .int)) rmX9_outcome).room s m ([.ref (q 0), .int k9] : List Value).toArray below meth c H locs (0) (0) Q (F0 m 15 ls []) := by
    intro H locs ls hP hD hS hl
    have hT : TRN a_L a_K a_si a_iv a_inn a_g_beyond a_h_beyond a_r_scratch a_g_steps a_h_steps a_u_atom a_u_other a_u_hand a_u_vars a_u_marks a_r_now v_a_size v_a_limit v_a_digits v_a_kind v_a_from v_a_to v_b_size v_b_limit v_b_digits v_b_kind v_b_from v_b_to v_s_things v_s_cellsMade a_s_starts a_s_lengths v_t_tapeSize v_o_size v_u_marksMade a_t_tape := by exact ⟨by assumption, by assumption, by assumption, by assumption, by assumption, by assumption, ⟨by omega, by omega⟩, ⟨by omega, by omega⟩, by omega, by assumption⟩
    subst hAe
    rw [hQ]
    exact vx_throw0 (names := exN) (cls := nsE) (own := RX9) hx hb hl9 hown (by decide +kernel) (by decide +kernel) k_32_4 k_32_5 (hat_ns hts hE.2.2.2.2.2.2) gd_ns hE.2.2.2.1 hE.2.2.2.2.1 hS (hl.1.trans hml.symm) dX9_outcome_15 dX9_outcome_18 dX9_outcome_19 dX9_outcome_22 (fun x h9 => (hno x h9).elim) (Nat.le_of_ble_eq_true rfl) (Nat.le_of_ble_eq_true rfl) (Nat.le_of_ble_eq_true rfl) (Nat.le_of_ble_eq_true rfl) hlocks (fun t hvm hz hk => ⟨_, ⟨rfl, hT⟩, ⟨rfl, hP.kept (fun k q hq => hk q.1 (hP k q hq).lt), va_K.moved hvm hK, hD⟩, ⟨Nat.le_trans hS.1 hz, fun q hq hn => (hk q (Nat.lt_of_lt_of_le hq hS.1)).trans (hS.2.1 q hq hn)⟩⟩) hS.2.2 (Nat.le_of_ble_eq_true rfl) (Nat.le_of_ble_eq_true rfl)
  refine m_if_lt (X := k9.toInt) (tgt := 15) hx hb dX9_outcome_1 (by decide) rfl (fun c1 => ?_) (fun c1 => ?_)
  · skip
    exact J15 H locs ls hP hD hS (lv_sub hl [] rfl)
  · skip
    refine lv_iload_n hx hb dX9_outcome_4 rfl (lv_at hl 1 rfl) ?_
    refine lv_aload_n hx hb dX9_outcome_5 rfl (lv_at hl 0 rfl) ?_
    refine va_get (D := D) (ci := 8) (v := .ref (q 3)) (C := RX9) (T := TX9) (N := 10) hx hb hts hinX9 hown hK hP 0 rfl rfl 4 (by decide) k_1_19 (fun _ h9 => h9) rfl dX9_outcome_6 ?_
    refine va_get (D := D) (ci := 2) (v := .int v_g_size) (C := RX3) (T := TX3) (N := 3) hx hb hts hinX3 hown hK hP 3 rfl rfl 2 (by decide) k_8_11 (fun _ h9 => h9) rfl dX9_outcome_9 ?_
    refine m_icmp_lt (X := k9.toInt) (Y := v_g_size.toInt) (tgt := 23) hx hb dX9_outcome_12 (by decide) rfl rfl (fun c12 => ?_) (fun c12 => ?_)
    · skip
      refine lv_aload_n hx hb dX9_outcome_23 rfl (lv_at hl 0 rfl) ?_
      refine va_get (D := D) (ci := 8) (v := .ref (q 12)) (C := RX9) (T := TX9) (N := 10) hx hb hts hinX9 hown hK hP 0 rfl rfl 9 (by decide) k_2_11 (fun _ h9 => h9) rfl dX9_outcome_24 ?_
      refine lv_iload_n hx hb dX9_outcome_27 rfl (lv_at hl 1 rfl) ?_
      refine call_i (As := [.int k9]) (rest := []) ⟨hx, hb, hml, hown, hts⟩ (tX4_outcomeAt (l := l) k9) (cwV 1 hts (gV (wr53 _ (List.mem_of_getElem? (i := 8) rfl)) (wr53 _ (List.mem_of_getElem? (i := 9) rfl)) (wr53 _ (List.mem_of_getElem? (i := 10) rfl)) (wr2 _ (List.mem_of_getElem? (i := 10) rfl)) (wr53 _ (List.mem_of_getElem? (i := 11) rfl))) rfl rfl rfl (by decide +kernel) ⟨Nat.le_of_ble_eq_true rfl, Nat.le_of_ble_eq_true rfl⟩) (va_recv hK hP (ci := 3) (q0 := 12) rfl rfl) hK hP hD hE hS hA rfl hl.1 rfl (Nat.le_of_ble_eq_true rfl) dX9_outcome_28 ⟨by show _ ≤ 1; omega, by show _ ≤ 6; omega⟩ (fun r28 w9 H locs hw28 hP hD hS => ?_)
      obtain ⟨rfl⟩ := hw28
      have b_r28 := iB r28
      refine W.widen (k := 1) (n := 6) (by omega) (by omega) ?_
      subst hAe
      rw [hQ]
      refine vx_ret ?_
      exact W.iret (v := r28) hx hb hr (fun t ht hW => ⟨⟨r28, _, rfl, ⟨rfl, by exact ⟨by assumption, by assumption, by assumption, by assumption, by assumption, by assumption, ⟨by omega, by omega⟩, ⟨by omega, by omega⟩, by omega, by assumption⟩⟩, by rw [ht]; exact hP, va_K.moved hW.alike hK, hD⟩, hS.F ht⟩) hS.2.2 dX9_outcome_31
    · skip
      exact J15 H locs ls hP hD hS (lv_sub hl [] rfl)

def rmX9_value : Room := { frames := 80, cells := 1, slots := 6, locals := 1600 }
set_option maxHeartbeats 4000000 in
set_option maxRecDepth 100000 in
theorem tX9_value {l : Launch} (hl9 : l.stackTraces = false) {D : va_G} {K : Nat → Nat → Nat} {cs : Nat → ClassId} {q : Nat → Nat} {v_t_tapeSize v_t_textSize v_t_faultKind v_g_size v_h_size v_r_takes v_r_negative v_r_namePlace v_r_faultKind v_r_faultPlace v_a_size v_a_limit v_a_digits v_a_kind v_a_from v_a_to v_o_size v_b_size v_b_limit v_b_digits v_b_kind v_b_from v_b_to v_u_marksMade v_u_came v_u_guesses v_u_right v_u_taken v_s_things v_s_looked v_s_lookedTooOften v_s_arraysMade v_s_cellsMade : Int32} {a_t_tape a_t_text a_o_out a_u_outcomes a_u_indexes a_s_classes a_s_starts a_s_lengths a_vc : Nat → Int32} {a_g_beyond a_h_beyond a_r_scratch a_r_now a_u_atom a_u_other a_u_hand : Nat} {a_g_steps a_h_steps a_u_vars a_u_marks : Nat → Option Nat} {a_s_cells a_vd a_sj : Nat → Int64} {a_L : List Nat} {a_K a_iv a_inn : Nat → Nat} {a_si a_ac : Nat → Nat → Int32} (v9 : Int32) (i9 : Int32) (j9 : Int32) (k9 : Int32) (p_0 : TRN a_L a_K a_si a_iv a_inn a_g_beyond a_h_beyond a_r_scratch a_g_steps a_h_steps a_u_atom a_u_other a_u_hand a_u_vars a_u_marks a_r_now v_a_size v_a_limit v_a_digits v_a_kind v_a_from v_a_to v_b_size v_b_limit v_b_digits v_b_kind v_b_from v_b_to v_s_things v_s_cellsMade a_s_starts a_s_lengths v_t_tapeSize v_o_size v_u_marksMade a_t_tape) : CtJX l yX9_value (wG yX9_value cX9_value 5 (some .long)) rmX9_value D (twT cs) K [.ref (q 0), .int v9, .int i9, .int j9, .int k9] (tw cs q v_t_tapeSize v_t_textSize v_t_faultKind a_t_tape a_t_text a_g_beyond v_g_size a_g_steps a_h_beyond v_h_size a_h_steps a_r_scratch a_r_now v_r_takes v_r_negative v_r_namePlace v_r_faultKind v_r_faultPlace v_a_size v_a_limit v_a_digits v_a_kind v_a_from v_a_to v_o_size a_o_out v_b_size v_b_limit v_b_digits v_b_kind v_b_from v_b_to a_u_atom a_u_other a_u_hand v_u_marksMade v_u_came v_u_guesses v_u_right v_u_taken a_u_vars a_u_marks a_u_outcomes a_u_indexes v_s_things v_s_looked v_s_lookedTooOften v_s_arraysMade v_s_cellsMade a_s_classes a_s_starts a_s_lengths a_s_cells a_L a_K a_vc a_vd a_si a_sj a_iv a_inn a_ac) (fun r w1 => ∃ (a_vc' : Nat → Int32) (a_vd' : Nat → Int64), w1 = (tw cs q v_t_tapeSize v_t_textSize v_t_faultKind a_t_tape a_t_text a_g_beyond v_g_size a_g_steps a_h_beyond v_h_size a_h_steps a_r_scratch a_r_now v_r_takes v_r_negative v_r_namePlace v_r_faultKind v_r_faultPlace v_a_size v_a_limit v_a_digits v_a_kind v_a_from v_a_to v_o_size a_o_out v_b_size v_b_limit v_b_digits v_b_kind v_b_from v_b_to a_u_atom a_u_other a_u_hand v_u_marksMade v_u_came v_u_guesses v_u_right v_u_taken a_u_vars a_u_marks a_u_outcomes a_u_indexes v_s_things v_s_looked v_s_lookedTooOften v_s_arraysMade v_s_cellsMade a_s_classes a_s_starts a_s_lengths a_s_cells a_L a_K a_vc' a_vd' a_si a_sj a_iv a_inn a_ac) ∧ (TRN a_L a_K a_si a_iv a_inn a_g_beyond a_h_beyond a_r_scratch a_g_steps a_h_steps a_u_atom a_u_other a_u_hand a_u_vars a_u_marks a_r_now v_a_size v_a_limit v_a_digits v_a_kind v_a_from v_a_to v_b_size v_b_limit v_b_digits v_b_kind v_b_from v_b_to v_s_things v_s_cellsMade a_s_starts a_s_lengths v_t_tapeSize v_o_size v_u_marksMade a_t_tape)) nsE (fun w1 => ∃ (a_vc' : Nat → Int32) (a_vd' : Nat → Int64), w1 = (tw cs q v_t_tapeSize v_t_textSize v_t_faultKind a_t_tape a_t_text a_g_beyond v_g_size a_g_steps a_h_beyond v_h_size a_h_steps a_r_scratch a_r_now v_r_takes v_r_negative v_r_namePlace v_r_faultKind v_r_faultPlace v_a_size v_a_limit v_a_digits v_a_kind v_a_from v_a_to v_o_size a_o_out v_b_size v_b_limit v_b_digits v_b_kind v_b_from v_b_to a_u_atom a_u_other a_u_hand v_u_marksMade v_u_came v_u_guesses v_u_right v_u_taken a_u_vars a_u_marks a_u_outcomes a_u_indexes v_s_things v_s_looked v_s_lookedTooOften v_s_arraysMade v_s_cellsMade a_s_classes a_s_starts a_s_lengths a_s_cells a_L a_K a_vc' a_vd' a_si a_sj a_iv a_inn a_ac) ∧ (TRN a_L a_K a_si a_iv a_inn a_g_beyond a_h_beyond a_r_scratch a_g_steps a_h_steps a_u_atom a_u_other a_u_hand a_u_vars a_u_marks a_r_now v_a_size v_a_limit v_a_digits v_a_kind v_a_from v_a_to v_b_size v_b_limit v_b_digits v_b_kind v_b_from v_b_to v_s_things v_s_cellsMade a_s_starts a_s_lengths v_t_tapeSize v_o_size v_u_marksMade a_t_tape)) 1 6 := by
  intro sz
  refine vx_ofW (cc := cX9_value) (maxL := 5) (ret := (some .long)) (by decide) rfl ?_
  intro p e s m args below meth c s₁ B hml hno hv
  obtain ⟨rfl, hsz, hP, hK, hD0, hE⟩ := hv
  have hx := B.exec
  have hb := B.bytes
  have hr := B.returns
  have hts := atoms_spec (ws := (wG yX9_value cX9_value 5 (some .long))) B.pre
  have hown : s.vm.findClass RX9 = some m.cls := findClass_of_methodNamed B.named
  have hlocks := B.notSynchronized
  subst hsz
  have hD := hD0.self (sz := s.heap.size)
  obtain ⟨A, hAe⟩ : ∃ A : Nat → Prop, A = va_A (tw cs q v_t_tapeSize v_t_textSize v_t_faultKind a_t_tape a_t_text a_g_beyond v_g_size a_g_steps a_h_beyond v_h_size a_h_steps a_r_scratch a_r_now v_r_takes v_r_negative v_r_namePlace v_r_faultKind v_r_faultPlace v_a_size v_a_limit v_a_digits v_a_kind v_a_from v_a_to v_o_size a_o_out v_b_size v_b_limit v_b_digits v_b_kind v_b_from v_b_to a_u_atom a_u_other a_u_hand v_u_marksMade v_u_came v_u_guesses v_u_right v_u_taken a_u_vars a_u_marks a_u_outcomes a_u_indexes v_s_things v_s_looked v_s_lookedTooOften v_s_arraysMade v_s_cellsMade a_s_classes a_s_starts a_s_lengths a_s_cells a_L a_K a_vc a_vd a_si a_sj a_iv a_inn a_ac) s.heap.size := ⟨_, rfl⟩
  rw [← hAe] at hD hE
  have hA : ∀ q : Nat, s.heap.size ≤ q → A q := fun q h => by rw [hAe]; exact Or.inr h
  have hS : va_S A s.heap s.heap [] := va_S.rf
  have hl := lv_entry ([.ref (q 0), .int v9, .int i9, .int j9, .int k9]) (n := 5) (Nat.le_of_ble_eq_true rfl)
  rw [lg_entry_eq]
  generalize (lg_sl ([.ref (q 0), .int v9, .int i9, .int j9, .int k9]) ++ List.replicate (5 - (lg_sl ([.ref (q 0), .int v9, .int i9, .int j9, .int k9])).length) Slot.unset).toArray = ls at hl ⊢
  have hl : lv_has ls 5 [(0, .ref (q 0)), (1, .int v9), (2, .int i9), (3, .int j9), (4, .int k9)] := hl
  refine wq (fun Q hQ => ?_)
  have hinX4 : ∀ w ∈ wsX40, w ∈ (wG yX9_value cX9_value 5 (some .long)) := fun w h => List.mem_cons_of_mem _ (inlX4 w h)
  have hinX8 : ∀ w ∈ wsX80, w ∈ (wG yX9_value cX9_value 5 (some .long)) := fun w h => List.mem_cons_of_mem _ (inlX8 w h)
  have hinX9 : ∀ w ∈ wsX90, w ∈ (wG yX9_value cX9_value 5 (some .long)) := fun w h => List.mem_cons_of_mem _ (inlX9 w h)
  have k_2_11 := hts (.fieldLink RX9 50 "ArrayTrainer" "runner" "LArrayTrainer$Runner;") (List.mem_cons_of_mem _ (wr2 _ (List.mem_of_getElem? (i := 11) rfl)))
  have k_32_4 := hts (.classLink RX9 88 "java/util/NoSuchElementException") (List.mem_cons_of_mem _ (wr32 _ (List.mem_of_getElem? (i := 4) rfl)))
  have k_32_5 := hts (.initialized "java/util/NoSuchElementException") (List.mem_cons_of_mem _ (wr32 _ (List.mem_of_getElem? (i := 5) rfl)))
  have k_53_20 := hts (.fieldLink RX9 132 "ArrayTrainer$Runner" "hand" "LArrayTrainer$Value;") (List.mem_cons_of_mem _ (wr53 _ (List.mem_of_getElem? (i := 20) rfl)))
  have k_55_1 := hts (.fieldLink RX9 149 "ArrayTrainer$Value" "datum" "J") (List.mem_cons_of_mem _ (wr55 _ (List.mem_of_getElem? (i := 1) rfl)))
  obtain ⟨H, hH⟩ : ∃ H : Heap, H = s.heap := ⟨_, rfl⟩
  obtain ⟨locs, hlc⟩ : ∃ L : List Loc, L = [] := ⟨_, rfl⟩
  have hP : va_P D vwCl (tw cs q v_t_tapeSize v_t_textSize v_t_faultKind a_t_tape a_t_text a_g_beyond v_g_size a_g_steps a_h_beyond v_h_size a_h_steps a_r_scratch a_r_now v_r_takes v_r_negative v_r_namePlace v_r_faultKind v_r_faultPlace v_a_size v_a_limit v_a_digits v_a_kind v_a_from v_a_to v_o_size a_o_out v_b_size v_b_limit v_b_digits v_b_kind v_b_from v_b_to a_u_atom a_u_other a_u_hand v_u_marksMade v_u_came v_u_guesses v_u_right v_u_taken a_u_vars a_u_marks a_u_outcomes a_u_indexes v_s_things v_s_looked v_s_lookedTooOften v_s_arraysMade v_s_cellsMade a_s_classes a_s_starts a_s_lengths a_s_cells a_L a_K a_vc a_vd a_si a_sj a_iv a_inn a_ac) H := by rw [hH]; exact hP
  have hS : va_S A s.heap H locs := by rw [hH, hlc]; exact hS
  refine wHL hH hlc ?_
  have b_v9 := iB v9
  have b_i9 := iB i9
  have b_j9 := iB j9
  have b_k9 := iB k9
  obtain ⟨hRF, hPI, hNow, hLA, hLB, hSTO, ⟨ht0, ht1⟩, ⟨ho0, ho1⟩, hm0, hFB⟩ := id p_0
  refine lv_aload_n hx hb dX9_value_0 rfl (lv_at hl 0 rfl) ?_
  refine va_get (D := D) (ci := 8) (v := .ref (q 12)) (C := RX9) (T := TX9) (N := 10) hx hb hts hinX9 hown hK hP 0 rfl rfl 9 (by decide) k_2_11 (fun _ h9 => h9) rfl dX9_value_1 ?_
  refine lv_iload_n hx hb dX9_value_4 rfl (lv_at hl 1 rfl) ?_
  refine lv_iload_n hx hb dX9_value_5 rfl (lv_at hl 2 rfl) ?_
  refine lv_iload_n hx hb dX9_value_6 rfl (lv_at hl 3 rfl) ?_
  refine lv_iload hx hb dX9_value_7 (lv_at hl 4 rfl) ?_
  refine call_i (As := [.int v9, .int i9, .int j9, .int k9]) (rest := []) ⟨hx, hb, hml, hown, hts⟩ (tX4_walk (l := l) v9 i9 j9 k9 (by first | assumption | omega | (intros; omega) | decide) (by first | assumption | omega | (intros; omega) | decide)) (cwV 4 hts (gV (wr53 _ (List.mem_of_getElem? (i := 22) rfl)) (wr53 _ (List.mem_of_getElem? (i := 23) rfl)) (wr54 _ (List.mem_of_getElem? (i := 0) rfl)) (wr2 _ (List.mem_of_getElem? (i := 10) rfl)) (wr54 _ (List.mem_of_getElem? (i := 1) rfl))) rfl rfl rfl (by decide +kernel) ⟨Nat.le_of_ble_eq_true rfl, Nat.le_of_ble_eq_true rfl⟩) (va_recv hK hP (ci := 3) (q0 := 12) rfl rfl) hK hP hD hE hS hA rfl hl.1 rfl (Nat.le_of_ble_eq_true rfl) dX9_value_9 ⟨by show _ ≤ 1; omega, by show _ ≤ 6; omega⟩ (fun r9 w9 H locs hw9 hP hD hS => ?_)
  obtain ⟨a_vc_9, a_vd_9, rfl, hw9_0⟩ := hw9
  have b_r9 := iB r9
  have J28 : ∀ (H : Heap) (locs : List Loc) (ls : Array Slot), va_P D vwCl (tw cs q v_t_tapeSize v_t_textSize v_t_faultKind a_t_tape a_t_text a_g_beyond v_g_size a_g_steps a_h_beyond v_h_size a_h_steps a_r_scratch a_r_now v_r_takes v_r_negative v_r_namePlace v_r_faultKind v_r_faultPlace v_a_size v_a_limit v_a_digits v_a_kind v_a_from v_a_to v_o_size a_o_out v_b_size v_b_limit v_b_digits v_b_kind v_b_from v_b_to a_u_atom a_u_other a_u_hand v_u_marksMade v_u_came v_u_guesses v_u_right v_u_taken a_u_vars a_u_marks a_u_outcomes a_u_indexes v_s_things v_s_looked v_s_lookedTooOften v_s_arraysMade v_s_cellsMade a_s_classes a_s_starts a_s_lengths a_s_cells a_L a_K a_vc_9 a_vd_9 a_si a_sj a_iv a_inn a_ac) H → va_D A (tw cs q v_t_tapeSize v_t_textSize v_t_faultKind a_t_tape a_t_text a_g_beyond v_g_size a_g_steps a_h_beyond v_h_size a_h_steps a_r_scratch a_r_now v_r_takes v_r_negative v_r_namePlace v_r_faultKind v_r_faultPlace v_a_size v_a_limit v_a_digits v_a_kind v_a_from v_a_to v_o_size a_o_out v_b_size v_b_limit v_b_digits v_b_kind v_b_from v_b_to a_u_atom a_u_other a_u_hand v_u_marksMade v_u_came v_u_guesses v_u_right v_u_taken a_u_vars a_u_marks a_u_outcomes a_u_indexes v_s_things v_s_looked v_s_lookedTooOften v_s_arraysMade v_s_cellsMade a_s_classes a_s_starts a_s_lengths a_s_cells a_L a_K a_vc_9 a_vd_9 a_si a_sj a_iv a_inn a_ac) → va_S A s.heap H locs → lv_has ls 5 [] → W p l e (headSpec (wG yX9_value cX9_value 5 (some .long)) rmX9_value).room s m ([.ref (q 0), .int v9, .int i9, .int j9, .int k9] : List Value).toArray below meth c H locs (0) (0) Q (F0 m 28 ls []) := by
    intro H locs ls hP hD hS hl
    have hT : TRN a_L a_K a_si a_iv a_inn a_g_beyond a_h_beyond a_r_scratch a_g_steps a_h_steps a_u_atom a_u_other a_u_hand a_u_vars a_u_marks a_r_now v_a_size v_a_limit v_a_digits v_a_kind v_a_from v_a_to v_b_size v_b_limit v_b_digits v_b_kind v_b_from v_b_to v_s_things v_s_cellsMade a_s_starts a_s_lengths v_t_tapeSize v_o_size v_u_marksMade a_t_tape := by exact ⟨by assumption, by assumption, by assumption, by assumption, by assumption, by assumption, ⟨by omega, by omega⟩, ⟨by omega, by omega⟩, by omega, by assumption⟩
    subst hAe
    rw [hQ]
    exact vx_throw0 (names := exN) (cls := nsE) (own := RX9) hx hb hl9 hown (by decide +kernel) (by decide +kernel) k_32_4 k_32_5 (hat_ns hts hE.2.2.2.2.2.2) gd_ns hE.2.2.2.1 hE.2.2.2.2.1 hS (hl.1.trans hml.symm) dX9_value_28 dX9_value_31 dX9_value_32 dX9_value_35 (fun x h9 => (hno x h9).elim) (Nat.le_of_ble_eq_true rfl) (Nat.le_of_ble_eq_true rfl) (Nat.le_of_ble_eq_true rfl) (Nat.le_of_ble_eq_true rfl) hlocks (fun t hvm hz hk => ⟨_, ⟨a_vc_9, a_vd_9, rfl, hT⟩, ⟨rfl, hP.kept (fun k q hq => hk q.1 (hP k q hq).lt), va_K.moved hvm hK, hD⟩, ⟨Nat.le_trans hS.1 hz, fun q hq hn => (hk q (Nat.lt_of_lt_of_le hq hS.1)).trans (hS.2.1 q hq hn)⟩⟩) hS.2.2 (Nat.le_of_ble_eq_true rfl) (Nat.le_of_ble_eq_true rfl)
  refine m_if_eq (X := r9.toInt) (tgt := 28) hx hb dX9_value_12 (by decide) rfl (fun c12 => ?_) (fun c12 => ?_)
  · skip
    exact J28 H locs ls hP hD hS (lv_sub hl [] rfl)
  · skip
    refine lv_aload_n hx hb dX9_value_15 rfl (lv_at hl 0 rfl) ?_
    refine va_get (D := D) (ci := 8) (v := .ref (q 12)) (C := RX9) (T := TX9) (N := 10) hx hb hts hinX9 hown hK hP 0 rfl rfl 9 (by decide) k_2_11 (fun _ h9 => h9) rfl dX9_value_16 ?_
    have hf19 : aV a_L a_K a_u_hand := by first | assumption | exact RF.z_uH (by assumption)
    refine va_get (D := D) (ci := 3) (v := .ref a_u_hand) (C := RX4) (T := TX4) (N := 13) hx hb hts hinX4 hown hK hP 12 rfl rfl 7 (by decide) k_53_20 (fun _ h9 => h9) rfl dX9_value_19 ?_
    obtain ⟨k22_, hk22_⟩ := pl_V (X := (twX cs q v_t_tapeSize v_t_textSize v_t_faultKind a_t_tape a_t_text a_g_beyond v_g_size a_g_steps a_h_beyond v_h_size a_h_steps a_r_scratch a_r_now v_r_takes v_r_negative v_r_namePlace v_r_faultKind v_r_faultPlace v_a_size v_a_limit v_a_digits v_a_kind v_a_from v_a_to v_o_size a_o_out v_b_size v_b_limit v_b_digits v_b_kind v_b_from v_b_to a_u_atom a_u_other a_u_hand v_u_marksMade v_u_came v_u_guesses v_u_right v_u_taken a_u_vars a_u_marks a_u_outcomes a_u_indexes v_s_things v_s_looked v_s_lookedTooOften v_s_arraysMade v_s_cellsMade a_s_classes a_s_starts a_s_lengths a_s_cells)) (cI := cs 0) (vc := a_vc_9) (vd := a_vd_9) (si := a_si) (sj := a_sj) (iv := a_iv) (inn := a_inn) (ac := a_ac) hf19
    refine call_i (As := []) (rest := []) ⟨hx, hb, hml, hown, hts⟩ (tX8_isNumber (l := l) a_u_hand hf19 ) (cwV 0 hts (gV (wr55 _ (List.mem_of_getElem? (i := 2) rfl)) (wr39 _ (List.mem_of_getElem? (i := 18) rfl)) (wr39 _ (List.mem_of_getElem? (i := 19) rfl)) (wr4 _ (List.mem_of_getElem? (i := 11) rfl)) (wr39 _ (List.mem_of_getElem? (i := 20) rfl))) rfl rfl rfl (by decide +kernel) ⟨Nat.le_of_ble_eq_true rfl, Nat.le_of_ble_eq_true rfl⟩) (va_recv hK hP (ci := 7) (q0 := k22_) rfl hk22_) hK hP hD hE hS hA rfl hl.1 rfl (Nat.le_of_ble_eq_true rfl) dX9_value_22 ⟨by show _ ≤ 1; omega, by show _ ≤ 6; omega⟩ (fun r22 w9 H locs hw22 hP hD hS => ?_)
    obtain ⟨rfl, hw22_0⟩ := hw22
    have b_r22 := iB r22
    refine m_if_ne (X := r22.toInt) (tgt := 36) hx hb dX9_value_25 (by decide) rfl (fun c25 => ?_) (fun c25 => ?_)
    · skip
      refine lv_aload_n hx hb dX9_value_36 rfl (lv_at hl 0 rfl) ?_
      refine va_get (D := D) (ci := 8) (v := .ref (q 12)) (C := RX9) (T := TX9) (N := 10) hx hb hts hinX9 hown hK hP 0 rfl rfl 9 (by decide) k_2_11 (fun _ h9 => h9) rfl dX9_value_37 ?_
      have hf40 : aV a_L a_K a_u_hand := by first | assumption | exact RF.z_uH (by assumption)
      refine va_get (D := D) (ci := 3) (v := .ref a_u_hand) (C := RX4) (T := TX4) (N := 13) hx hb hts hinX4 hown hK hP 12 rfl rfl 7 (by decide) k_53_20 (fun _ h9 => h9) rfl dX9_value_40 ?_
      obtain ⟨k43_, hk43_⟩ := pl_V (X := (twX cs q v_t_tapeSize v_t_textSize v_t_faultKind a_t_tape a_t_text a_g_beyond v_g_size a_g_steps a_h_beyond v_h_size a_h_steps a_r_scratch a_r_now v_r_takes v_r_negative v_r_namePlace v_r_faultKind v_r_faultPlace v_a_size v_a_limit v_a_digits v_a_kind v_a_from v_a_to v_o_size a_o_out v_b_size v_b_limit v_b_digits v_b_kind v_b_from v_b_to a_u_atom a_u_other a_u_hand v_u_marksMade v_u_came v_u_guesses v_u_right v_u_taken a_u_vars a_u_marks a_u_outcomes a_u_indexes v_s_things v_s_looked v_s_lookedTooOften v_s_arraysMade v_s_cellsMade a_s_classes a_s_starts a_s_lengths a_s_cells)) (cI := cs 0) (vc := a_vc_9) (vd := a_vd_9) (si := a_si) (sj := a_sj) (iv := a_iv) (inn := a_inn) (ac := a_ac) hf40
      refine va_get (D := D) (ci := 7) (v := .long (a_vd_9 a_u_hand)) (C := RX8) (T := TX8) (N := 2) hx hb hts hinX8 hown hK hP k43_ hk43_ rfl 1 (by decide) k_55_1 (fun _ h9 => h9) rfl dX9_value_43 ?_
      refine lv_topl (fun x43 e_x43 => ?_)
      have b_x43 := jB x43
      refine W.widen (k := 1) (n := 6) (by omega) (by omega) ?_
      subst hAe
      rw [hQ]
      refine vx_ret ?_
      exact W.lret (v := x43) hx hb hr (fun t ht hW => ⟨⟨x43, _, rfl, ⟨a_vc_9, a_vd_9, rfl, by exact ⟨by assumption, by assumption, by assumption, by assumption, by assumption, by assumption, ⟨by omega, by omega⟩, ⟨by omega, by omega⟩, by omega, by assumption⟩⟩, by rw [ht]; exact hP, va_K.moved hW.alike hK, hD⟩, hS.F ht⟩) hS.2.2 dX9_value_46
    · skip
      exact J28 H locs ls hP hD hS (lv_sub hl [] rfl)

def rmX9_marked : Room := { frames := 60, cells := 1, slots := 6, locals := 1200 }
set_option maxHeartbeats 4000000 in
set_option maxRecDepth 100000 in
theorem tX9_marked {l : Launch} (hl9 : l.stackTraces = false) {D : va_G} {K : Nat → Nat → Nat} {cs : Nat → ClassId} {q : Nat → Nat} {v_t_tapeSize v_t_textSize v_t_faultKind v_g_size v_h_size v_r_takes v_r_negative v_r_namePlace v_r_faultKind v_r_faultPlace v_a_size v_a_limit v_a_digits v_a_kind v_a_from v_a_to v_o_size v_b_size v_b_limit v_b_digits v_b_kind v_b_from v_b_to v_u_marksMade v_u_came v_u_guesses v_u_right v_u_taken v_s_things v_s_looked v_s_lookedTooOften v_s_arraysMade v_s_cellsMade : Int32} {a_t_tape a_t_text a_o_out a_u_outcomes a_u_indexes a_s_classes a_s_starts a_s_lengths a_vc : Nat → Int32} {a_g_beyond a_h_beyond a_r_scratch a_r_now a_u_atom a_u_other a_u_hand : Nat} {a_g_steps a_h_steps a_u_vars a_u_marks : Nat → Option Nat} {a_s_cells a_vd a_sj : Nat → Int64} {a_L : List Nat} {a_K a_iv a_inn : Nat → Nat} {a_si a_ac : Nat → Nat → Int32} (k9 : Int32) (p_0 : TRN a_L a_K a_si a_iv a_inn a_g_beyond a_h_beyond a_r_scratch a_g_steps a_h_steps a_u_atom a_u_other a_u_hand a_u_vars a_u_marks a_r_now v_a_size v_a_limit v_a_digits v_a_kind v_a_from v_a_to v_b_size v_b_limit v_b_digits v_b_kind v_b_from v_b_to v_s_things v_s_cellsMade a_s_starts a_s_lengths v_t_tapeSize v_o_size v_u_marksMade a_t_tape) : CtJX l yX9_marked (wG yX9_marked cX9_marked 2 (some .long)) rmX9_marked D (twT cs) K [.ref (q 0), .int k9] (tw cs q v_t_tapeSize v_t_textSize v_t_faultKind a_t_tape a_t_text a_g_beyond v_g_size a_g_steps a_h_beyond v_h_size a_h_steps a_r_scratch a_r_now v_r_takes v_r_negative v_r_namePlace v_r_faultKind v_r_faultPlace v_a_size v_a_limit v_a_digits v_a_kind v_a_from v_a_to v_o_size a_o_out v_b_size v_b_limit v_b_digits v_b_kind v_b_from v_b_to a_u_atom a_u_other a_u_hand v_u_marksMade v_u_came v_u_guesses v_u_right v_u_taken a_u_vars a_u_marks a_u_outcomes a_u_indexes v_s_things v_s_looked v_s_lookedTooOften v_s_arraysMade v_s_cellsMade a_s_classes a_s_starts a_s_lengths a_s_cells a_L a_K a_vc a_vd a_si a_sj a_iv a_inn a_ac) (fun r w1 => w1 = (tw cs q v_t_tapeSize v_t_textSize v_t_faultKind a_t_tape a_t_text a_g_beyond v_g_size a_g_steps a_h_beyond v_h_size a_h_steps a_r_scratch a_r_now v_r_takes v_r_negative v_r_namePlace v_r_faultKind v_r_faultPlace v_a_size v_a_limit v_a_digits v_a_kind v_a_from v_a_to v_o_size a_o_out v_b_size v_b_limit v_b_digits v_b_kind v_b_from v_b_to a_u_atom a_u_other a_u_hand v_u_marksMade v_u_came v_u_guesses v_u_right v_u_taken a_u_vars a_u_marks a_u_outcomes a_u_indexes v_s_things v_s_looked v_s_lookedTooOften v_s_arraysMade v_s_cellsMade a_s_classes a_s_starts a_s_lengths a_s_cells a_L a_K a_vc a_vd a_si a_sj a_iv a_inn a_ac) ∧ (TRN a_L a_K a_si a_iv a_inn a_g_beyond a_h_beyond a_r_scratch a_g_steps a_h_steps a_u_atom a_u_other a_u_hand a_u_vars a_u_marks a_r_now v_a_size v_a_limit v_a_digits v_a_kind v_a_from v_a_to v_b_size v_b_limit v_b_digits v_b_kind v_b_from v_b_to v_s_things v_s_cellsMade a_s_starts a_s_lengths v_t_tapeSize v_o_size v_u_marksMade a_t_tape)) nsE (fun w1 => w1 = (tw cs q v_t_tapeSize v_t_textSize v_t_faultKind a_t_tape a_t_text a_g_beyond v_g_size a_g_steps a_h_beyond v_h_size a_h_steps a_r_scratch a_r_now v_r_takes v_r_negative v_r_namePlace v_r_faultKind v_r_faultPlace v_a_size v_a_limit v_a_digits v_a_kind v_a_from v_a_to v_o_size a_o_out v_b_size v_b_limit v_b_digits v_b_kind v_b_from v_b_to a_u_atom a_u_other a_u_hand v_u_marksMade v_u_came v_u_guesses v_u_right v_u_taken a_u_vars a_u_marks a_u_outcomes a_u_indexes v_s_things v_s_looked v_s_lookedTooOften v_s_arraysMade v_s_cellsMade a_s_classes a_s_starts a_s_lengths a_s_cells a_L a_K a_vc a_vd a_si a_sj a_iv a_inn a_ac) ∧ (TRN a_L a_K a_si a_iv a_inn a_g_beyond a_h_beyond a_r_scratch a_g_steps a_h_steps a_u_atom a_u_other a_u_hand a_u_vars a_u_marks a_r_now v_a_size v_a_limit v_a_digits v_a_kind v_a_from v_a_to v_b_size v_b_limit v_b_digits v_b_kind v_b_from v_b_to v_s_things v_s_cellsMade a_s_starts a_s_lengths v_t_tapeSize v_o_size v_u_marksMade a_t_tape)) 1 6 := by
  intro sz
  refine vx_ofW (cc := cX9_marked) (maxL := 2) (ret := (some .long)) (by decide) rfl ?_
  intro p e s m args below meth c s₁ B hml hno hv
  obtain ⟨rfl, hsz, hP, hK, hD0, hE⟩ := hv
  have hx := B.exec
  have hb := B.bytes
  have hr := B.returns
  have hts := atoms_spec (ws := (wG yX9_marked cX9_marked 2 (some .long))) B.pre
  have hown : s.vm.findClass RX9 = some m.cls := findClass_of_methodNamed B.named
  have hlocks := B.notSynchronized
  subst hsz
  have hD := hD0.self (sz := s.heap.size)
  obtain ⟨A, hAe⟩ : ∃ A : Nat → Prop, A = va_A (tw cs q v_t_tapeSize v_t_textSize v_t_faultKind a_t_tape a_t_text a_g_beyond v_g_size a_g_steps a_h_beyond v_h_size a_h_steps a_r_scratch a_r_now v_r_takes v_r_negative v_r_namePlace v_r_faultKind v_r_faultPlace v_a_size v_a_limit v_a_digits v_a_kind v_a_from v_a_to v_o_size a_o_out v_b_size v_b_limit v_b_digits v_b_kind v_b_from v_b_to a_u_atom a_u_other a_u_hand v_u_marksMade v_u_came v_u_guesses v_u_right v_u_taken a_u_vars a_u_marks a_u_outcomes a_u_indexes v_s_things v_s_looked v_s_lookedTooOften v_s_arraysMade v_s_cellsMade a_s_classes a_s_starts a_s_lengths a_s_cells a_L a_K a_vc a_vd a_si a_sj a_iv a_inn a_ac) s.heap.size := ⟨_, rfl⟩
  rw [← hAe] at hD hE
  have hA : ∀ q : Nat, s.heap.size ≤ q → A q := fun q h => by rw [hAe]; exact Or.inr h
  have hS : va_S A s.heap s.heap [] := va_S.rf
  have hl := lv_entry ([.ref (q 0), .int k9]) (n := 2) (Nat.le_of_ble_eq_true rfl)
  rw [lg_entry_eq]
  generalize (lg_sl ([.ref (q 0), .int k9]) ++ List.replicate (2 - (lg_sl ([.ref (q 0), .int k9])).length) Slot.unset).toArray = ls at hl ⊢
  have hl : lv_has ls 2 [(0, .ref (q 0)), (1, .int k9)] := hl
  refine wq (fun Q hQ => ?_)
  have hinX8 : ∀ w ∈ wsX80, w ∈ (wG yX9_marked cX9_marked 2 (some .long)) := fun w h => List.mem_cons_of_mem _ (inlX8 w h)
  have hinX9 : ∀ w ∈ wsX90, w ∈ (wG yX9_marked cX9_marked 2 (some .long)) := fun w h => List.mem_cons_of_mem _ (inlX9 w h)
  have k_32_4 := hts (.classLink RX9 88 "java/util/NoSuchElementException") (List.mem_cons_of_mem _ (wr32 _ (List.mem_of_getElem? (i := 4) rfl)))
  have k_32_5 := hts (.initialized "java/util/NoSuchElementException") (List.mem_cons_of_mem _ (wr32 _ (List.mem_of_getElem? (i := 5) rfl)))
  have k_2_11 := hts (.fieldLink RX9 50 "ArrayTrainer" "runner" "LArrayTrainer$Runner;") (List.mem_cons_of_mem _ (wr2 _ (List.mem_of_getElem? (i := 11) rfl)))
  have k_55_1 := hts (.fieldLink RX9 149 "ArrayTrainer$Value" "datum" "J") (List.mem_cons_of_mem _ (wr55 _ (List.mem_of_getElem? (i := 1) rfl)))
  obtain ⟨H, hH⟩ : ∃ H : Heap, H = s.heap := ⟨_, rfl⟩
  obtain ⟨locs, hlc⟩ : ∃ L : List Loc, L = [] := ⟨_, rfl⟩
  have hP : va_P D vwCl (tw cs q v_t_tapeSize v_t_textSize v_t_faultKind a_t_tape a_t_text a_g_beyond v_g_size a_g_steps a_h_beyond v_h_size a_h_steps a_r_scratch a_r_now v_r_takes v_r_negative v_r_namePlace v_r_faultKind v_r_faultPlace v_a_size v_a_limit v_a_digits v_a_kind v_a_from v_a_to v_o_size a_o_out v_b_size v_b_limit v_b_digits v_b_kind v_b_from v_b_to a_u_atom a_u_other a_u_hand v_u_marksMade v_u_came v_u_guesses v_u_right v_u_taken a_u_vars a_u_marks a_u_outcomes a_u_indexes v_s_things v_s_looked v_s_lookedTooOften v_s_arraysMade v_s_cellsMade a_s_classes a_s_starts a_s_lengths a_s_cells a_L a_K a_vc a_vd a_si a_sj a_iv a_inn a_ac) H := by rw [hH]; exact hP
  have hS : va_S A s.heap H locs := by rw [hH, hlc]; exact hS
  refine wHL hH hlc ?_
  have b_k9 := iB k9
  obtain ⟨hRF, hPI, hNow, hLA, hLB, hSTO, ⟨ht0, ht1⟩, ⟨ho0, ho1⟩, hm0, hFB⟩ := id p_0
  refine lv_iload_n hx hb dX9_marked_0 rfl (lv_at hl 1 rfl) ?_
  have J29 : ∀ (H : Heap) (locs : List Loc) (ls : Array Slot), va_P D vwCl (tw cs q v_t_tapeSize v_t_textSize v_t_faultKind a_t_tape a_t_text a_g_beyond v_g_size a_g_steps a_h_beyond v_h_size a_h_steps a_r_scratch a_r_now v_r_takes v_r_negative v_r_namePlace v_r_faultKind v_r_faultPlace v_a_size v_a_limit v_a_digits v_a_kind v_a_from v_a_to v_o_size a_o_out v_b_size v_b_limit v_b_digits v_b_kind v_b_from v_b_to a_u_atom a_u_other a_u_hand v_u_marksMade v_u_came v_u_guesses v_u_right v_u_taken a_u_vars a_u_marks a_u_outcomes a_u_indexes v_s_things v_s_looked v_s_lookedTooOften v_s_arraysMade v_s_cellsMade a_s_classes a_s_starts a_s_lengths a_s_cells a_L a_K a_vc a_vd a_si a_sj a_iv a_inn a_ac) H → va_D A (tw cs q v_t_tapeSize v_t_textSize v_t_faultKind a_t_tape a_t_text a_g_beyond v_g_size a_g_steps a_h_beyond v_h_size a_h_steps a_r_scratch a_r_now v_r_takes v_r_negative v_r_namePlace v_r_faultKind v_r_faultPlace v_a_size v_a_limit v_a_digits v_a_kind v_a_from v_a_to v_o_size a_o_out v_b_size v_b_limit v_b_digits v_b_kind v_b_from v_b_to a_u_atom a_u_other a_u_hand v_u_marksMade v_u_came v_u_guesses v_u_right v_u_taken a_u_vars a_u_marks a_u_outcomes a_u_indexes v_s_things v_s_looked v_s_lookedTooOften v_s_arraysMade v_s_cellsMade a_s_classes a_s_starts a_s_lengths a_s_cells a_L a_K a_vc a_vd a_si a_sj a_iv a_inn a_ac) → va_S A s.heap H locs → lv_has ls 2 [] → W p l e (headSpec (wG yX9_marked cX9_marked 2 (some .long)) rmX9_marked).room s m ([.ref (q 0), .int k9] : List Value).toArray below meth c H locs (0) (0) Q (F0 m 29 ls []) := by
    intro H locs ls hP hD hS hl
    have hT : TRN a_L a_K a_si a_iv a_inn a_g_beyond a_h_beyond a_r_scratch a_g_steps a_h_steps a_u_atom a_u_other a_u_hand a_u_vars a_u_marks a_r_now v_a_size v_a_limit v_a_digits v_a_kind v_a_from v_a_to v_b_size v_b_limit v_b_digits v_b_kind v_b_from v_b_to v_s_things v_s_cellsMade a_s_starts a_s_lengths v_t_tapeSize v_o_size v_u_marksMade a_t_tape := by exact ⟨by assumption, by assumption, by assumption, by assumption, by assumption, by assumption, ⟨by omega, by omega⟩, ⟨by omega, by omega⟩, by omega, by assumption⟩
    subst hAe
    rw [hQ]
    exact vx_throw0 (names := exN) (cls := nsE) (own := RX9) hx hb hl9 hown (by decide +kernel) (by decide +kernel) k_32_4 k_32_5 (hat_ns hts hE.2.2.2.2.2.2) gd_ns hE.2.2.2.1 hE.2.2.2.2.1 hS (hl.1.trans hml.symm) dX9_marked_29 dX9_marked_32 dX9_marked_33 dX9_marked_36 (fun x h9 => (hno x h9).elim) (Nat.le_of_ble_eq_true rfl) (Nat.le_of_ble_eq_true rfl) (Nat.le_of_ble_eq_true rfl) (Nat.le_of_ble_eq_true rfl) hlocks (fun t hvm hz hk => ⟨_, ⟨rfl, hT⟩, ⟨rfl, hP.kept (fun k q hq => hk q.1 (hP k q hq).lt), va_K.moved hvm hK, hD⟩, ⟨Nat.le_trans hS.1 hz, fun q hq hn => (hk q (Nat.lt_of_lt_of_le hq hS.1)).trans (hS.2.1 q hq hn)⟩⟩) hS.2.2 (Nat.le_of_ble_eq_true rfl) (Nat.le_of_ble_eq_true rfl)
  refine m_if_lt (X := k9.toInt) (tgt := 29) hx hb dX9_marked_1 (by decide) rfl (fun c1 => ?_) (fun c1 => ?_)
  · skip
    exact J29 H locs ls hP hD hS (lv_sub hl [] rfl)
  · skip
    refine lv_iload_n hx hb dX9_marked_4 rfl (lv_at hl 1 rfl) ?_
    refine lv_aload_n hx hb dX9_marked_5 rfl (lv_at hl 0 rfl) ?_
    refine va_get (D := D) (ci := 8) (v := .ref (q 12)) (C := RX9) (T := TX9) (N := 10) hx hb hts hinX9 hown hK hP 0 rfl rfl 9 (by decide) k_2_11 (fun _ h9 => h9) rfl dX9_marked_6 ?_
    refine call_i (As := []) (rest := [.int k9]) ⟨hx, hb, hml, hown, hts⟩ (tX4_marksKept (l := l) ) (cwV 0 hts (gV (wr56 _ (List.mem_of_getElem? (i := 0) rfl)) (wr56 _ (List.mem_of_getElem? (i := 1) rfl)) (wr56 _ (List.mem_of_getElem? (i := 2) rfl)) (wr2 _ (List.mem_of_getElem? (i := 10) rfl)) (wr56 _ (List.mem_of_getElem? (i := 3) rfl))) rfl rfl rfl (by decide +kernel) ⟨Nat.le_of_ble_eq_true rfl, Nat.le_of_ble_eq_true rfl⟩) (va_recv hK hP (ci := 3) (q0 := 12) rfl rfl) hK hP hD hE hS hA rfl hl.1 rfl (Nat.le_of_ble_eq_true rfl) dX9_marked_9 ⟨by show _ ≤ 1; omega, by show _ ≤ 6; omega⟩ (fun r9 w9 H locs hw9 hP hD hS => ?_)
    obtain ⟨rfl, hw9_0, hw9_1⟩ := hw9
    have b_r9 := iB r9
    refine m_icmp_ge (X := k9.toInt) (Y := r9.toInt) (tgt := 29) hx hb dX9_marked_12 (by decide) rfl rfl (fun c12 => ?_) (fun c12 => ?_)
    · skip
      exact J29 H locs ls hP hD hS (lv_sub hl [] rfl)
    · skip
      refine lv_aload_n hx hb dX9_marked_15 rfl (lv_at hl 0 rfl) ?_
      refine va_get (D := D) (ci := 8) (v := .ref (q 12)) (C := RX9) (T := TX9) (N := 10) hx hb hts hinX9 hown hK hP 0 rfl rfl 9 (by decide) k_2_11 (fun _ h9 => h9) rfl dX9_marked_16 ?_
      refine lv_iload_n hx hb dX9_marked_19 rfl (lv_at hl 1 rfl) ?_
      refine call_r (As := [.int k9]) (rest := []) ⟨hx, hb, hml, hown, hts⟩ (tX4_markAt (l := l) k9 (by first | assumption | omega | (intros; omega) | decide)) (cwV 1 hts (gV (wr56 _ (List.mem_of_getElem? (i := 5) rfl)) (wr56 _ (List.mem_of_getElem? (i := 6) rfl)) (wr56 _ (List.mem_of_getElem? (i := 7) rfl)) (wr2 _ (List.mem_of_getElem? (i := 10) rfl)) (wr56 _ (List.mem_of_getElem? (i := 8) rfl))) rfl rfl rfl (by decide +kernel) ⟨Nat.le_of_ble_eq_true rfl, Nat.le_of_ble_eq_true rfl⟩) (va_recv hK hP (ci := 3) (q0 := 12) rfl rfl) hK hP hD hE hS hA rfl hl.1 rfl (Nat.le_of_ble_eq_true rfl) dX9_marked_20 ⟨by show _ ≤ 1; omega, by show _ ≤ 6; omega⟩ (fun r20 w9 H locs hw20 hP hD hS => ?_)
      obtain ⟨rfl, hw20_0⟩ := hw20
      obtain ⟨k23_, hk23_⟩ := pl_V (X := (twX cs q v_t_tapeSize v_t_textSize v_t_faultKind a_t_tape a_t_text a_g_beyond v_g_size a_g_steps a_h_beyond v_h_size a_h_steps a_r_scratch a_r_now v_r_takes v_r_negative v_r_namePlace v_r_faultKind v_r_faultPlace v_a_size v_a_limit v_a_digits v_a_kind v_a_from v_a_to v_o_size a_o_out v_b_size v_b_limit v_b_digits v_b_kind v_b_from v_b_to a_u_atom a_u_other a_u_hand v_u_marksMade v_u_came v_u_guesses v_u_right v_u_taken a_u_vars a_u_marks a_u_outcomes a_u_indexes v_s_things v_s_looked v_s_lookedTooOften v_s_arraysMade v_s_cellsMade a_s_classes a_s_starts a_s_lengths a_s_cells)) (cI := cs 0) (vc := a_vc) (vd := a_vd) (si := a_si) (sj := a_sj) (iv := a_iv) (inn := a_inn) (ac := a_ac) hw20_0
      refine call_i (As := []) (rest := []) ⟨hx, hb, hml, hown, hts⟩ (tX8_isNumber (l := l) r20 hw20_0 ) (cwV 0 hts (gV (wr55 _ (List.mem_of_getElem? (i := 2) rfl)) (wr39 _ (List.mem_of_getElem? (i := 18) rfl)) (wr39 _ (List.mem_of_getElem? (i := 19) rfl)) (wr4 _ (List.mem_of_getElem? (i := 11) rfl)) (wr39 _ (List.mem_of_getElem? (i := 20) rfl))) rfl rfl rfl (by decide +kernel) ⟨Nat.le_of_ble_eq_true rfl, Nat.le_of_ble_eq_true rfl⟩) (va_recv hK hP (ci := 7) (q0 := k23_) rfl hk23_) hK hP hD hE hS hA rfl hl.1 rfl (Nat.le_of_ble_eq_true rfl) dX9_marked_23 ⟨by show _ ≤ 1; omega, by show _ ≤ 6; omega⟩ (fun r23 w9 H locs hw23 hP hD hS => ?_)
      obtain ⟨rfl, hw23_0⟩ := hw23
      have b_r23 := iB r23
      refine m_if_ne (X := r23.toInt) (tgt := 37) hx hb dX9_marked_26 (by decide) rfl (fun c26 => ?_) (fun c26 => ?_)
      · skip
        refine lv_aload_n hx hb dX9_marked_37 rfl (lv_at hl 0 rfl) ?_
        refine va_get (D := D) (ci := 8) (v := .ref (q 12)) (C := RX9) (T := TX9) (N := 10) hx hb hts hinX9 hown hK hP 0 rfl rfl 9 (by decide) k_2_11 (fun _ h9 => h9) rfl dX9_marked_38 ?_
        refine lv_iload_n hx hb dX9_marked_41 rfl (lv_at hl 1 rfl) ?_
        refine call_r (As := [.int k9]) (rest := []) ⟨hx, hb, hml, hown, hts⟩ (tX4_markAt (l := l) k9 (by first | assumption | omega | (intros; omega) | decide)) (cwV 1 hts (gV (wr56 _ (List.mem_of_getElem? (i := 5) rfl)) (wr56 _ (List.mem_of_getElem? (i := 6) rfl)) (wr56 _ (List.mem_of_getElem? (i := 7) rfl)) (wr2 _ (List.mem_of_getElem? (i := 10) rfl)) (wr56 _ (List.mem_of_getElem? (i := 8) rfl))) rfl rfl rfl (by decide +kernel) ⟨Nat.le_of_ble_eq_true rfl, Nat.le_of_ble_eq_true rfl⟩) (va_recv hK hP (ci := 3) (q0 := 12) rfl rfl) hK hP hD hE hS hA rfl hl.1 rfl (Nat.le_of_ble_eq_true rfl) dX9_marked_42 ⟨by show _ ≤ 1; omega, by show _ ≤ 6; omega⟩ (fun r42 w9 H locs hw42 hP hD hS => ?_)
        obtain ⟨rfl, hw42_0⟩ := hw42
        obtain ⟨k45_, hk45_⟩ := pl_V (X := (twX cs q v_t_tapeSize v_t_textSize v_t_faultKind a_t_tape a_t_text a_g_beyond v_g_size a_g_steps a_h_beyond v_h_size a_h_steps a_r_scratch a_r_now v_r_takes v_r_negative v_r_namePlace v_r_faultKind v_r_faultPlace v_a_size v_a_limit v_a_digits v_a_kind v_a_from v_a_to v_o_size a_o_out v_b_size v_b_limit v_b_digits v_b_kind v_b_from v_b_to a_u_atom a_u_other a_u_hand v_u_marksMade v_u_came v_u_guesses v_u_right v_u_taken a_u_vars a_u_marks a_u_outcomes a_u_indexes v_s_things v_s_looked v_s_lookedTooOften v_s_arraysMade v_s_cellsMade a_s_classes a_s_starts a_s_lengths a_s_cells)) (cI := cs 0) (vc := a_vc) (vd := a_vd) (si := a_si) (sj := a_sj) (iv := a_iv) (inn := a_inn) (ac := a_ac) hw42_0
        refine va_get (D := D) (ci := 7) (v := .long (a_vd r42)) (C := RX8) (T := TX8) (N := 2) hx hb hts hinX8 hown hK hP k45_ hk45_ rfl 1 (by decide) k_55_1 (fun _ h9 => h9) rfl dX9_marked_45 ?_
        refine lv_topl (fun x45 e_x45 => ?_)
        have b_x45 := jB x45
        refine W.widen (k := 1) (n := 6) (by omega) (by omega) ?_
        subst hAe
        rw [hQ]
        refine vx_ret ?_
        exact W.lret (v := x45) hx hb hr (fun t ht hW => ⟨⟨x45, _, rfl, ⟨rfl, by exact ⟨by assumption, by assumption, by assumption, by assumption, by assumption, by assumption, ⟨by omega, by omega⟩, ⟨by omega, by omega⟩, by omega, by assumption⟩⟩, by rw [ht]; exact hP, va_K.moved hW.alike hK, hD⟩, hS.F ht⟩) hS.2.2 dX9_marked_48
      · skip
        exact J29 H locs ls hP hD hS (lv_sub hl [] rfl)
