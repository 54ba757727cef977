def rmJxf58ca_isNaN_12338 : Room := { frames := 20, cells := 0, slots := 0, locals := 400 }
set_option maxHeartbeats 4000000 in
set_option maxRecDepth 100000 in
theorem tJxf58ca_isNaN_12338 {l : Launch} {D : va_G} {K : Nat → Nat → Nat} (x9 : UInt32) (p_0 : fOK x9) : CtI l yJxf58ca_isNaN_12338 (wG yJxf58ca_isNaN_12338 cJxf58ca_isNaN_12338 1 (some .boolean)) rmJxf58ca_isNaN_12338 D [] K [.float x9] [] (fun r w1 => w1 = [] ∧ (r.toInt = 0)) 0 0 := by
  intro sz
  refine metF (cc := cJxf58ca_isNaN_12338) (maxL := 1) (ret := (some .boolean)) (by decide +kernel) rfl ?_
  intro p e s m args below meth c s₁ B hml hv
  obtain ⟨rfl, hsz, hP, hK, hD0, hE⟩ := hv
  have hx := B.exec
  have hb := B.bytes
  have hr := B.returns
  have hts := atoms_spec (ws := (wG yJxf58ca_isNaN_12338 cJxf58ca_isNaN_12338 1 (some .boolean))) B.pre
  have hown : s.vm.findClass RJxf58ca = some m.cls := findClass_of_methodNamed B.named
  have hlocks := B.notSynchronized
  subst hsz
  have hD := hD0.self (sz := s.heap.size)
  obtain ⟨A, hAe⟩ : ∃ A : Nat → Prop, A = va_A [] s.heap.size := ⟨_, rfl⟩
  rw [← hAe] at hD hE
  have hA : ∀ q : Nat, s.heap.size ≤ q → A q := fun q h => by rw [hAe]; exact Or.inr h
  have hS : va_S A s.heap s.heap [] := va_S.rf
  have hl := lv_entry ([.float x9]) (n := 1) (Nat.le_of_ble_eq_true rfl)
  rw [lg_entry_eq]
  generalize (lg_sl ([.float x9]) ++ List.replicate (1 - (lg_sl ([.float x9])).length) Slot.unset).toArray = ls at hl ⊢
  have hl : lv_has ls 1 [(0, .float x9)] := hl
  refine wq (fun Q hQ => ?_)
  have kc0 : (0 : Int32).toInt = 0 := by decide
  obtain ⟨H, hH⟩ : ∃ H : Heap, H = s.heap := ⟨_, rfl⟩
  obtain ⟨locs, hlc⟩ : ∃ L : List Loc, L = [] := ⟨_, rfl⟩
  have hP : va_P D vwCl [] H := by rw [hH]; exact hP
  have hS : va_S A s.heap H locs := by rw [hH, hlc]; exact hS
  refine wHL hH hlc ?_
  refine lv_fload_n hx hb dJxf58ca_isNaN_12338_0 rfl (lv_at hl 0 rfl) ?_
  refine lv_fload_n hx hb dJxf58ca_isNaN_12338_1 rfl (lv_at hl 0 rfl) ?_
  refine lv_fcmp hx hb dJxf58ca_isNaN_12338_2 ?_
  refine lv_topi (fun x2 e_x2 => ?_)
  have b_x2 := iB x2
  have h2 := fcmp0 p_0 e_x2
  refine m_if_eq (X := x2.toInt) (tgt := 10) hx hb dJxf58ca_isNaN_12338_3 (by decide) rfl (fun c3 => ?_) (fun c3 => ?_)
  · skip
    refine lv_iconst (v := 0) hx hb dJxf58ca_isNaN_12338_10 (by decide) ?_
    subst hAe
    rw [hQ]
    exact W.zret (v := 0) hx hb hr (by decide) (fun t ht hW => ⟨⟨0, _, rfl, ⟨rfl, by first | assumption | omega | (intros; omega) | decide⟩, by rw [ht]; exact hP, va_K.moved hW.alike hK, hD⟩, hS.F ht⟩) hS.2.2 dJxf58ca_isNaN_12338_11
  · skip
    exfalso
    omega

def rmJxe99ae_isNaN_b9ae7 : Room := { frames := 20, cells := 0, slots := 0, locals := 400 }
set_option maxHeartbeats 4000000 in
set_option maxRecDepth 100000 in
theorem tJxe99ae_isNaN_b9ae7 {l : Launch} {D : va_G} {K : Nat → Nat → Nat} (x9 : UInt64) (p_0 : dOK x9) : CtI l yJxe99ae_isNaN_b9ae7 (wG yJxe99ae_isNaN_b9ae7 cJxe99ae_isNaN_b9ae7 2 (some .boolean)) rmJxe99ae_isNaN_b9ae7 D [] K [.double x9] [] (fun r w1 => w1 = [] ∧ (r.toInt = 0)) 0 0 := by
  intro sz
  refine metF (cc := cJxe99ae_isNaN_b9ae7) (maxL := 2) (ret := (some .boolean)) (by decide +kernel) rfl ?_
  intro p e s m args below meth c s₁ B hml hv
  obtain ⟨rfl, hsz, hP, hK, hD0, hE⟩ := hv
  have hx := B.exec
  have hb := B.bytes
  have hr := B.returns
  have hts := atoms_spec (ws := (wG yJxe99ae_isNaN_b9ae7 cJxe99ae_isNaN_b9ae7 2 (some .boolean))) B.pre
  have hown : s.vm.findClass RJxe99ae = some m.cls := findClass_of_methodNamed B.named
  have hlocks := B.notSynchronized
  subst hsz
  have hD := hD0.self (sz := s.heap.size)
  obtain ⟨A, hAe⟩ : ∃ A : Nat → Prop, A = va_A [] s.heap.size := ⟨_, rfl⟩
  rw [← hAe] at hD hE
  have hA : ∀ q : Nat, s.heap.size ≤ q → A q := fun q h => by rw [hAe]; exact Or.inr h
  have hS : va_S A s.heap s.heap [] := va_S.rf
  have hl := lv_entry ([.double x9]) (n := 2) (Nat.le_of_ble_eq_true rfl)
  rw [lg_entry_eq]
  generalize (lg_sl ([.double x9]) ++ List.replicate (2 - (lg_sl ([.double x9])).length) Slot.unset).toArray = ls at hl ⊢
  have hl : lv_has ls 2 [(0, .double x9)] := hl
  refine wq (fun Q hQ => ?_)
  have kc0 : (0 : Int32).toInt = 0 := by decide
  obtain ⟨H, hH⟩ : ∃ H : Heap, H = s.heap := ⟨_, rfl⟩
  obtain ⟨locs, hlc⟩ : ∃ L : List Loc, L = [] := ⟨_, rfl⟩
  have hP : va_P D vwCl [] H := by rw [hH]; exact hP
  have hS : va_S A s.heap H locs := by rw [hH, hlc]; exact hS
  refine wHL hH hlc ?_
  refine lv_dload_n hx hb dJxe99ae_isNaN_b9ae7_0 rfl (lv_at hl 0 rfl) ?_
  refine lv_dload_n hx hb dJxe99ae_isNaN_b9ae7_1 rfl (lv_at hl 0 rfl) ?_
  refine lv_dcmp hx hb dJxe99ae_isNaN_b9ae7_2 ?_
  refine lv_topi (fun x2 e_x2 => ?_)
  have b_x2 := iB x2
  have h2 := dcmp0 p_0 e_x2
  refine m_if_eq (X := x2.toInt) (tgt := 10) hx hb dJxe99ae_isNaN_b9ae7_3 (by decide) rfl (fun c3 => ?_) (fun c3 => ?_)
  · skip
    refine lv_iconst (v := 0) hx hb dJxe99ae_isNaN_b9ae7_10 (by decide) ?_
    subst hAe
    rw [hQ]
    exact W.zret (v := 0) hx hb hr (by decide) (fun t ht hW => ⟨⟨0, _, rfl, ⟨rfl, by first | assumption | omega | (intros; omega) | decide⟩, by rw [ht]; exact hP, va_K.moved hW.alike hK, hD⟩, hS.F ht⟩) hS.2.2 dJxe99ae_isNaN_b9ae7_11
  · skip
    exfalso
    omega

def rmJxf58ca_floatToIntBits_5c35a : Room := { frames := 40, cells := 0, slots := 0, locals := 800 }
set_option maxHeartbeats 4000000 in
set_option maxRecDepth 100000 in
theorem tJxf58ca_floatToIntBits_5c35a {l : Launch} {D : va_G} {K : Nat → Nat → Nat} (x9 : UInt32) (p_0 : fOK x9) : CtI l yJxf58ca_floatToIntBits_5c35a (wG yJxf58ca_floatToIntBits_5c35a cJxf58ca_floatToIntBits_5c35a 1 (some .int)) rmJxf58ca_floatToIntBits_5c35a D [] K [.float x9] [] (fun r w1 => w1 = [] ∧ (r = x9.toInt32)) 0 0 := by
  intro sz
  refine metF (cc := cJxf58ca_floatToIntBits_5c35a) (maxL := 1) (ret := (some .int)) (by decide +kernel) rfl ?_
  intro p e s m args below meth c s₁ B hml hv
  obtain ⟨rfl, hsz, hP, hK, hD0, hE⟩ := hv
  have hx := B.exec
  have hb := B.bytes
  have hr := B.returns
  have hts := atoms_spec (ws := (wG yJxf58ca_floatToIntBits_5c35a cJxf58ca_floatToIntBits_5c35a 1 (some .int))) B.pre
  have hown : s.vm.findClass RJxf58ca = some m.cls := findClass_of_methodNamed B.named
  have hlocks := B.notSynchronized
  subst hsz
  have hD := hD0.self (sz := s.heap.size)
  obtain ⟨A, hAe⟩ : ∃ A : Nat → Prop, A = va_A [] s.heap.size := ⟨_, rfl⟩
  rw [← hAe] at hD hE
  have hA : ∀ q : Nat, s.heap.size ≤ q → A q := fun q h => by rw [hAe]; exact Or.inr h
  have hS : va_S A s.heap s.heap [] := va_S.rf
  have hl := lv_entry ([.float x9]) (n := 1) (Nat.le_of_ble_eq_true rfl)
  rw [lg_entry_eq]
  generalize (lg_sl ([.float x9]) ++ List.replicate (1 - (lg_sl ([.float x9])).length) Slot.unset).toArray = ls at hl ⊢
  have hl : lv_has ls 1 [(0, .float x9)] := hl
  refine wq (fun Q hQ => ?_)
  have k_28_11 := hts (.methodLink RJxf58ca 74 ⟨"java/lang/Float", "floatToRawIntBits", "(F)I"⟩) (List.mem_cons_of_mem _ (wr28 _ (List.mem_of_getElem? (i := 11) rfl)))
  have k_28_12 := hts (.native ⟨"java/lang/Float", "floatToRawIntBits", "(F)I"⟩) (List.mem_cons_of_mem _ (wr28 _ (List.mem_of_getElem? (i := 12) rfl)))
  have k_28_13 := hts (.static ⟨"java/lang/Float", "floatToRawIntBits", "(F)I"⟩) (List.mem_cons_of_mem _ (wr28 _ (List.mem_of_getElem? (i := 13) rfl)))
  have k_27_18 := hts (.initialized "java/lang/Float") (List.mem_cons_of_mem _ (wr27 _ (List.mem_of_getElem? (i := 18) rfl)))
  obtain ⟨H, hH⟩ : ∃ H : Heap, H = s.heap := ⟨_, rfl⟩
  obtain ⟨locs, hlc⟩ : ∃ L : List Loc, L = [] := ⟨_, rfl⟩
  have hP : va_P D vwCl [] H := by rw [hH]; exact hP
  have hS : va_S A s.heap H locs := by rw [hH, hlc]; exact hS
  refine wHL hH hlc ?_
  refine lv_fload_n hx hb dJxf58ca_floatToIntBits_5c35a_0 rfl (lv_at hl 0 rfl) ?_
  refine call_iSP (As := [.float x9]) (rest := []) ⟨hx, hb, hml, hown, hts⟩ (tJxf58ca_isNaN_12338 (l := l) x9 (by first | assumption | omega | (intros; omega) | decide)) (va_cwS 1 hts (gS (wr28 _ (List.mem_of_getElem? (i := 15) rfl)) (wr28 _ (List.mem_of_getElem? (i := 16) rfl)) (wr28 _ (List.mem_of_getElem? (i := 9) rfl)) (wr28 _ (List.mem_of_getElem? (i := 17) rfl))) rfl rfl rfl (by decide +kernel) ⟨Nat.le_of_ble_eq_true rfl, Nat.le_of_ble_eq_true rfl⟩) (hK.sub [] rfl) hP hD hE hS hA rfl hl.1 rfl (Nat.le_of_ble_eq_true rfl) dJxf58ca_floatToIntBits_5c35a_1 ⟨Nat.le_of_ble_eq_true rfl, Nat.le_of_ble_eq_true rfl⟩ (fun r1 w9 H locs hw1 hP hD hS => ?_)
  obtain ⟨rfl, hw1_0⟩ := hw1
  have b_r1 := iB r1
  refine m_if_ne (X := r1.toInt) (tgt := 12) hx hb dJxf58ca_floatToIntBits_5c35a_4 (by decide) rfl (fun c4 => ?_) (fun c4 => ?_)
  · skip
    exfalso
    omega
  · skip
    refine lv_fload_n hx hb dJxf58ca_floatToIntBits_5c35a_7 rfl (lv_at hl 0 rfl) ?_
    refine vn_f2i hx hb (by rw [hml]; exact hl.1.symm) hown k_28_11 k_28_12 k_28_13 k_27_18 (Nat.le_of_ble_eq_true rfl) (Nat.le_of_ble_eq_true rfl) dJxf58ca_floatToIntBits_5c35a_8 ?_
    refine lv_topi (fun x8 e_x8 => ?_)
    have b_x8 := iB x8
    subst hAe
    rw [hQ]
    exact W.iret (v := x8) hx hb hr (fun t ht hW => ⟨⟨x8, _, rfl, ⟨rfl, by first | assumption | omega | (intros; omega) | decide⟩, by rw [ht]; exact hP, va_K.moved hW.alike hK, hD⟩, hS.F ht⟩) hS.2.2 dJxf58ca_floatToIntBits_5c35a_11

def rmJxe99ae_doubleToLongBits_ccdee : Room := { frames := 40, cells := 0, slots := 0, locals := 800 }
set_option maxHeartbeats 4000000 in
set_option maxRecDepth 100000 in
theorem tJxe99ae_doubleToLongBits_ccdee {l : Launch} {D : va_G} {K : Nat → Nat → Nat} (x9 : UInt64) (p_0 : dOK x9) : CtJ l yJxe99ae_doubleToLongBits_ccdee (wG yJxe99ae_doubleToLongBits_ccdee cJxe99ae_doubleToLongBits_ccdee 2 (some .long)) rmJxe99ae_doubleToLongBits_ccdee D [] K [.double x9] [] (fun r w1 => w1 = [] ∧ (r = x9.toInt64)) 0 0 := by
  intro sz
  refine metF (cc := cJxe99ae_doubleToLongBits_ccdee) (maxL := 2) (ret := (some .long)) (by decide +kernel) rfl ?_
  intro p e s m args below meth c s₁ B hml hv
  obtain ⟨rfl, hsz, hP, hK, hD0, hE⟩ := hv
  have hx := B.exec
  have hb := B.bytes
  have hr := B.returns
  have hts := atoms_spec (ws := (wG yJxe99ae_doubleToLongBits_ccdee cJxe99ae_doubleToLongBits_ccdee 2 (some .long))) B.pre
  have hown : s.vm.findClass RJxe99ae = some m.cls := findClass_of_methodNamed B.named
  have hlocks := B.notSynchronized
  subst hsz
  have hD := hD0.self (sz := s.heap.size)
  obtain ⟨A, hAe⟩ : ∃ A : Nat → Prop, A = va_A [] s.heap.size := ⟨_, rfl⟩
  rw [← hAe] at hD hE
  have hA : ∀ q : Nat, s.heap.size ≤ q → A q := fun q h => by rw [hAe]; exact Or.inr h
  have hS : va_S A s.heap s.heap [] := va_S.rf
  have hl := lv_entry ([.double x9]) (n := 2) (Nat.le_of_ble_eq_true rfl)
  rw [lg_entry_eq]
  generalize (lg_sl ([.double x9]) ++ List.replicate (2 - (lg_sl ([.double x9])).length) Slot.unset).toArray = ls at hl ⊢
  have hl : lv_has ls 2 [(0, .double x9)] := hl
  refine wq (fun Q hQ => ?_)
  have k_27_23 := hts (.methodLink RJxe99ae 134 ⟨"java/lang/Double", "doubleToRawLongBits", "(D)J"⟩) (List.mem_cons_of_mem _ (wr27 _ (List.mem_of_getElem? (i := 23) rfl)))
  have k_28_0 := hts (.native ⟨"java/lang/Double", "doubleToRawLongBits", "(D)J"⟩) (List.mem_cons_of_mem _ (wr28 _ (List.mem_of_getElem? (i := 0) rfl)))
  have k_28_1 := hts (.static ⟨"java/lang/Double", "doubleToRawLongBits", "(D)J"⟩) (List.mem_cons_of_mem _ (wr28 _ (List.mem_of_getElem? (i := 1) rfl)))
  have k_28_2 := hts (.initialized "java/lang/Double") (List.mem_cons_of_mem _ (wr28 _ (List.mem_of_getElem? (i := 2) rfl)))
  obtain ⟨H, hH⟩ : ∃ H : Heap, H = s.heap := ⟨_, rfl⟩
  obtain ⟨locs, hlc⟩ : ∃ L : List Loc, L = [] := ⟨_, rfl⟩
  have hP : va_P D vwCl [] H := by rw [hH]; exact hP
  have hS : va_S A s.heap H locs := by rw [hH, hlc]; exact hS
  refine wHL hH hlc ?_
  refine lv_dload_n hx hb dJxe99ae_doubleToLongBits_ccdee_0 rfl (lv_at hl 0 rfl) ?_
  refine call_iSP (As := [.double x9]) (rest := []) ⟨hx, hb, hml, hown, hts⟩ (tJxe99ae_isNaN_b9ae7 (l := l) x9 (by first | assumption | omega | (intros; omega) | decide)) (va_cwS 1 hts (gS (wr28 _ (List.mem_of_getElem? (i := 4) rfl)) (wr28 _ (List.mem_of_getElem? (i := 5) rfl)) (wr27 _ (List.mem_of_getElem? (i := 21) rfl)) (wr28 _ (List.mem_of_getElem? (i := 6) rfl))) rfl rfl rfl (by decide +kernel) ⟨Nat.le_of_ble_eq_true rfl, Nat.le_of_ble_eq_true rfl⟩) (hK.sub [] rfl) hP hD hE hS hA rfl hl.1 rfl (Nat.le_of_ble_eq_true rfl) dJxe99ae_doubleToLongBits_ccdee_1 ⟨Nat.le_of_ble_eq_true rfl, Nat.le_of_ble_eq_true rfl⟩ (fun r1 w9 H locs hw1 hP hD hS => ?_)
  obtain ⟨rfl, hw1_0⟩ := hw1
  have b_r1 := iB r1
  refine m_if_ne (X := r1.toInt) (tgt := 12) hx hb dJxe99ae_doubleToLongBits_ccdee_4 (by decide) rfl (fun c4 => ?_) (fun c4 => ?_)
  · skip
    exfalso
    omega
  · skip
    refine lv_dload_n hx hb dJxe99ae_doubleToLongBits_ccdee_7 rfl (lv_at hl 0 rfl) ?_
    refine vn_d2l hx hb (by rw [hml]; exact hl.1.symm) hown k_27_23 k_28_0 k_28_1 k_28_2 (Nat.le_of_ble_eq_true rfl) (Nat.le_of_ble_eq_true rfl) dJxe99ae_doubleToLongBits_ccdee_8 ?_
    refine lv_topl (fun x8 e_x8 => ?_)
    have b_x8 := jB x8
    subst hAe
    rw [hQ]
    exact W.lret (v := x8) hx hb hr (fun t ht hW => ⟨⟨x8, _, rfl, ⟨rfl, by first | assumption | omega | (intros; omega) | decide⟩, by rw [ht]; exact hP, va_K.moved hW.alike hK, hD⟩, hS.F ht⟩) hS.2.2 dJxe99ae_doubleToLongBits_ccdee_11

def rmX10_widened : Room := { frames := 60, cells := 0, slots := 0, locals := 1200 }
set_option maxHeartbeats 4000000 in
set_option maxRecDepth 100000 in
theorem tX10_widened {l : Launch} {D : va_G} {K : Nat → Nat → Nat} (a9 : Int32) (v9 : Int64) (b9 : Int32) (p_0 : NumOK a9 v9) : CtJ l yX10_widened (wG yX10_widened cX10_widened 4 (some .long)) rmX10_widened D [] K [.int a9, .long v9, .int b9] [] (fun r w1 => w1 = [] ∧ (NumOK b9 r)) 0 0 := by
  intro sz
  refine Met.ofW (cc := cX10_widened) (maxL := 4) (ret := (some .long)) (by decide) rfl ?_
  intro p e s m args below meth c s₁ B hml hv
  obtain ⟨rfl, hsz, hP, hK, hD0, hE⟩ := hv
  have hx := B.exec
  have hb := B.bytes
  have hr := B.returns
  have hts := atoms_spec (ws := (wG yX10_widened cX10_widened 4 (some .long))) B.pre
  have hown : s.vm.findClass RX10 = some m.cls := findClass_of_methodNamed B.named
  have hlocks := B.notSynchronized
  subst hsz
  have hD := hD0.self (sz := s.heap.size)
  obtain ⟨A, hAe⟩ : ∃ A : Nat → Prop, A = va_A [] s.heap.size := ⟨_, rfl⟩
  rw [← hAe] at hD hE
  have hA : ∀ q : Nat, s.heap.size ≤ q → A q := fun q h => by rw [hAe]; exact Or.inr h
  have hS : va_S A s.heap s.heap [] := va_S.rf
  have hl := lv_entry ([.int a9, .long v9, .int b9]) (n := 4) (Nat.le_of_ble_eq_true rfl)
  rw [lg_entry_eq]
  generalize (lg_sl ([.int a9, .long v9, .int b9]) ++ List.replicate (4 - (lg_sl ([.int a9, .long v9, .int b9])).length) Slot.unset).toArray = ls at hl ⊢
  have hl : lv_has ls 4 [(0, .int a9), (1, .long v9), (3, .int b9)] := hl
  refine wq (fun Q hQ => ?_)
  have kc0 : (6 : Int32).toInt = 6 := by decide
  have k_27_15 := hts (.methodLink RX10 241 ⟨"java/lang/Float", "intBitsToFloat", "(I)F"⟩) (List.mem_cons_of_mem _ (wr27 _ (List.mem_of_getElem? (i := 15) rfl)))
  have k_27_16 := hts (.native ⟨"java/lang/Float", "intBitsToFloat", "(I)F"⟩) (List.mem_cons_of_mem _ (wr27 _ (List.mem_of_getElem? (i := 16) rfl)))
  have k_27_17 := hts (.static ⟨"java/lang/Float", "intBitsToFloat", "(I)F"⟩) (List.mem_cons_of_mem _ (wr27 _ (List.mem_of_getElem? (i := 17) rfl)))
  have k_27_18 := hts (.initialized "java/lang/Float") (List.mem_cons_of_mem _ (wr27 _ (List.mem_of_getElem? (i := 18) rfl)))
  obtain ⟨H, hH⟩ : ∃ H : Heap, H = s.heap := ⟨_, rfl⟩
  obtain ⟨locs, hlc⟩ : ∃ L : List Loc, L = [] := ⟨_, rfl⟩
  have hP : va_P D vwCl [] H := by rw [hH]; exact hP
  have hS : va_S A s.heap H locs := by rw [hH, hlc]; exact hS
  refine wHL hH hlc ?_
  have b_a9 := iB a9
  have b_v9 := jB v9
  have b_b9 := iB b9
  refine lv_iload_n hx hb dX10_widened_0 rfl (lv_at hl 0 rfl) ?_
  refine lv_iload_n hx hb dX10_widened_1 rfl (lv_at hl 2 rfl) ?_
  refine m_icmp_eq (X := a9.toInt) (Y := b9.toInt) (tgt := 11) hx hb dX10_widened_2 (by decide) rfl rfl (fun c2 => ?_) (fun c2 => ?_)
  · skip
    refine lv_lload_n hx hb dX10_widened_11 rfl (lv_at hl 1 rfl) ?_
    subst hAe
    rw [hQ]
    exact W.lret (v := v9) hx hb hr (fun t ht hW => ⟨⟨v9, _, rfl, ⟨rfl, by first | exact p_0.eq (by omega) | exact NumOK.low (by omega) (by omega)⟩, by rw [ht]; exact hP, va_K.moved hW.alike hK, hD⟩, hS.F ht⟩) hS.2.2 dX10_widened_12
  · skip
    refine lv_iload_n hx hb dX10_widened_5 rfl (lv_at hl 2 rfl) ?_
    refine lv_bipush (v := 6) hx hb dX10_widened_6 (by decide) ?_
    refine m_icmp_ge (X := b9.toInt) (Y := 6) (tgt := 13) hx hb dX10_widened_8 (by decide) rfl (by decide) (fun c8 => ?_) (fun c8 => ?_)
    · skip
      refine lv_iload_n hx hb dX10_widened_13 rfl (lv_at hl 0 rfl) ?_
      refine lv_bipush (v := 6) hx hb dX10_widened_14 (by decide) ?_
      refine m_icmp_ne (X := a9.toInt) (Y := 6) (tgt := 29) hx hb dX10_widened_16 (by decide) rfl (by decide) (fun c16 => ?_) (fun c16 => ?_)
      · skip
        refine lv_iload_n hx hb dX10_widened_29 rfl (lv_at hl 2 rfl) ?_
        refine lv_bipush (v := 6) hx hb dX10_widened_30 (by decide) ?_
        refine m_icmp_ne (X := b9.toInt) (Y := 6) (tgt := 44) hx hb dX10_widened_32 (by decide) rfl (by decide) (fun c32 => ?_) (fun c32 => ?_)
        · skip
          refine lv_lload_n hx hb dX10_widened_44 rfl (lv_at hl 1 rfl) ?_
          refine lv_l2d hx hb dX10_widened_45 ?_
          refine lv_topd (fun x45 e_x45 => ?_)
          refine call_jSP (As := [.double x45]) (rest := []) ⟨hx, hb, hml, hown, hts⟩ (tJxe99ae_doubleToLongBits_ccdee (l := l) x45 (by rw [e_x45]; exact l2d_ok _)) (va_cwS 1 hts (gS (wr27 _ (List.mem_of_getElem? (i := 19) rfl)) (wr27 _ (List.mem_of_getElem? (i := 20) rfl)) (wr27 _ (List.mem_of_getElem? (i := 21) rfl)) (wr27 _ (List.mem_of_getElem? (i := 22) rfl))) rfl rfl rfl (by decide +kernel) ⟨Nat.le_of_ble_eq_true rfl, Nat.le_of_ble_eq_true rfl⟩) (hK.sub [] rfl) hP hD hE hS hA rfl hl.1 rfl (Nat.le_of_ble_eq_true rfl) dX10_widened_46 ⟨Nat.le_of_ble_eq_true rfl, Nat.le_of_ble_eq_true rfl⟩ (fun r46 w9 H locs hw46 hP hD hS => ?_)
          obtain ⟨rfl, hw46_0⟩ := hw46
          have b_r46 := jB r46
          subst hAe
          rw [hQ]
          exact W.lret (v := r46) hx hb hr (fun t ht hW => ⟨⟨r46, _, rfl, ⟨rfl, by first | exact NumOK.f (by omega) (l2f_ok v9) (by rw [e_x40, hw37_0, e_x36]) | exact NumOK.d (by omega) (l2d_ok v9) (by rw [hw46_0, e_x45])⟩, by rw [ht]; exact hP, va_K.moved hW.alike hK, hD⟩, hS.F ht⟩) hS.2.2 dX10_widened_49
        · skip
          refine lv_lload_n hx hb dX10_widened_35 rfl (lv_at hl 1 rfl) ?_
          refine lv_l2f hx hb dX10_widened_36 ?_
          refine lv_topf (fun x36 e_x36 => ?_)
          refine call_iSP (As := [.float x36]) (rest := []) ⟨hx, hb, hml, hown, hts⟩ (tJxf58ca_floatToIntBits_5c35a (l := l) x36 (by rw [e_x36]; exact l2f_ok _)) (va_cwS 1 hts (gS (wr28 _ (List.mem_of_getElem? (i := 7) rfl)) (wr28 _ (List.mem_of_getElem? (i := 8) rfl)) (wr28 _ (List.mem_of_getElem? (i := 9) rfl)) (wr28 _ (List.mem_of_getElem? (i := 10) rfl))) rfl rfl rfl (by decide +kernel) ⟨Nat.le_of_ble_eq_true rfl, Nat.le_of_ble_eq_true rfl⟩) (hK.sub [] rfl) hP hD hE hS hA rfl hl.1 rfl (Nat.le_of_ble_eq_true rfl) dX10_widened_37 ⟨Nat.le_of_ble_eq_true rfl, Nat.le_of_ble_eq_true rfl⟩ (fun r37 w9 H locs hw37 hP hD hS => ?_)
          obtain ⟨rfl, hw37_0⟩ := hw37
          have b_r37 := iB r37
          refine m_i2l (X := r37.toInt) hx hb dX10_widened_40 rfl (fun x40 e_x40 g_x40 => ?_)
          refine lv_goto (tgt := 49) hx hb dX10_widened_41 (by decide) ?_
          subst hAe
          rw [hQ]
          exact W.lret (v := x40) hx hb hr (fun t ht hW => ⟨⟨x40, _, rfl, ⟨rfl, by first | exact NumOK.f (by omega) (l2f_ok v9) (by rw [e_x40, hw37_0, e_x36]) | exact NumOK.d (by omega) (l2d_ok v9) (by rw [hw46_0, e_x45])⟩, by rw [ht]; exact hP, va_K.moved hW.alike hK, hD⟩, hS.F ht⟩) hS.2.2 dX10_widened_49
      · skip
        refine lv_lload_n hx hb dX10_widened_19 rfl (lv_at hl 1 rfl) ?_
        refine m_l2i hx hb dX10_widened_20 (fun x20 e_x20 => ?_)
        have b_x20 := iB x20
        refine vn_i2f hx hb (by rw [hml]; exact hl.1.symm) hown k_27_15 k_27_16 k_27_17 k_27_18 (hv := by exact fOK_s (by rw [e_x20]; exact p_0.1 (by omega))) (Nat.le_of_ble_eq_true rfl) (Nat.le_of_ble_eq_true rfl) dX10_widened_21 ?_
        refine lv_topf (fun x21 e_x21 => ?_)
        refine lv_f2d hx hb dX10_widened_24 (by exact dOK_n (f2d_ok (by rw [e_x21, e_x20]; exact p_0.1 (by omega)))) ?_
        refine lv_topd (fun x24 e_x24 => ?_)
        refine call_jSP (As := [.double x24]) (rest := []) ⟨hx, hb, hml, hown, hts⟩ (tJxe99ae_doubleToLongBits_ccdee (l := l) x24 (by rw [e_x24, e_x21, e_x20]; exact f2d_ok (p_0.1 (by omega)))) (va_cwS 1 hts (gS (wr27 _ (List.mem_of_getElem? (i := 19) rfl)) (wr27 _ (List.mem_of_getElem? (i := 20) rfl)) (wr27 _ (List.mem_of_getElem? (i := 21) rfl)) (wr27 _ (List.mem_of_getElem? (i := 22) rfl))) rfl rfl rfl (by decide +kernel) ⟨Nat.le_of_ble_eq_true rfl, Nat.le_of_ble_eq_true rfl⟩) (hK.sub [] rfl) hP hD hE hS hA rfl hl.1 rfl (Nat.le_of_ble_eq_true rfl) dX10_widened_25 ⟨Nat.le_of_ble_eq_true rfl, Nat.le_of_ble_eq_true rfl⟩ (fun r25 w9 H locs hw25 hP hD hS => ?_)
        obtain ⟨rfl, hw25_0⟩ := hw25
        have b_r25 := jB r25
        subst hAe
        rw [hQ]
        exact W.lret (v := r25) hx hb hr (fun t ht hW => ⟨⟨r25, _, rfl, ⟨rfl, by exact NumOK.d (by omega) (by rw [e_x24, e_x21, e_x20]; exact f2d_ok (p_0.1 (by omega))) hw25_0⟩, by rw [ht]; exact hP, va_K.moved hW.alike hK, hD⟩, hS.F ht⟩) hS.2.2 dX10_widened_28
    · skip
      refine lv_lload_n hx hb dX10_widened_11 rfl (lv_at hl 1 rfl) ?_
      subst hAe
      rw [hQ]
      exact W.lret (v := v9) hx hb hr (fun t ht hW => ⟨⟨v9, _, rfl, ⟨rfl, by first | exact p_0.eq (by omega) | exact NumOK.low (by omega) (by omega)⟩, by rw [ht]; exact hP, va_K.moved hW.alike hK, hD⟩, hS.F ht⟩) hS.2.2 dX10_widened_12

def rmX10_whole : Room := { frames := 20, cells := 0, slots := 0, locals := 400 }
set_option maxHeartbeats 4000000 in
set_option maxRecDepth 100000 in
theorem tX10_whole {l : Launch} {D : va_G} {K : Nat → Nat → Nat} (a9 : Int32) (v9 : Int64) (p_0 : NumOK a9 v9) : CtJ l yX10_whole (wG yX10_whole cX10_whole 3 (some .long)) rmX10_whole D [] K [.int a9, .long v9] [] (fun r w1 => w1 = []) 0 0 := by
  intro sz
  refine Met.ofW (cc := cX10_whole) (maxL := 3) (ret := (some .long)) (by decide) rfl ?_
  intro p e s m args below meth c s₁ B hml hv
  obtain ⟨rfl, hsz, hP, hK, hD0, hE⟩ := hv
  have hx := B.exec
  have hb := B.bytes
  have hr := B.returns
  have hts := atoms_spec (ws := (wG yX10_whole cX10_whole 3 (some .long))) B.pre
  have hown : s.vm.findClass RX10 = some m.cls := findClass_of_methodNamed B.named
  have hlocks := B.notSynchronized
  subst hsz
  have hD := hD0.self (sz := s.heap.size)
  obtain ⟨A, hAe⟩ : ∃ A : Nat → Prop, A = va_A [] s.heap.size := ⟨_, rfl⟩
  rw [← hAe] at hD hE
  have hA : ∀ q : Nat, s.heap.size ≤ q → A q := fun q h => by rw [hAe]; exact Or.inr h
  have hS : va_S A s.heap s.heap [] := va_S.rf
  have hl := lv_entry ([.int a9, .long v9]) (n := 3) (Nat.le_of_ble_eq_true rfl)
  rw [lg_entry_eq]
  generalize (lg_sl ([.int a9, .long v9]) ++ List.replicate (3 - (lg_sl ([.int a9, .long v9])).length) Slot.unset).toArray = ls at hl ⊢
  have hl : lv_has ls 3 [(0, .int a9), (1, .long v9)] := hl
  refine wq (fun Q hQ => ?_)
  have kc0 : (6 : Int32).toInt = 6 := by decide
  have kc1 : (7 : Int32).toInt = 7 := by decide
  have k_52_18 := hts (.methodLink RX10 257 ⟨"java/lang/Double", "longBitsToDouble", "(J)D"⟩) (List.mem_cons_of_mem _ (wr52 _ (List.mem_of_getElem? (i := 18) rfl)))
  have k_52_19 := hts (.native ⟨"java/lang/Double", "longBitsToDouble", "(J)D"⟩) (List.mem_cons_of_mem _ (wr52 _ (List.mem_of_getElem? (i := 19) rfl)))
  have k_52_20 := hts (.static ⟨"java/lang/Double", "longBitsToDouble", "(J)D"⟩) (List.mem_cons_of_mem _ (wr52 _ (List.mem_of_getElem? (i := 20) rfl)))
  have k_28_2 := hts (.initialized "java/lang/Double") (List.mem_cons_of_mem _ (wr28 _ (List.mem_of_getElem? (i := 2) rfl)))
  have k_27_15 := hts (.methodLink RX10 241 ⟨"java/lang/Float", "intBitsToFloat", "(I)F"⟩) (List.mem_cons_of_mem _ (wr27 _ (List.mem_of_getElem? (i := 15) rfl)))
  have k_27_16 := hts (.native ⟨"java/lang/Float", "intBitsToFloat", "(I)F"⟩) (List.mem_cons_of_mem _ (wr27 _ (List.mem_of_getElem? (i := 16) rfl)))
  have k_27_17 := hts (.static ⟨"java/lang/Float", "intBitsToFloat", "(I)F"⟩) (List.mem_cons_of_mem _ (wr27 _ (List.mem_of_getElem? (i := 17) rfl)))
  have k_27_18 := hts (.initialized "java/lang/Float") (List.mem_cons_of_mem _ (wr27 _ (List.mem_of_getElem? (i := 18) rfl)))
  obtain ⟨H, hH⟩ : ∃ H : Heap, H = s.heap := ⟨_, rfl⟩
  obtain ⟨locs, hlc⟩ : ∃ L : List Loc, L = [] := ⟨_, rfl⟩
  have hP : va_P D vwCl [] H := by rw [hH]; exact hP
  have hS : va_S A s.heap H locs := by rw [hH, hlc]; exact hS
  refine wHL hH hlc ?_
  have b_a9 := iB a9
  have b_v9 := jB v9
  refine lv_iload_n hx hb dX10_whole_0 rfl (lv_at hl 0 rfl) ?_
  refine lv_bipush (v := 6) hx hb dX10_whole_1 (by decide) ?_
  refine m_icmp_ne (X := a9.toInt) (Y := 6) (tgt := 15) hx hb dX10_whole_3 (by decide) rfl (by decide) (fun c3 => ?_) (fun c3 => ?_)
  · skip
    refine lv_iload_n hx hb dX10_whole_15 rfl (lv_at hl 0 rfl) ?_
    refine lv_bipush (v := 7) hx hb dX10_whole_16 (by decide) ?_
    refine m_icmp_ne (X := a9.toInt) (Y := 7) (tgt := 29) hx hb dX10_whole_18 (by decide) rfl (by decide) (fun c18 => ?_) (fun c18 => ?_)
    · skip
      refine lv_lload_n hx hb dX10_whole_29 rfl (lv_at hl 1 rfl) ?_
      subst hAe
      rw [hQ]
      exact W.lret (v := v9) hx hb hr (fun t ht hW => ⟨⟨v9, _, rfl, rfl, by rw [ht]; exact hP, va_K.moved hW.alike hK, hD⟩, hS.F ht⟩) hS.2.2 dX10_whole_30
    · skip
      refine lv_lload_n hx hb dX10_whole_21 rfl (lv_at hl 1 rfl) ?_
      refine vn_l2d hx hb (by rw [hml]; exact hl.1.symm) hown k_52_18 k_52_19 k_52_20 k_28_2 (hv := by exact dOK_s (p_0.2 (by omega))) (Nat.le_of_ble_eq_true rfl) (Nat.le_of_ble_eq_true rfl) dX10_whole_22 ?_
      refine lv_topd (fun x22 e_x22 => ?_)
      refine lv_d2l hx hb dX10_whole_25 ?_
      refine lv_topl (fun x25 e_x25 => ?_)
      refine lv_goto (tgt := 30) hx hb dX10_whole_26 (by decide) ?_
      subst hAe
      rw [hQ]
      exact W.lret (v := x25) hx hb hr (fun t ht hW => ⟨⟨x25, _, rfl, rfl, by rw [ht]; exact hP, va_K.moved hW.alike hK, hD⟩, hS.F ht⟩) hS.2.2 dX10_whole_30
  · skip
    refine lv_lload_n hx hb dX10_whole_6 rfl (lv_at hl 1 rfl) ?_
    refine m_l2i hx hb dX10_whole_7 (fun x7 e_x7 => ?_)
    have b_x7 := iB x7
    refine vn_i2f hx hb (by rw [hml]; exact hl.1.symm) hown k_27_15 k_27_16 k_27_17 k_27_18 (hv := by exact fOK_s (by rw [e_x7]; exact p_0.1 (by omega))) (Nat.le_of_ble_eq_true rfl) (Nat.le_of_ble_eq_true rfl) dX10_whole_8 ?_
    refine lv_topf (fun x8 e_x8 => ?_)
    refine lv_f2l hx hb dX10_whole_11 ?_
    refine lv_topl (fun x11 e_x11 => ?_)
    refine lv_goto (tgt := 30) hx hb dX10_whole_12 (by decide) ?_
    subst hAe
    rw [hQ]
    exact W.lret (v := x11) hx hb hr (fun t ht hW => ⟨⟨x11, _, rfl, rfl, by rw [ht]; exact hP, va_K.moved hW.alike hK, hD⟩, hS.F ht⟩) hS.2.2 dX10_whole_30
