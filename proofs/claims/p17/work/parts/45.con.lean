theorem dX8_init_0 : decode cX8_init 0 = .ok (.aload_n 0, 1) := by decide +kernel
theorem dX8_init_1 : decode cX8_init 1 = .ok (.invokespecial 3, 3) := by decide +kernel
theorem dX8_init_4 : decode cX8_init 4 = .ok (.aload_n 0, 1) := by decide +kernel
theorem dX8_init_5 : decode cX8_init 5 = .ok (.iconst (-1), 1) := by decide +kernel
theorem dX8_init_6 : decode cX8_init 6 = .ok (.putfield 9, 3) := by decide +kernel
theorem dX8_init_9 : decode cX8_init 9 = .ok (.return_, 1) := by decide +kernel
theorem dX6_init_0 : decode cX6_init 0 = .ok (.aload_n 0, 1) := by decide +kernel
theorem dX6_init_1 : decode cX6_init 1 = .ok (.invokespecial 3, 3) := by decide +kernel
theorem dX6_init_4 : decode cX6_init 4 = .ok (.aload_n 0, 1) := by decide +kernel
theorem dX6_init_5 : decode cX6_init 5 = .ok (.iconst 3, 1) := by decide +kernel
theorem dX6_init_6 : decode cX6_init 6 = .ok (.newarray .int, 2) := by decide +kernel
theorem dX6_init_8 : decode cX6_init 8 = .ok (.putfield 11, 3) := by decide +kernel
theorem dX6_init_11 : decode cX6_init 11 = .ok (.aload_n 0, 1) := by decide +kernel
theorem dX6_init_12 : decode cX6_init 12 = .ok (.iconst 3, 1) := by decide +kernel
theorem dX6_init_13 : decode cX6_init 13 = .ok (.newarray .int, 2) := by decide +kernel
theorem dX6_init_15 : decode cX6_init 15 = .ok (.putfield 15, 3) := by decide +kernel
theorem dX6_init_18 : decode cX6_init 18 = .ok (.return_, 1) := by decide +kernel
theorem dX1_init_0 : decode cX1_init 0 = .ok (.aload_n 0, 1) := by decide +kernel
theorem dX1_init_1 : decode cX1_init 1 = .ok (.invokespecial 3, 3) := by decide +kernel
theorem dX1_init_4 : decode cX1_init 4 = .ok (.aload_n 0, 1) := by decide +kernel
theorem dX1_init_5 : decode cX1_init 5 = .ok (.aload_n 1, 1) := by decide +kernel
theorem dX1_init_6 : decode cX1_init 6 = .ok (.putfield 9, 3) := by decide +kernel
theorem dX1_init_9 : decode cX1_init 9 = .ok (.return_, 1) := by decide +kernel
theorem dX7_init_0 : decode cX7_init 0 = .ok (.aload_n 0, 1) := by decide +kernel
theorem dX7_init_1 : decode cX7_init 1 = .ok (.invokespecial 5, 3) := by decide +kernel
theorem dX7_init_4 : decode cX7_init 4 = .ok (.aload_n 0, 1) := by decide +kernel
theorem dX7_init_5 : decode cX7_init 5 = .ok (.sipush 301, 3) := by decide +kernel
theorem dX7_init_8 : decode cX7_init 8 = .ok (.newarray .int, 2) := by decide +kernel
theorem dX7_init_10 : decode cX7_init 10 = .ok (.putfield 11, 3) := by decide +kernel
theorem dX7_init_13 : decode cX7_init 13 = .ok (.aload_n 0, 1) := by decide +kernel
theorem dX7_init_14 : decode cX7_init 14 = .ok (.sipush 301, 3) := by decide +kernel
theorem dX7_init_17 : decode cX7_init 17 = .ok (.newarray .int, 2) := by decide +kernel
theorem dX7_init_19 : decode cX7_init 19 = .ok (.putfield 15, 3) := by decide +kernel
theorem dX7_init_22 : decode cX7_init 22 = .ok (.aload_n 0, 1) := by decide +kernel
theorem dX7_init_23 : decode cX7_init 23 = .ok (.sipush 301, 3) := by decide +kernel
theorem dX7_init_26 : decode cX7_init 26 = .ok (.newarray .int, 2) := by decide +kernel
theorem dX7_init_28 : decode cX7_init 28 = .ok (.putfield 18, 3) := by decide +kernel
theorem dX7_init_31 : decode cX7_init 31 = .ok (.aload_n 0, 1) := by decide +kernel
theorem dX7_init_32 : decode cX7_init 32 = .ok (.sipush 4000, 3) := by decide +kernel
theorem dX7_init_35 : decode cX7_init 35 = .ok (.newarray .long, 2) := by decide +kernel
theorem dX7_init_37 : decode cX7_init 37 = .ok (.putfield 21, 3) := by decide +kernel
theorem dX7_init_40 : decode cX7_init 40 = .ok (.aload_n 0, 1) := by decide +kernel
theorem dX7_init_41 : decode cX7_init 41 = .ok (.iconst 1, 1) := by decide +kernel
theorem dX7_init_42 : decode cX7_init 42 = .ok (.putfield 25, 3) := by decide +kernel
theorem dX7_init_45 : decode cX7_init 45 = .ok (.return_, 1) := by decide +kernel
theorem dX5_init_0 : decode cX5_init 0 = .ok (.aload_n 0, 1) := by decide +kernel
theorem dX5_init_1 : decode cX5_init 1 = .ok (.invokespecial 3, 3) := by decide +kernel
theorem dX5_init_4 : decode cX5_init 4 = .ok (.aload_n 0, 1) := by decide +kernel
theorem dX5_init_5 : decode cX5_init 5 = .ok (.sipush 256, 3) := by decide +kernel
theorem dX5_init_8 : decode cX5_init 8 = .ok (.newarray .byte, 2) := by decide +kernel
theorem dX5_init_10 : decode cX5_init 10 = .ok (.putfield 11, 3) := by decide +kernel
theorem dX5_init_13 : decode cX5_init 13 = .ok (.aload_n 0, 1) := by decide +kernel
theorem dX5_init_14 : decode cX5_init 14 = .ok (.aload_n 1, 1) := by decide +kernel
theorem dX5_init_15 : decode cX5_init 15 = .ok (.putfield 15, 3) := by decide +kernel
theorem dX5_init_18 : decode cX5_init 18 = .ok (.return_, 1) := by decide +kernel
theorem dX2_init_0 : decode cX2_init 0 = .ok (.aload_n 0, 1) := by decide +kernel
theorem dX2_init_1 : decode cX2_init 1 = .ok (.invokespecial 3, 3) := by decide +kernel
theorem dX2_init_4 : decode cX2_init 4 = .ok (.aload_n 0, 1) := by decide +kernel
theorem dX2_init_5 : decode cX2_init 5 = .ok (.aload_n 1, 1) := by decide +kernel
theorem dX2_init_6 : decode cX2_init 6 = .ok (.putfield 9, 3) := by decide +kernel
theorem dX2_init_9 : decode cX2_init 9 = .ok (.aload_n 0, 1) := by decide +kernel
theorem dX2_init_10 : decode cX2_init 10 = .ok (.new 15, 3) := by decide +kernel
theorem dX2_init_13 : decode cX2_init 13 = .ok (.dup, 1) := by decide +kernel
theorem dX2_init_14 : decode cX2_init 14 = .ok (.invokespecial 17, 3) := by decide +kernel
theorem dX2_init_17 : decode cX2_init 17 = .ok (.putfield 18, 3) := by decide +kernel
theorem dX2_init_20 : decode cX2_init 20 = .ok (.aload_n 0, 1) := by decide +kernel
theorem dX2_init_21 : decode cX2_init 21 = .ok (.aload_n 0, 1) := by decide +kernel
theorem dX2_init_22 : decode cX2_init 22 = .ok (.getfield 18, 3) := by decide +kernel
theorem dX2_init_25 : decode cX2_init 25 = .ok (.putfield 22, 3) := by decide +kernel
theorem dX2_init_28 : decode cX2_init 28 = .ok (.return_, 1) := by decide +kernel
theorem dX3_init_0 : decode cX3_init 0 = .ok (.aload_n 0, 1) := by decide +kernel
theorem dX3_init_1 : decode cX3_init 1 = .ok (.invokespecial 3, 3) := by decide +kernel
theorem dX3_init_4 : decode cX3_init 4 = .ok (.aload_n 0, 1) := by decide +kernel
theorem dX3_init_5 : decode cX3_init 5 = .ok (.bipush 100, 2) := by decide +kernel
theorem dX3_init_7 : decode cX3_init 7 = .ok (.anewarray 9, 3) := by decide +kernel
theorem dX3_init_10 : decode cX3_init 10 = .ok (.putfield 11, 3) := by decide +kernel
theorem dX3_init_13 : decode cX3_init 13 = .ok (.aload_n 0, 1) := by decide +kernel
theorem dX3_init_14 : decode cX3_init 14 = .ok (.new 9, 3) := by decide +kernel
theorem dX3_init_17 : decode cX3_init 17 = .ok (.dup, 1) := by decide +kernel
theorem dX3_init_18 : decode cX3_init 18 = .ok (.invokespecial 17, 3) := by decide +kernel
theorem dX3_init_21 : decode cX3_init 21 = .ok (.putfield 18, 3) := by decide +kernel
theorem dX3_init_24 : decode cX3_init 24 = .ok (.return_, 1) := by decide +kernel
def rmX8_init : Room := { frames := 20, cells := 0, slots := 0, locals := 400 }
set_option maxHeartbeats 8000000 in
set_option maxRecDepth 100000 in
theorem tX8_init {l : Launch} {D : va_G} {K : Nat → Nat → Nat} {cs : Nat → ClassId} (o : Nat) : CtV l yX8_init (wG yX8_init cX8_init 1 none) rmX8_init D (twT cs) K [.ref o] [(o, .inr (7, [.int 0, .long 0]))] (fun w1 => w1 = [(o, .inr (7, [.int (-1), .long 0]))]) 0 0 := by
  intro sz
  refine Met.ofW (cc := cX8_init) (maxL := 1) (ret := none) (by decide) rfl ?_
  intro p e s m args below meth c s₁ B hml hv
  obtain ⟨rfl, hsz, hP, hK, hD0, hE⟩ := hv
  have hx := B.exec
  have hb := B.bytes
  have hr := B.returns
  have hts := atoms_spec (ws := (wG yX8_init cX8_init 1 none)) B.pre
  have hown : s.vm.findClass RX8 = some m.cls := findClass_of_methodNamed B.named
  have hnm : meth.name = "<init>" := (name_of_methodNamed B.named B.method).1
  have hlocks := B.notSynchronized
  subst hsz
  have hD := hD0.self (sz := s.heap.size)
  obtain ⟨A, hAe⟩ : ∃ A : Nat → Prop, A = va_A [(o, .inr (7, [.int 0, .long 0]))] s.heap.size := ⟨_, rfl⟩
  rw [← hAe] at hD hE
  have hA : ∀ q : Nat, s.heap.size ≤ q → A q := fun q h => by rw [hAe]; exact Or.inr h
  have hS : va_S A s.heap s.heap [] := va_S.rf
  have hl := lv_entry ([.ref o]) (n := 1) (Nat.le_of_ble_eq_true rfl)
  rw [lg_entry_eq]
  generalize (lg_sl ([.ref o]) ++ List.replicate (1 - (lg_sl ([.ref o])).length) Slot.unset).toArray = ls at hl ⊢
  have hl : lv_has ls 1 [(0, .ref o)] := hl
  refine wq (fun Q hQ => ?_)
  have hinX8 : ∀ w ∈ wsX80, w ∈ (wG yX8_init cX8_init 1 none) := fun w h => List.mem_cons_of_mem _ (inlX8 w h)
  have k_5_1 := hts (.methodLink RX8 3 objectInit) (List.mem_cons_of_mem _ (wr5 _ (List.mem_of_getElem? (i := 1) rfl)))
  have k_1_11 := hts (.instanceMethod objectInit) (List.mem_cons_of_mem _ (wr1 _ (List.mem_of_getElem? (i := 11) rfl)))
  have k_1_12 := hts (.code objectInit ⟨#[0xb1]⟩ 1 none) (List.mem_cons_of_mem _ (wr1 _ (List.mem_of_getElem? (i := 12) rfl)))
  have k_5_2 := hts (.fieldLink RX8 9 "ArrayTrainer$Value" "cls" "I") (List.mem_cons_of_mem _ (wr5 _ (List.mem_of_getElem? (i := 2) rfl)))
  obtain ⟨H, hH⟩ : ∃ H : Heap, H = s.heap := ⟨_, rfl⟩
  obtain ⟨locs, hlc⟩ : ∃ L : List Loc, L = [] := ⟨_, rfl⟩
  have hP : va_P D vwCl [(o, .inr (7, [.int 0, .long 0]))] H := by rw [hH]; exact hP
  have hS : va_S A s.heap H locs := by rw [hH, hlc]; exact hS
  refine wHL hH hlc ?_
  refine lv_aload_n hx hb dX8_init_0 rfl (lv_at hl 0 rfl) ?_
  refine W.objInit hx hb hown k_5_1 k_1_11 k_1_12 rfl (by rw [hml]; exact hl.1) rfl dX8_init_1 (Nat.le_of_ble_eq_true rfl) (Nat.le_of_ble_eq_true rfl) ?_
  refine lv_aload_n hx hb dX8_init_4 rfl (lv_at hl 0 rfl) ?_
  refine lv_iconst (v := (-1)) hx hb dX8_init_5 (by decide) ?_
  refine va_put (D := D) (ci := 7) (v := .int (-1)) (ty := .int) (C := RX8) (T := TX8) (N := 2) hx hb hts hinX8 tyX8 tyX8_ok nmX8 hown hK hP hD hS 0 rfl rfl 0 (by decide) k_5_2 (fun _ h9 => h9) rfl (by decide +kernel) rfl rfl (Nat.le_of_ble_eq_true rfl) dX8_init_6 (fun H locs hP hD hS => ?_)
  have hP : va_P D vwCl [(o, .inr (7, [.int (-1), .long 0]))] H := hP
  have hD : va_D A [(o, .inr (7, [.int (-1), .long 0]))] := hD
  subst hAe
  rw [hQ]
  exact W.vret hx hb hr (fun t ht hW => ⟨⟨_, rfl, rfl, by rw [ht]; exact hP, va_K.moved hW.alike hK, hD⟩, hS.F ht⟩) hS.2.2 dX8_init_9

def rmX6_init : Room := { frames := 20, cells := 2, slots := 6, locals := 400 }
set_option maxHeartbeats 8000000 in
set_option maxRecDepth 100000 in
theorem tX6_init {l : Launch} {D : va_G} {K : Nat → Nat → Nat} {cs : Nat → ClassId} (o : Nat) : CtV l yX6_init (wG yX6_init cX6_init 1 none) rmX6_init D (twT cs) K [.ref o] [(o, .inr (5, [.int 0, .int 0, .int 0, .int 0, .int 0, .int 0, .int 0, .int 0, .int 0, .int 0, .null, .null, .int 0, .int 0, .long 0]))] (fun w1 => ∃ q6 q13 : Nat, w1 = [(o, .inr (5, [.int 0, .int 0, .int 0, .int 0, .int 0, .int 0, .int 0, .int 0, .int 0, .int 0, .ref q6, .ref q13, .int 0, .int 0, .long 0])), (q6, .inl (cs 0, (3, .inl (fun _ => 0)))), (q13, .inl (cs 0, (3, .inl (fun _ => 0))))]) 2 6 := by
  intro sz
  refine Met.ofW (cc := cX6_init) (maxL := 1) (ret := none) (by decide) rfl ?_
  intro p e s m args below meth c s₁ B hml hv
  obtain ⟨rfl, hsz, hP, hK, hD0, hE⟩ := hv
  have hx := B.exec
  have hb := B.bytes
  have hr := B.returns
  have hts := atoms_spec (ws := (wG yX6_init cX6_init 1 none)) B.pre
  have hown : s.vm.findClass RX6 = some m.cls := findClass_of_methodNamed B.named
  have hnm : meth.name = "<init>" := (name_of_methodNamed B.named B.method).1
  have hlocks := B.notSynchronized
  subst hsz
  have hD := hD0.self (sz := s.heap.size)
  obtain ⟨A, hAe⟩ : ∃ A : Nat → Prop, A = va_A [(o, .inr (5, [.int 0, .int 0, .int 0, .int 0, .int 0, .int 0, .int 0, .int 0, .int 0, .int 0, .null, .null, .int 0, .int 0, .long 0]))] s.heap.size := ⟨_, rfl⟩
  rw [← hAe] at hD hE
  have hA : ∀ q : Nat, s.heap.size ≤ q → A q := fun q h => by rw [hAe]; exact Or.inr h
  have hS : va_S A s.heap s.heap [] := va_S.rf
  have hl := lv_entry ([.ref o]) (n := 1) (Nat.le_of_ble_eq_true rfl)
  rw [lg_entry_eq]
  generalize (lg_sl ([.ref o]) ++ List.replicate (1 - (lg_sl ([.ref o])).length) Slot.unset).toArray = ls at hl ⊢
  have hl : lv_has ls 1 [(0, .ref o)] := hl
  refine wq (fun Q hQ => ?_)
  have hinX6 : ∀ w ∈ wsX60, w ∈ (wG yX6_init cX6_init 1 none) := fun w h => List.mem_cons_of_mem _ (inlX6 w h)
  have k_2_22 := hts (.methodLink RX6 3 objectInit) (List.mem_cons_of_mem _ (wr2 _ (List.mem_of_getElem? (i := 22) rfl)))
  have k_1_11 := hts (.instanceMethod objectInit) (List.mem_cons_of_mem _ (wr1 _ (List.mem_of_getElem? (i := 11) rfl)))
  have k_1_12 := hts (.code objectInit ⟨#[0xb1]⟩ 1 none) (List.mem_cons_of_mem _ (wr1 _ (List.mem_of_getElem? (i := 12) rfl)))
  have k_2_23 := hts (.arrayClass .int) (List.mem_cons_of_mem _ (wr2 _ (List.mem_of_getElem? (i := 23) rfl)))
  have k_3_0 := hts (.fieldLink RX6 11 "ArrayTrainer$Step" "indexVar" "[I") (List.mem_cons_of_mem _ (wr3 _ (List.mem_of_getElem? (i := 0) rfl)))
  have k_3_1 := hts (.fieldLink RX6 15 "ArrayTrainer$Step" "indexNumber" "[I") (List.mem_cons_of_mem _ (wr3 _ (List.mem_of_getElem? (i := 1) rfl)))
  obtain ⟨H, hH⟩ : ∃ H : Heap, H = s.heap := ⟨_, rfl⟩
  obtain ⟨locs, hlc⟩ : ∃ L : List Loc, L = [] := ⟨_, rfl⟩
  have hP : va_P D vwCl [(o, .inr (5, [.int 0, .int 0, .int 0, .int 0, .int 0, .int 0, .int 0, .int 0, .int 0, .int 0, .null, .null, .int 0, .int 0, .long 0]))] H := by rw [hH]; exact hP
  have hS : va_S A s.heap H locs := by rw [hH, hlc]; exact hS
  refine wHL hH hlc ?_
  refine lv_aload_n hx hb dX6_init_0 rfl (lv_at hl 0 rfl) ?_
  refine W.objInit hx hb hown k_2_22 k_1_11 k_1_12 rfl (by rw [hml]; exact hl.1) rfl dX6_init_1 (Nat.le_of_ble_eq_true rfl) (Nat.le_of_ble_eq_true rfl) ?_
  refine lv_aload_n hx hb dX6_init_4 rfl (lv_at hl 0 rfl) ?_
  refine lv_iconst (v := 3) hx hb dX6_init_5 (by decide) ?_
  refine m_newa (atype := .int) (ty := .int) (a0 := (3, .inl (fun _ => 0))) hx hb k_2_23 rfl hK 0 rfl (fun _ _ h => h) hP hD hS hA (fun _ => rfl) (by decide) (by decide) (by decide +kernel) (by show _ ≤ 2; omega) (by show _ ≤ 6; omega) dX6_init_6 (fun q6 H hP hD hS => ?_)
  have hP : va_P D vwCl [(o, .inr (5, [.int 0, .int 0, .int 0, .int 0, .int 0, .int 0, .int 0, .int 0, .int 0, .int 0, .null, .null, .int 0, .int 0, .long 0])), (q6, .inl (cs 0, (3, .inl (fun _ => 0))))] H := hP
  have hD : va_D A [(o, .inr (5, [.int 0, .int 0, .int 0, .int 0, .int 0, .int 0, .int 0, .int 0, .int 0, .int 0, .null, .null, .int 0, .int 0, .long 0])), (q6, .inl (cs 0, (3, .inl (fun _ => 0))))] := hD
  refine va_putF (D := D) (ci := 5) (v := .ref q6) (ty := .array .int) (C := RX6) (T := TX6) (N := 15) hx hb hts hinX6 tyX6 tyX6_ok nmX6 hown hK hP hD hS 0 rfl rfl 10 (by decide) k_3_0 (fun _ h9 => h9) rfl hnm rfl (by decide +kernel) rfl rfl (Nat.le_of_ble_eq_true rfl) dX6_init_8 (fun H locs hP hD hS => ?_)
  have hP : va_P D vwCl [(o, .inr (5, [.int 0, .int 0, .int 0, .int 0, .int 0, .int 0, .int 0, .int 0, .int 0, .int 0, .ref q6, .null, .int 0, .int 0, .long 0])), (q6, .inl (cs 0, (3, .inl (fun _ => 0))))] H := hP
  have hD : va_D A [(o, .inr (5, [.int 0, .int 0, .int 0, .int 0, .int 0, .int 0, .int 0, .int 0, .int 0, .int 0, .ref q6, .null, .int 0, .int 0, .long 0])), (q6, .inl (cs 0, (3, .inl (fun _ => 0))))] := hD
  refine lv_aload_n hx hb dX6_init_11 rfl (lv_at hl 0 rfl) ?_
  refine lv_iconst (v := 3) hx hb dX6_init_12 (by decide) ?_
  refine m_newa (atype := .int) (ty := .int) (a0 := (3, .inl (fun _ => 0))) hx hb k_2_23 rfl hK 0 rfl (fun _ _ h => h) hP hD hS hA (fun _ => rfl) (by decide) (by decide) (by decide +kernel) (by show _ ≤ 2; omega) (by show _ ≤ 6; omega) dX6_init_13 (fun q13 H hP hD hS => ?_)
  have hP : va_P D vwCl [(o, .inr (5, [.int 0, .int 0, .int 0, .int 0, .int 0, .int 0, .int 0, .int 0, .int 0, .int 0, .ref q6, .null, .int 0, .int 0, .long 0])), (q6, .inl (cs 0, (3, .inl (fun _ => 0)))), (q13, .inl (cs 0, (3, .inl (fun _ => 0))))] H := hP
  have hD : va_D A [(o, .inr (5, [.int 0, .int 0, .int 0, .int 0, .int 0, .int 0, .int 0, .int 0, .int 0, .int 0, .ref q6, .null, .int 0, .int 0, .long 0])), (q6, .inl (cs 0, (3, .inl (fun _ => 0)))), (q13, .inl (cs 0, (3, .inl (fun _ => 0))))] := hD
  refine va_putF (D := D) (ci := 5) (v := .ref q13) (ty := .array .int) (C := RX6) (T := TX6) (N := 15) hx hb hts hinX6 tyX6 tyX6_ok nmX6 hown hK hP hD hS 0 rfl rfl 11 (by decide) k_3_1 (fun _ h9 => h9) rfl hnm rfl (by decide +kernel) rfl rfl (Nat.le_of_ble_eq_true rfl) dX6_init_15 (fun H locs hP hD hS => ?_)
  have hP : va_P D vwCl [(o, .inr (5, [.int 0, .int 0, .int 0, .int 0, .int 0, .int 0, .int 0, .int 0, .int 0, .int 0, .ref q6, .ref q13, .int 0, .int 0, .long 0])), (q6, .inl (cs 0, (3, .inl (fun _ => 0)))), (q13, .inl (cs 0, (3, .inl (fun _ => 0))))] H := hP
  have hD : va_D A [(o, .inr (5, [.int 0, .int 0, .int 0, .int 0, .int 0, .int 0, .int 0, .int 0, .int 0, .int 0, .ref q6, .ref q13, .int 0, .int 0, .long 0])), (q6, .inl (cs 0, (3, .inl (fun _ => 0)))), (q13, .inl (cs 0, (3, .inl (fun _ => 0))))] := hD
  subst hAe
  rw [hQ]
  exact W.vret hx hb hr (fun t ht hW => ⟨⟨_, rfl, ⟨q6, q13, rfl⟩, by rw [ht]; exact hP, va_K.moved hW.alike hK, hD⟩, hS.F ht⟩) hS.2.2 dX6_init_18

def rmX1_init : Room := { frames := 20, cells := 0, slots := 0, locals := 400 }
set_option maxHeartbeats 8000000 in
set_option maxRecDepth 100000 in
theorem tX1_init {l : Launch} {D : va_G} {K : Nat → Nat → Nat} {cs : Nat → ClassId} (o : Nat) (t1 : Nat) : CtV l yX1_init (wG yX1_init cX1_init 2 none) rmX1_init D (twT cs) K [.ref o, .ref t1] [(o, .inr (0, [.null, .int 0, .int 0, .int 0, .int 0, .int 0, .int 0]))] (fun w1 => w1 = [(o, .inr (0, [.ref t1, .int 0, .int 0, .int 0, .int 0, .int 0, .int 0]))]) 0 0 := by
  intro sz
  refine Met.ofW (cc := cX1_init) (maxL := 2) (ret := none) (by decide) rfl ?_
  intro p e s m args below meth c s₁ B hml hv
  obtain ⟨rfl, hsz, hP, hK, hD0, hE⟩ := hv
  have hx := B.exec
  have hb := B.bytes
  have hr := B.returns
  have hts := atoms_spec (ws := (wG yX1_init cX1_init 2 none)) B.pre
  have hown : s.vm.findClass RX1 = some m.cls := findClass_of_methodNamed B.named
  have hnm : meth.name = "<init>" := (name_of_methodNamed B.named B.method).1
  have hlocks := B.notSynchronized
  subst hsz
  have hD := hD0.self (sz := s.heap.size)
  obtain ⟨A, hAe⟩ : ∃ A : Nat → Prop, A = va_A [(o, .inr (0, [.null, .int 0, .int 0, .int 0, .int 0, .int 0, .int 0]))] s.heap.size := ⟨_, rfl⟩
  rw [← hAe] at hD hE
  have hA : ∀ q : Nat, s.heap.size ≤ q → A q := fun q h => by rw [hAe]; exact Or.inr h
  have hS : va_S A s.heap s.heap [] := va_S.rf
  have hl := lv_entry ([.ref o, .ref t1]) (n := 2) (Nat.le_of_ble_eq_true rfl)
  rw [lg_entry_eq]
  generalize (lg_sl ([.ref o, .ref t1]) ++ List.replicate (2 - (lg_sl ([.ref o, .ref t1])).length) Slot.unset).toArray = ls at hl ⊢
  have hl : lv_has ls 2 [(0, .ref o), (1, .ref t1)] := hl
  refine wq (fun Q hQ => ?_)
  have hinX1 : ∀ w ∈ wsX10, w ∈ (wG yX1_init cX1_init 2 none) := fun w h => List.mem_cons_of_mem _ (inlX1 w h)
  have k_3_5 := hts (.methodLink RX1 3 objectInit) (List.mem_cons_of_mem _ (wr3 _ (List.mem_of_getElem? (i := 5) rfl)))
  have k_1_11 := hts (.instanceMethod objectInit) (List.mem_cons_of_mem _ (wr1 _ (List.mem_of_getElem? (i := 11) rfl)))
  have k_1_12 := hts (.code objectInit ⟨#[0xb1]⟩ 1 none) (List.mem_cons_of_mem _ (wr1 _ (List.mem_of_getElem? (i := 12) rfl)))
  have k_3_6 := hts (.fieldLink RX1 9 "ArrayTrainer$Lexer" "text" "[B") (List.mem_cons_of_mem _ (wr3 _ (List.mem_of_getElem? (i := 6) rfl)))
  obtain ⟨H, hH⟩ : ∃ H : Heap, H = s.heap := ⟨_, rfl⟩
  obtain ⟨locs, hlc⟩ : ∃ L : List Loc, L = [] := ⟨_, rfl⟩
  have hP : va_P D vwCl [(o, .inr (0, [.null, .int 0, .int 0, .int 0, .int 0, .int 0, .int 0]))] H := by rw [hH]; exact hP
  have hS : va_S A s.heap H locs := by rw [hH, hlc]; exact hS
  refine wHL hH hlc ?_
  refine lv_aload_n hx hb dX1_init_0 rfl (lv_at hl 0 rfl) ?_
  refine W.objInit hx hb hown k_3_5 k_1_11 k_1_12 rfl (by rw [hml]; exact hl.1) rfl dX1_init_1 (Nat.le_of_ble_eq_true rfl) (Nat.le_of_ble_eq_true rfl) ?_
  refine lv_aload_n hx hb dX1_init_4 rfl (lv_at hl 0 rfl) ?_
  refine lv_aload_n hx hb dX1_init_5 rfl (lv_at hl 1 rfl) ?_
  refine va_putF (D := D) (ci := 0) (v := .ref t1) (ty := .array .byte) (C := RX1) (T := TX1) (N := 7) hx hb hts hinX1 tyX1 tyX1_ok nmX1 hown hK hP hD hS 0 rfl rfl 0 (by decide) k_3_6 (fun _ h9 => h9) rfl hnm rfl (by decide +kernel) rfl rfl (Nat.le_of_ble_eq_true rfl) dX1_init_6 (fun H locs hP hD hS => ?_)
  have hP : va_P D vwCl [(o, .inr (0, [.ref t1, .int 0, .int 0, .int 0, .int 0, .int 0, .int 0]))] H := hP
  have hD : va_D A [(o, .inr (0, [.ref t1, .int 0, .int 0, .int 0, .int 0, .int 0, .int 0]))] := hD
  subst hAe
  rw [hQ]
  exact W.vret hx hb hr (fun t ht hW => ⟨⟨_, rfl, rfl, by rw [ht]; exact hP, va_K.moved hW.alike hK, hD⟩, hS.F ht⟩) hS.2.2 dX1_init_9

def rmX7_init : Room := { frames := 20, cells := 4, slots := 4903, locals := 400 }
set_option maxHeartbeats 8000000 in
set_option maxRecDepth 100000 in
theorem tX7_init {l : Launch} {D : va_G} {K : Nat → Nat → Nat} {cs : Nat → ClassId} (o : Nat) : CtV l yX7_init (wG yX7_init cX7_init 1 none) rmX7_init D (twT cs) K [.ref o] [(o, .inr (6, [.null, .null, .null, .null, .int 0, .int 0, .int 0, .int 0, .int 0]))] (fun w1 => ∃ q8 q17 q26 q35 : Nat, w1 = [(o, .inr (6, [.ref q8, .ref q17, .ref q26, .ref q35, .int 1, .int 0, .int 0, .int 0, .int 0])), (q8, .inl (cs 0, (301, .inl (fun _ => 0)))), (q17, .inl (cs 0, (301, .inl (fun _ => 0)))), (q26, .inl (cs 0, (301, .inl (fun _ => 0)))), (q35, .inl (cs 1, (4000, .inr (.inl (fun _ => 0)))))]) 4 4903 := by
  intro sz
  refine Met.ofW (cc := cX7_init) (maxL := 1) (ret := none) (by decide) rfl ?_
  intro p e s m args below meth c s₁ B hml hv
  obtain ⟨rfl, hsz, hP, hK, hD0, hE⟩ := hv
  have hx := B.exec
  have hb := B.bytes
  have hr := B.returns
  have hts := atoms_spec (ws := (wG yX7_init cX7_init 1 none)) B.pre
  have hown : s.vm.findClass RX7 = some m.cls := findClass_of_methodNamed B.named
  have hnm : meth.name = "<init>" := (name_of_methodNamed B.named B.method).1
  have hlocks := B.notSynchronized
  subst hsz
  have hD := hD0.self (sz := s.heap.size)
  obtain ⟨A, hAe⟩ : ∃ A : Nat → Prop, A = va_A [(o, .inr (6, [.null, .null, .null, .null, .int 0, .int 0, .int 0, .int 0, .int 0]))] s.heap.size := ⟨_, rfl⟩
  rw [← hAe] at hD hE
  have hA : ∀ q : Nat, s.heap.size ≤ q → A q := fun q h => by rw [hAe]; exact Or.inr h
  have hS : va_S A s.heap s.heap [] := va_S.rf
  have hl := lv_entry ([.ref o]) (n := 1) (Nat.le_of_ble_eq_true rfl)
  rw [lg_entry_eq]
  generalize (lg_sl ([.ref o]) ++ List.replicate (1 - (lg_sl ([.ref o])).length) Slot.unset).toArray = ls at hl ⊢
  have hl : lv_has ls 1 [(0, .ref o)] := hl
  refine wq (fun Q hQ => ?_)
  have hinX7 : ∀ w ∈ wsX70, w ∈ (wG yX7_init cX7_init 1 none) := fun w h => List.mem_cons_of_mem _ (inlX7 w h)
  have k_4_17 := hts (.methodLink RX7 5 objectInit) (List.mem_cons_of_mem _ (wr4 _ (List.mem_of_getElem? (i := 17) rfl)))
  have k_1_11 := hts (.instanceMethod objectInit) (List.mem_cons_of_mem _ (wr1 _ (List.mem_of_getElem? (i := 11) rfl)))
  have k_1_12 := hts (.code objectInit ⟨#[0xb1]⟩ 1 none) (List.mem_cons_of_mem _ (wr1 _ (List.mem_of_getElem? (i := 12) rfl)))
  have k_2_23 := hts (.arrayClass .int) (List.mem_cons_of_mem _ (wr2 _ (List.mem_of_getElem? (i := 23) rfl)))
  have k_4_18 := hts (.fieldLink RX7 11 "ArrayTrainer$Store" "classes" "[I") (List.mem_cons_of_mem _ (wr4 _ (List.mem_of_getElem? (i := 18) rfl)))
  have k_4_19 := hts (.fieldLink RX7 15 "ArrayTrainer$Store" "starts" "[I") (List.mem_cons_of_mem _ (wr4 _ (List.mem_of_getElem? (i := 19) rfl)))
  have k_4_20 := hts (.fieldLink RX7 18 "ArrayTrainer$Store" "lengths" "[I") (List.mem_cons_of_mem _ (wr4 _ (List.mem_of_getElem? (i := 20) rfl)))
  have k_1_6 := hts (.arrayClass .long) (List.mem_cons_of_mem _ (wr1 _ (List.mem_of_getElem? (i := 6) rfl)))
  have k_4_21 := hts (.fieldLink RX7 21 "ArrayTrainer$Store" "cells" "[J") (List.mem_cons_of_mem _ (wr4 _ (List.mem_of_getElem? (i := 21) rfl)))
  have k_4_22 := hts (.fieldLink RX7 25 "ArrayTrainer$Store" "things" "I") (List.mem_cons_of_mem _ (wr4 _ (List.mem_of_getElem? (i := 22) rfl)))
  obtain ⟨H, hH⟩ : ∃ H : Heap, H = s.heap := ⟨_, rfl⟩
  obtain ⟨locs, hlc⟩ : ∃ L : List Loc, L = [] := ⟨_, rfl⟩
  have hP : va_P D vwCl [(o, .inr (6, [.null, .null, .null, .null, .int 0, .int 0, .int 0, .int 0, .int 0]))] H := by rw [hH]; exact hP
  have hS : va_S A s.heap H locs := by rw [hH, hlc]; exact hS
  refine wHL hH hlc ?_
  refine lv_aload_n hx hb dX7_init_0 rfl (lv_at hl 0 rfl) ?_
  refine W.objInit hx hb hown k_4_17 k_1_11 k_1_12 rfl (by rw [hml]; exact hl.1) rfl dX7_init_1 (Nat.le_of_ble_eq_true rfl) (Nat.le_of_ble_eq_true rfl) ?_
  refine lv_aload_n hx hb dX7_init_4 rfl (lv_at hl 0 rfl) ?_
  refine lv_sipush (v := 301) hx hb dX7_init_5 (by decide) ?_
  refine m_newa (atype := .int) (ty := .int) (a0 := (301, .inl (fun _ => 0))) hx hb k_2_23 rfl hK 0 rfl (fun _ _ h => h) hP hD hS hA (fun _ => rfl) (by decide) (by decide) (by decide +kernel) (by show _ ≤ 4; omega) (by show _ ≤ 4903; omega) dX7_init_8 (fun q8 H hP hD hS => ?_)
  have hP : va_P D vwCl [(o, .inr (6, [.null, .null, .null, .null, .int 0, .int 0, .int 0, .int 0, .int 0])), (q8, .inl (cs 0, (301, .inl (fun _ => 0))))] H := hP
  have hD : va_D A [(o, .inr (6, [.null, .null, .null, .null, .int 0, .int 0, .int 0, .int 0, .int 0])), (q8, .inl (cs 0, (301, .inl (fun _ => 0))))] := hD
  refine va_putF (D := D) (ci := 6) (v := .ref q8) (ty := .array .int) (C := RX7) (T := TX7) (N := 9) hx hb hts hinX7 tyX7 tyX7_ok nmX7 hown hK hP hD hS 0 rfl rfl 0 (by decide) k_4_18 (fun _ h9 => h9) rfl hnm rfl (by decide +kernel) rfl rfl (Nat.le_of_ble_eq_true rfl) dX7_init_10 (fun H locs hP hD hS => ?_)
  have hP : va_P D vwCl [(o, .inr (6, [.ref q8, .null, .null, .null, .int 0, .int 0, .int 0, .int 0, .int 0])), (q8, .inl (cs 0, (301, .inl (fun _ => 0))))] H := hP
  have hD : va_D A [(o, .inr (6, [.ref q8, .null, .null, .null, .int 0, .int 0, .int 0, .int 0, .int 0])), (q8, .inl (cs 0, (301, .inl (fun _ => 0))))] := hD
  refine lv_aload_n hx hb dX7_init_13 rfl (lv_at hl 0 rfl) ?_
  refine lv_sipush (v := 301) hx hb dX7_init_14 (by decide) ?_
  refine m_newa (atype := .int) (ty := .int) (a0 := (301, .inl (fun _ => 0))) hx hb k_2_23 rfl hK 0 rfl (fun _ _ h => h) hP hD hS hA (fun _ => rfl) (by decide) (by decide) (by decide +kernel) (by show _ ≤ 4; omega) (by show _ ≤ 4903; omega) dX7_init_17 (fun q17 H hP hD hS => ?_)
  have hP : va_P D vwCl [(o, .inr (6, [.ref q8, .null, .null, .null, .int 0, .int 0, .int 0, .int 0, .int 0])), (q8, .inl (cs 0, (301, .inl (fun _ => 0)))), (q17, .inl (cs 0, (301, .inl (fun _ => 0))))] H := hP
  have hD : va_D A [(o, .inr (6, [.ref q8, .null, .null, .null, .int 0, .int 0, .int 0, .int 0, .int 0])), (q8, .inl (cs 0, (301, .inl (fun _ => 0)))), (q17, .inl (cs 0, (301, .inl (fun _ => 0))))] := hD
  refine va_putF (D := D) (ci := 6) (v := .ref q17) (ty := .array .int) (C := RX7) (T := TX7) (N := 9) hx hb hts hinX7 tyX7 tyX7_ok nmX7 hown hK hP hD hS 0 rfl rfl 1 (by decide) k_4_19 (fun _ h9 => h9) rfl hnm rfl (by decide +kernel) rfl rfl (Nat.le_of_ble_eq_true rfl) dX7_init_19 (fun H locs hP hD hS => ?_)
  have hP : va_P D vwCl [(o, .inr (6, [.ref q8, .ref q17, .null, .null, .int 0, .int 0, .int 0, .int 0, .int 0])), (q8, .inl (cs 0, (301, .inl (fun _ => 0)))), (q17, .inl (cs 0, (301, .inl (fun _ => 0))))] H := hP
  have hD : va_D A [(o, .inr (6, [.ref q8, .ref q17, .null, .null, .int 0, .int 0, .int 0, .int 0, .int 0])), (q8, .inl (cs 0, (301, .inl (fun _ => 0)))), (q17, .inl (cs 0, (301, .inl (fun _ => 0))))] := hD
  refine lv_aload_n hx hb dX7_init_22 rfl (lv_at hl 0 rfl) ?_
  refine lv_sipush (v := 301) hx hb dX7_init_23 (by decide) ?_
  refine m_newa (atype := .int) (ty := .int) (a0 := (301, .inl (fun _ => 0))) hx hb k_2_23 rfl hK 0 rfl (fun _ _ h => h) hP hD hS hA (fun _ => rfl) (by decide) (by decide) (by decide +kernel) (by show _ ≤ 4; omega) (by show _ ≤ 4903; omega) dX7_init_26 (fun q26 H hP hD hS => ?_)
  have hP : va_P D vwCl [(o, .inr (6, [.ref q8, .ref q17, .null, .null, .int 0, .int 0, .int 0, .int 0, .int 0])), (q8, .inl (cs 0, (301, .inl (fun _ => 0)))), (q17, .inl (cs 0, (301, .inl (fun _ => 0)))), (q26, .inl (cs 0, (301, .inl (fun _ => 0))))] H := hP
  have hD : va_D A [(o, .inr (6, [.ref q8, .ref q17, .null, .null, .int 0, .int 0, .int 0, .int 0, .int 0])), (q8, .inl (cs 0, (301, .inl (fun _ => 0)))), (q17, .inl (cs 0, (301, .inl (fun _ => 0)))), (q26, .inl (cs 0, (301, .inl (fun _ => 0))))] := hD
  refine va_putF (D := D) (ci := 6) (v := .ref q26) (ty := .array .int) (C := RX7) (T := TX7) (N := 9) hx hb hts hinX7 tyX7 tyX7_ok nmX7 hown hK hP hD hS 0 rfl rfl 2 (by decide) k_4_20 (fun _ h9 => h9) rfl hnm rfl (by decide +kernel) rfl rfl (Nat.le_of_ble_eq_true rfl) dX7_init_28 (fun H locs hP hD hS => ?_)
  have hP : va_P D vwCl [(o, .inr (6, [.ref q8, .ref q17, .ref q26, .null, .int 0, .int 0, .int 0, .int 0, .int 0])), (q8, .inl (cs 0, (301, .inl (fun _ => 0)))), (q17, .inl (cs 0, (301, .inl (fun _ => 0)))), (q26, .inl (cs 0, (301, .inl (fun _ => 0))))] H := hP
  have hD : va_D A [(o, .inr (6, [.ref q8, .ref q17, .ref q26, .null, .int 0, .int 0, .int 0, .int 0, .int 0])), (q8, .inl (cs 0, (301, .inl (fun _ => 0)))), (q17, .inl (cs 0, (301, .inl (fun _ => 0)))), (q26, .inl (cs 0, (301, .inl (fun _ => 0))))] := hD
  refine lv_aload_n hx hb dX7_init_31 rfl (lv_at hl 0 rfl) ?_
  refine lv_sipush (v := 4000) hx hb dX7_init_32 (by decide) ?_
  refine m_newa (atype := .long) (ty := .long) (a0 := (4000, .inr (.inl (fun _ => 0)))) hx hb k_1_6 rfl hK 1 rfl (fun _ _ h => h) hP hD hS hA (fun _ => rfl) (by decide) (by decide) (by decide +kernel) (by show _ ≤ 4; omega) (by show _ ≤ 4903; omega) dX7_init_35 (fun q35 H hP hD hS => ?_)
  have hP : va_P D vwCl [(o, .inr (6, [.ref q8, .ref q17, .ref q26, .null, .int 0, .int 0, .int 0, .int 0, .int 0])), (q8, .inl (cs 0, (301, .inl (fun _ => 0)))), (q17, .inl (cs 0, (301, .inl (fun _ => 0)))), (q26, .inl (cs 0, (301, .inl (fun _ => 0)))), (q35, .inl (cs 1, (4000, .inr (.inl (fun _ => 0)))))] H := hP
  have hD : va_D A [(o, .inr (6, [.ref q8, .ref q17, .ref q26, .null, .int 0, .int 0, .int 0, .int 0, .int 0])), (q8, .inl (cs 0, (301, .inl (fun _ => 0)))), (q17, .inl (cs 0, (301, .inl (fun _ => 0)))), (q26, .inl (cs 0, (301, .inl (fun _ => 0)))), (q35, .inl (cs 1, (4000, .inr (.inl (fun _ => 0)))))] := hD
  refine va_putF (D := D) (ci := 6) (v := .ref q35) (ty := .array .long) (C := RX7) (T := TX7) (N := 9) hx hb hts hinX7 tyX7 tyX7_ok nmX7 hown hK hP hD hS 0 rfl rfl 3 (by decide) k_4_21 (fun _ h9 => h9) rfl hnm rfl (by decide +kernel) rfl rfl (Nat.le_of_ble_eq_true rfl) dX7_init_37 (fun H locs hP hD hS => ?_)
  have hP : va_P D vwCl [(o, .inr (6, [.ref q8, .ref q17, .ref q26, .ref q35, .int 0, .int 0, .int 0, .int 0, .int 0])), (q8, .inl (cs 0, (301, .inl (fun _ => 0)))), (q17, .inl (cs 0, (301, .inl (fun _ => 0)))), (q26, .inl (cs 0, (301, .inl (fun _ => 0)))), (q35, .inl (cs 1, (4000, .inr (.inl (fun _ => 0)))))] H := hP
  have hD : va_D A [(o, .inr (6, [.ref q8, .ref q17, .ref q26, .ref q35, .int 0, .int 0, .int 0, .int 0, .int 0])), (q8, .inl (cs 0, (301, .inl (fun _ => 0)))), (q17, .inl (cs 0, (301, .inl (fun _ => 0)))), (q26, .inl (cs 0, (301, .inl (fun _ => 0)))), (q35, .inl (cs 1, (4000, .inr (.inl (fun _ => 0)))))] := hD
  refine lv_aload_n hx hb dX7_init_40 rfl (lv_at hl 0 rfl) ?_
  refine lv_iconst (v := 1) hx hb dX7_init_41 (by decide) ?_
  refine va_put (D := D) (ci := 6) (v := .int 1) (ty := .int) (C := RX7) (T := TX7) (N := 9) hx hb hts hinX7 tyX7 tyX7_ok nmX7 hown hK hP hD hS 0 rfl rfl 4 (by decide) k_4_22 (fun _ h9 => h9) rfl (by decide +kernel) rfl rfl (Nat.le_of_ble_eq_true rfl) dX7_init_42 (fun H locs hP hD hS => ?_)
  have hP : va_P D vwCl [(o, .inr (6, [.ref q8, .ref q17, .ref q26, .ref q35, .int 1, .int 0, .int 0, .int 0, .int 0])), (q8, .inl (cs 0, (301, .inl (fun _ => 0)))), (q17, .inl (cs 0, (301, .inl (fun _ => 0)))), (q26, .inl (cs 0, (301, .inl (fun _ => 0)))), (q35, .inl (cs 1, (4000, .inr (.inl (fun _ => 0)))))] H := hP
  have hD : va_D A [(o, .inr (6, [.ref q8, .ref q17, .ref q26, .ref q35, .int 1, .int 0, .int 0, .int 0, .int 0])), (q8, .inl (cs 0, (301, .inl (fun _ => 0)))), (q17, .inl (cs 0, (301, .inl (fun _ => 0)))), (q26, .inl (cs 0, (301, .inl (fun _ => 0)))), (q35, .inl (cs 1, (4000, .inr (.inl (fun _ => 0)))))] := hD
  subst hAe
  rw [hQ]
  exact W.vret hx hb hr (fun t ht hW => ⟨⟨_, rfl, ⟨q8, q17, q26, q35, rfl⟩, by rw [ht]; exact hP, va_K.moved hW.alike hK, hD⟩, hS.F ht⟩) hS.2.2 dX7_init_45

def rmX5_init : Room := { frames := 20, cells := 1, slots := 256, locals := 400 }
set_option maxHeartbeats 8000000 in
set_option maxRecDepth 100000 in
theorem tX5_init {l : Launch} {D : va_G} {K : Nat → Nat → Nat} {cs : Nat → ClassId} (o : Nat) (x1 : Nat) : CtV l yX5_init (wG yX5_init cX5_init 2 none) rmX5_init D (twT cs) K [.ref o, .ref x1] [(o, .inr (4, [.null, .null, .int 0]))] (fun w1 => ∃ q8 : Nat, w1 = [(o, .inr (4, [.ref x1, .ref q8, .int 0])), (q8, .inl (cs 2, (256, .inl (fun _ => 0))))]) 1 256 := by
  intro sz
  refine Met.ofW (cc := cX5_init) (maxL := 2) (ret := none) (by decide) rfl ?_
  intro p e s m args below meth c s₁ B hml hv
  obtain ⟨rfl, hsz, hP, hK, hD0, hE⟩ := hv
  have hx := B.exec
  have hb := B.bytes
  have hr := B.returns
  have hts := atoms_spec (ws := (wG yX5_init cX5_init 2 none)) B.pre
  have hown : s.vm.findClass RX5 = some m.cls := findClass_of_methodNamed B.named
  have hnm : meth.name = "<init>" := (name_of_methodNamed B.named B.method).1
  have hlocks := B.notSynchronized
  subst hsz
  have hD := hD0.self (sz := s.heap.size)
  obtain ⟨A, hAe⟩ : ∃ A : Nat → Prop, A = va_A [(o, .inr (4, [.null, .null, .int 0]))] s.heap.size := ⟨_, rfl⟩
  rw [← hAe] at hD hE
  have hA : ∀ q : Nat, s.heap.size ≤ q → A q := fun q h => by rw [hAe]; exact Or.inr h
  have hS : va_S A s.heap s.heap [] := va_S.rf
  have hl := lv_entry ([.ref o, .ref x1]) (n := 2) (Nat.le_of_ble_eq_true rfl)
  rw [lg_entry_eq]
  generalize (lg_sl ([.ref o, .ref x1]) ++ List.replicate (2 - (lg_sl ([.ref o, .ref x1])).length) Slot.unset).toArray = ls at hl ⊢
  have hl : lv_has ls 2 [(0, .ref o), (1, .ref x1)] := hl
  refine wq (fun Q hQ => ?_)
  have hinX5 : ∀ w ∈ wsX50, w ∈ (wG yX5_init cX5_init 2 none) := fun w h => List.mem_cons_of_mem _ (inlX5 w h)
  have k_3_18 := hts (.methodLink RX5 3 objectInit) (List.mem_cons_of_mem _ (wr3 _ (List.mem_of_getElem? (i := 18) rfl)))
  have k_1_11 := hts (.instanceMethod objectInit) (List.mem_cons_of_mem _ (wr1 _ (List.mem_of_getElem? (i := 11) rfl)))
  have k_1_12 := hts (.code objectInit ⟨#[0xb1]⟩ 1 none) (List.mem_cons_of_mem _ (wr1 _ (List.mem_of_getElem? (i := 12) rfl)))
  have k_1_13 := hts (.arrayClass .byte) (List.mem_cons_of_mem _ (wr1 _ (List.mem_of_getElem? (i := 13) rfl)))
  have k_3_19 := hts (.fieldLink RX5 11 "ArrayTrainer$Speller" "out" "[B") (List.mem_cons_of_mem _ (wr3 _ (List.mem_of_getElem? (i := 19) rfl)))
  have k_3_20 := hts (.fieldLink RX5 15 "ArrayTrainer$Speller" "lexer" "LArrayTrainer$Lexer;") (List.mem_cons_of_mem _ (wr3 _ (List.mem_of_getElem? (i := 20) rfl)))
  obtain ⟨H, hH⟩ : ∃ H : Heap, H = s.heap := ⟨_, rfl⟩
  obtain ⟨locs, hlc⟩ : ∃ L : List Loc, L = [] := ⟨_, rfl⟩
  have hP : va_P D vwCl [(o, .inr (4, [.null, .null, .int 0]))] H := by rw [hH]; exact hP
  have hS : va_S A s.heap H locs := by rw [hH, hlc]; exact hS
  refine wHL hH hlc ?_
  refine lv_aload_n hx hb dX5_init_0 rfl (lv_at hl 0 rfl) ?_
  refine W.objInit hx hb hown k_3_18 k_1_11 k_1_12 rfl (by rw [hml]; exact hl.1) rfl dX5_init_1 (Nat.le_of_ble_eq_true rfl) (Nat.le_of_ble_eq_true rfl) ?_
  refine lv_aload_n hx hb dX5_init_4 rfl (lv_at hl 0 rfl) ?_
  refine lv_sipush (v := 256) hx hb dX5_init_5 (by decide) ?_
  refine m_newa (atype := .byte) (ty := .byte) (a0 := (256, .inl (fun _ => 0))) hx hb k_1_13 rfl hK 2 rfl (fun _ _ h => h) hP hD hS hA (fun _ => rfl) (by decide) (by decide) (by decide +kernel) (by show _ ≤ 1; omega) (by show _ ≤ 256; omega) dX5_init_8 (fun q8 H hP hD hS => ?_)
  have hP : va_P D vwCl [(o, .inr (4, [.null, .null, .int 0])), (q8, .inl (cs 2, (256, .inl (fun _ => 0))))] H := hP
  have hD : va_D A [(o, .inr (4, [.null, .null, .int 0])), (q8, .inl (cs 2, (256, .inl (fun _ => 0))))] := hD
  refine va_putF (D := D) (ci := 4) (v := .ref q8) (ty := .array .byte) (C := RX5) (T := TX5) (N := 3) hx hb hts hinX5 tyX5 tyX5_ok nmX5 hown hK hP hD hS 0 rfl rfl 1 (by decide) k_3_19 (fun _ h9 => h9) rfl hnm rfl (by decide +kernel) rfl rfl (Nat.le_of_ble_eq_true rfl) dX5_init_10 (fun H locs hP hD hS => ?_)
  have hP : va_P D vwCl [(o, .inr (4, [.null, .ref q8, .int 0])), (q8, .inl (cs 2, (256, .inl (fun _ => 0))))] H := hP
  have hD : va_D A [(o, .inr (4, [.null, .ref q8, .int 0])), (q8, .inl (cs 2, (256, .inl (fun _ => 0))))] := hD
  refine lv_aload_n hx hb dX5_init_13 rfl (lv_at hl 0 rfl) ?_
  refine lv_aload_n hx hb dX5_init_14 rfl (lv_at hl 1 rfl) ?_
  refine va_putF (D := D) (ci := 4) (v := .ref x1) (ty := .object "ArrayTrainer$Lexer") (C := RX5) (T := TX5) (N := 3) hx hb hts hinX5 tyX5 tyX5_ok nmX5 hown hK hP hD hS 0 rfl rfl 0 (by decide) k_3_20 (fun _ h9 => h9) rfl hnm rfl (by decide +kernel) rfl rfl (Nat.le_of_ble_eq_true rfl) dX5_init_15 (fun H locs hP hD hS => ?_)
  have hP : va_P D vwCl [(o, .inr (4, [.ref x1, .ref q8, .int 0])), (q8, .inl (cs 2, (256, .inl (fun _ => 0))))] H := hP
  have hD : va_D A [(o, .inr (4, [.ref x1, .ref q8, .int 0])), (q8, .inl (cs 2, (256, .inl (fun _ => 0))))] := hD
  subst hAe
  rw [hQ]
  exact W.vret hx hb hr (fun t ht hW => ⟨⟨_, rfl, ⟨q8, rfl⟩, by rw [ht]; exact hP, va_K.moved hW.alike hK, hD⟩, hS.F ht⟩) hS.2.2 dX5_init_18

def rmX2_init : Room := { frames := 40, cells := 3, slots := 21, locals := 800 }
set_option maxHeartbeats 8000000 in
set_option maxRecDepth 100000 in
theorem tX2_init {l : Launch} {D : va_G} {K : Nat → Nat → Nat} {cs : Nat → ClassId} (o : Nat) (x1 : Nat) : CtV l yX2_init (wG yX2_init cX2_init 2 none) rmX2_init D (twT cs) K [.ref o, .ref x1] [(o, .inr (1, [.null, .null, .null, .int 0, .int 0, .int 0, .int 0, .int 0]))] (fun w1 => ∃ q10 q6_14 q13_14 : Nat, w1 = [(o, .inr (1, [.ref x1, .ref q10, .ref q10, .int 0, .int 0, .int 0, .int 0, .int 0])), (q10, .inr (5, [.int 0, .int 0, .int 0, .int 0, .int 0, .int 0, .int 0, .int 0, .int 0, .int 0, .ref q6_14, .ref q13_14, .int 0, .int 0, .long 0])), (q6_14, .inl (cs 0, (3, .inl (fun _ => 0)))), (q13_14, .inl (cs 0, (3, .inl (fun _ => 0))))]) 3 21 := by
  intro sz
  refine Met.ofW (cc := cX2_init) (maxL := 2) (ret := none) (by decide) rfl ?_
  intro p e s m args below meth c s₁ B hml hv
  obtain ⟨rfl, hsz, hP, hK, hD0, hE⟩ := hv
  have hx := B.exec
  have hb := B.bytes
  have hr := B.returns
  have hts := atoms_spec (ws := (wG yX2_init cX2_init 2 none)) B.pre
  have hown : s.vm.findClass RX2 = some m.cls := findClass_of_methodNamed B.named
  have hnm : meth.name = "<init>" := (name_of_methodNamed B.named B.method).1
  have hlocks := B.notSynchronized
  subst hsz
  have hD := hD0.self (sz := s.heap.size)
  obtain ⟨A, hAe⟩ : ∃ A : Nat → Prop, A = va_A [(o, .inr (1, [.null, .null, .null, .int 0, .int 0, .int 0, .int 0, .int 0]))] s.heap.size := ⟨_, rfl⟩
  rw [← hAe] at hD hE
  have hA : ∀ q : Nat, s.heap.size ≤ q → A q := fun q h => by rw [hAe]; exact Or.inr h
  have hS : va_S A s.heap s.heap [] := va_S.rf
  have hl := lv_entry ([.ref o, .ref x1]) (n := 2) (Nat.le_of_ble_eq_true rfl)
  rw [lg_entry_eq]
  generalize (lg_sl ([.ref o, .ref x1]) ++ List.replicate (2 - (lg_sl ([.ref o, .ref x1])).length) Slot.unset).toArray = ls at hl ⊢
  have hl : lv_has ls 2 [(0, .ref o), (1, .ref x1)] := hl
  refine wq (fun Q hQ => ?_)
  have hinX2 : ∀ w ∈ wsX20, w ∈ (wG yX2_init cX2_init 2 none) := fun w h => List.mem_cons_of_mem _ (inlX2 w h)
  have hinX6 : ∀ w ∈ wsX60, w ∈ (wG yX2_init cX2_init 2 none) := fun w h => List.mem_cons_of_mem _ (inlX6 w h)
  have k_3_10 := hts (.methodLink RX2 3 objectInit) (List.mem_cons_of_mem _ (wr3 _ (List.mem_of_getElem? (i := 10) rfl)))
  have k_1_11 := hts (.instanceMethod objectInit) (List.mem_cons_of_mem _ (wr1 _ (List.mem_of_getElem? (i := 11) rfl)))
  have k_1_12 := hts (.code objectInit ⟨#[0xb1]⟩ 1 none) (List.mem_cons_of_mem _ (wr1 _ (List.mem_of_getElem? (i := 12) rfl)))
  have k_3_11 := hts (.fieldLink RX2 9 "ArrayTrainer$Parser" "lexer" "LArrayTrainer$Lexer;") (List.mem_cons_of_mem _ (wr3 _ (List.mem_of_getElem? (i := 11) rfl)))
  have k_3_12 := hts (.classLink RX2 15 RX6) (List.mem_cons_of_mem _ (wr3 _ (List.mem_of_getElem? (i := 12) rfl)))
  have k_2_17 := hts (.instantiable RX6 15) (List.mem_cons_of_mem _ (wr2 _ (List.mem_of_getElem? (i := 17) rfl)))
  have k_2_18 := hts (.initialized RX6) (List.mem_cons_of_mem _ (wr2 _ (List.mem_of_getElem? (i := 18) rfl)))
  have k_2_20 := hts (.instanceMethod yX6_init) (List.mem_cons_of_mem _ (wr2 _ (List.mem_of_getElem? (i := 20) rfl)))
  have k_3_13 := hts (.fieldLink RX2 18 "ArrayTrainer$Parser" "scratch" "LArrayTrainer$Step;") (List.mem_cons_of_mem _ (wr3 _ (List.mem_of_getElem? (i := 13) rfl)))
  have k_3_14 := hts (.fieldLink RX2 22 "ArrayTrainer$Parser" "now" "LArrayTrainer$Step;") (List.mem_cons_of_mem _ (wr3 _ (List.mem_of_getElem? (i := 14) rfl)))
  obtain ⟨H, hH⟩ : ∃ H : Heap, H = s.heap := ⟨_, rfl⟩
  obtain ⟨locs, hlc⟩ : ∃ L : List Loc, L = [] := ⟨_, rfl⟩
  have hP : va_P D vwCl [(o, .inr (1, [.null, .null, .null, .int 0, .int 0, .int 0, .int 0, .int 0]))] H := by rw [hH]; exact hP
  have hS : va_S A s.heap H locs := by rw [hH, hlc]; exact hS
  refine wHL hH hlc ?_
  refine lv_aload_n hx hb dX2_init_0 rfl (lv_at hl 0 rfl) ?_
  refine W.objInit hx hb hown k_3_10 k_1_11 k_1_12 rfl (by rw [hml]; exact hl.1) rfl dX2_init_1 (Nat.le_of_ble_eq_true rfl) (Nat.le_of_ble_eq_true rfl) ?_
  refine lv_aload_n hx hb dX2_init_4 rfl (lv_at hl 0 rfl) ?_
  refine lv_aload_n hx hb dX2_init_5 rfl (lv_at hl 1 rfl) ?_
  refine va_putF (D := D) (ci := 1) (v := .ref x1) (ty := .object "ArrayTrainer$Lexer") (C := RX2) (T := TX2) (N := 8) hx hb hts hinX2 tyX2 tyX2_ok nmX2 hown hK hP hD hS 0 rfl rfl 0 (by decide) k_3_11 (fun _ h9 => h9) rfl hnm rfl (by decide +kernel) rfl rfl (Nat.le_of_ble_eq_true rfl) dX2_init_6 (fun H locs hP hD hS => ?_)
  have hP : va_P D vwCl [(o, .inr (1, [.ref x1, .null, .null, .int 0, .int 0, .int 0, .int 0, .int 0]))] H := hP
  have hD : va_D A [(o, .inr (1, [.ref x1, .null, .null, .int 0, .int 0, .int 0, .int 0, .int 0]))] := hD
  refine lv_aload_n hx hb dX2_init_9 rfl (lv_at hl 0 rfl) ?_
  refine va_new (ci := 5) (fs := [.int 0, .int 0, .int 0, .int 0, .int 0, .int 0, .int 0, .int 0, .int 0, .int 0, .null, .null, .int 0, .int 0, .long 0]) (C := RX6) (T := TX6) (N := 15) hx hb hts hinX6 tyX6 tyX6_ok hown k_3_12 k_2_17 k_2_18 hK hP hD hS hA rfl (by decide +kernel) (by show _ ≤ 3; omega) (by show _ ≤ 21; omega) dX2_init_10 (fun q10 H hP hD hS => ?_)
  have hP : va_P D vwCl [(o, .inr (1, [.ref x1, .null, .null, .int 0, .int 0, .int 0, .int 0, .int 0])), (q10, .inr (5, [.int 0, .int 0, .int 0, .int 0, .int 0, .int 0, .int 0, .int 0, .int 0, .int 0, .null, .null, .int 0, .int 0, .long 0]))] H := hP
  have hD : va_D A [(o, .inr (1, [.ref x1, .null, .null, .int 0, .int 0, .int 0, .int 0, .int 0])), (q10, .inr (5, [.int 0, .int 0, .int 0, .int 0, .int 0, .int 0, .int 0, .int 0, .int 0, .int 0, .null, .null, .int 0, .int 0, .long 0]))] := hD
  refine lv_dup hx hb dX2_init_13 rfl ?_
  refine call_vIN (As := []) (rest := [.ref q10, .ref o]) (wr := [(o, .inr (1, [.ref x1, .null, .null, .int 0, .int 0, .int 0, .int 0, .int 0]))]) (wc := [(q10, .inr (5, [.int 0, .int 0, .int 0, .int 0, .int 0, .int 0, .int 0, .int 0, .int 0, .int 0, .null, .null, .int 0, .int 0, .long 0]))]) ⟨hx, hb, hml, hown, hts⟩ (tX6_init (l := l) q10) ⟨va_cnB 0 hts (gI (wr2 _ (List.mem_of_getElem? (i := 21) rfl))) rfl rfl rfl hE.2.2.2.2.2.2.2.2.1 k_2_18 (by decide +kernel) ⟨(Nat.le_of_ble_eq_true rfl), (Nat.le_of_ble_eq_true rfl)⟩, rfl, k_2_20⟩ hK hP hD hE hS hA rfl hl.1 rfl (Nat.le_of_ble_eq_true rfl) dX2_init_14 ⟨(by show _ ≤ 3; omega), (by show _ ≤ 21; omega)⟩ (fun w9 H locs hw14 hP hD hS => ?_)
  obtain ⟨q6_14, q13_14, rfl⟩ := hw14
  have hP : va_P D vwCl [(o, .inr (1, [.ref x1, .null, .null, .int 0, .int 0, .int 0, .int 0, .int 0])), (q10, .inr (5, [.int 0, .int 0, .int 0, .int 0, .int 0, .int 0, .int 0, .int 0, .int 0, .int 0, .ref q6_14, .ref q13_14, .int 0, .int 0, .long 0])), (q6_14, .inl (cs 0, (3, .inl (fun _ => 0)))), (q13_14, .inl (cs 0, (3, .inl (fun _ => 0))))] H := hP
  have hD : va_D A [(o, .inr (1, [.ref x1, .null, .null, .int 0, .int 0, .int 0, .int 0, .int 0])), (q10, .inr (5, [.int 0, .int 0, .int 0, .int 0, .int 0, .int 0, .int 0, .int 0, .int 0, .int 0, .ref q6_14, .ref q13_14, .int 0, .int 0, .long 0])), (q6_14, .inl (cs 0, (3, .inl (fun _ => 0)))), (q13_14, .inl (cs 0, (3, .inl (fun _ => 0))))] := hD
  refine va_putF (D := D) (ci := 1) (v := .ref q10) (ty := .object "ArrayTrainer$Step") (C := RX2) (T := TX2) (N := 8) hx hb hts hinX2 tyX2 tyX2_ok nmX2 hown hK hP hD hS 0 rfl rfl 1 (by decide) k_3_13 (fun _ h9 => h9) rfl hnm rfl (by decide +kernel) rfl rfl (Nat.le_of_ble_eq_true rfl) dX2_init_17 (fun H locs hP hD hS => ?_)
  have hP : va_P D vwCl [(o, .inr (1, [.ref x1, .ref q10, .null, .int 0, .int 0, .int 0, .int 0, .int 0])), (q10, .inr (5, [.int 0, .int 0, .int 0, .int 0, .int 0, .int 0, .int 0, .int 0, .int 0, .int 0, .ref q6_14, .ref q13_14, .int 0, .int 0, .long 0])), (q6_14, .inl (cs 0, (3, .inl (fun _ => 0)))), (q13_14, .inl (cs 0, (3, .inl (fun _ => 0))))] H := hP
  have hD : va_D A [(o, .inr (1, [.ref x1, .ref q10, .null, .int 0, .int 0, .int 0, .int 0, .int 0])), (q10, .inr (5, [.int 0, .int 0, .int 0, .int 0, .int 0, .int 0, .int 0, .int 0, .int 0, .int 0, .ref q6_14, .ref q13_14, .int 0, .int 0, .long 0])), (q6_14, .inl (cs 0, (3, .inl (fun _ => 0)))), (q13_14, .inl (cs 0, (3, .inl (fun _ => 0))))] := hD
  refine lv_aload_n hx hb dX2_init_20 rfl (lv_at hl 0 rfl) ?_
  refine lv_aload_n hx hb dX2_init_21 rfl (lv_at hl 0 rfl) ?_
  refine va_get (D := D) (ci := 1) (v := .ref q10) (C := RX2) (T := TX2) (N := 8) hx hb hts hinX2 hown hK hP 0 rfl rfl 1 (by decide) k_3_13 (fun _ h9 => h9) rfl dX2_init_22 ?_
  refine va_put (D := D) (ci := 1) (v := .ref q10) (ty := .object "ArrayTrainer$Step") (C := RX2) (T := TX2) (N := 8) hx hb hts hinX2 tyX2 tyX2_ok nmX2 hown hK hP hD hS 0 rfl rfl 2 (by decide) k_3_14 (fun _ h9 => h9) rfl (by decide +kernel) rfl rfl (Nat.le_of_ble_eq_true rfl) dX2_init_25 (fun H locs hP hD hS => ?_)
  have hP : va_P D vwCl [(o, .inr (1, [.ref x1, .ref q10, .ref q10, .int 0, .int 0, .int 0, .int 0, .int 0])), (q10, .inr (5, [.int 0, .int 0, .int 0, .int 0, .int 0, .int 0, .int 0, .int 0, .int 0, .int 0, .ref q6_14, .ref q13_14, .int 0, .int 0, .long 0])), (q6_14, .inl (cs 0, (3, .inl (fun _ => 0)))), (q13_14, .inl (cs 0, (3, .inl (fun _ => 0))))] H := hP
  have hD : va_D A [(o, .inr (1, [.ref x1, .ref q10, .ref q10, .int 0, .int 0, .int 0, .int 0, .int 0])), (q10, .inr (5, [.int 0, .int 0, .int 0, .int 0, .int 0, .int 0, .int 0, .int 0, .int 0, .int 0, .ref q6_14, .ref q13_14, .int 0, .int 0, .long 0])), (q6_14, .inl (cs 0, (3, .inl (fun _ => 0)))), (q13_14, .inl (cs 0, (3, .inl (fun _ => 0))))] := hD
  subst hAe
  rw [hQ]
  exact W.vret hx hb hr (fun t ht hW => ⟨⟨_, rfl, ⟨q10, q6_14, q13_14, rfl⟩, by rw [ht]; exact hP, va_K.moved hW.alike hK, hD⟩, hS.F ht⟩) hS.2.2 dX2_init_28

def rmX3_init : Room := { frames := 40, cells := 4, slots := 121, locals := 800 }
set_option maxHeartbeats 8000000 in
set_option maxRecDepth 100000 in
theorem tX3_init {l : Launch} {D : va_G} {K : Nat → Nat → Nat} {cs : Nat → ClassId} (o : Nat) : CtV l yX3_init (wG yX3_init cX3_init 1 none) rmX3_init D (twT cs) K [.ref o] [(o, .inr (2, [.null, .null, .int 0]))] (fun w1 => ∃ q7 q14 q6_18 q13_18 : Nat, w1 = [(o, .inr (2, [.ref q7, .ref q14, .int 0])), (q7, .inl (cs 4, (100, .inr (.inr (.inr (.inr (fun _ => none))))))), (q14, .inr (5, [.int 0, .int 0, .int 0, .int 0, .int 0, .int 0, .int 0, .int 0, .int 0, .int 0, .ref q6_18, .ref q13_18, .int 0, .int 0, .long 0])), (q6_18, .inl (cs 0, (3, .inl (fun _ => 0)))), (q13_18, .inl (cs 0, (3, .inl (fun _ => 0))))]) 4 121 := by
  intro sz
  refine Met.ofW (cc := cX3_init) (maxL := 1) (ret := none) (by decide) rfl ?_
  intro p e s m args below meth c s₁ B hml hv
  obtain ⟨rfl, hsz, hP, hK, hD0, hE⟩ := hv
  have hx := B.exec
  have hb := B.bytes
  have hr := B.returns
  have hts := atoms_spec (ws := (wG yX3_init cX3_init 1 none)) B.pre
  have hown : s.vm.findClass RX3 = some m.cls := findClass_of_methodNamed B.named
  have hnm : meth.name = "<init>" := (name_of_methodNamed B.named B.method).1
  have hlocks := B.notSynchronized
  subst hsz
  have hD := hD0.self (sz := s.heap.size)
  obtain ⟨A, hAe⟩ : ∃ A : Nat → Prop, A = va_A [(o, .inr (2, [.null, .null, .int 0]))] s.heap.size := ⟨_, rfl⟩
  rw [← hAe] at hD hE
  have hA : ∀ q : Nat, s.heap.size ≤ q → A q := fun q h => by rw [hAe]; exact Or.inr h
  have hS : va_S A s.heap s.heap [] := va_S.rf
  have hl := lv_entry ([.ref o]) (n := 1) (Nat.le_of_ble_eq_true rfl)
  rw [lg_entry_eq]
  generalize (lg_sl ([.ref o]) ++ List.replicate (1 - (lg_sl ([.ref o])).length) Slot.unset).toArray = ls at hl ⊢
  have hl : lv_has ls 1 [(0, .ref o)] := hl
  refine wq (fun Q hQ => ?_)
  have hinX3 : ∀ w ∈ wsX30, w ∈ (wG yX3_init cX3_init 1 none) := fun w h => List.mem_cons_of_mem _ (inlX3 w h)
  have hinX6 : ∀ w ∈ wsX60, w ∈ (wG yX3_init cX3_init 1 none) := fun w h => List.mem_cons_of_mem _ (inlX6 w h)
  have k_2_14 := hts (.methodLink RX3 3 objectInit) (List.mem_cons_of_mem _ (wr2 _ (List.mem_of_getElem? (i := 14) rfl)))
  have k_1_11 := hts (.instanceMethod objectInit) (List.mem_cons_of_mem _ (wr1 _ (List.mem_of_getElem? (i := 11) rfl)))
  have k_1_12 := hts (.code objectInit ⟨#[0xb1]⟩ 1 none) (List.mem_cons_of_mem _ (wr1 _ (List.mem_of_getElem? (i := 12) rfl)))
  have k_2_15 := hts (.classLink RX3 9 RX6) (List.mem_cons_of_mem _ (wr2 _ (List.mem_of_getElem? (i := 15) rfl)))
  have k_2_16 := hts (.fieldLink RX3 11 "ArrayTrainer$Program" "steps" "[LArrayTrainer$Step;") (List.mem_cons_of_mem _ (wr2 _ (List.mem_of_getElem? (i := 16) rfl)))
  have k_2_17 := hts (.instantiable RX6 15) (List.mem_cons_of_mem _ (wr2 _ (List.mem_of_getElem? (i := 17) rfl)))
  have k_2_18 := hts (.initialized RX6) (List.mem_cons_of_mem _ (wr2 _ (List.mem_of_getElem? (i := 18) rfl)))
  have k_2_20 := hts (.instanceMethod yX6_init) (List.mem_cons_of_mem _ (wr2 _ (List.mem_of_getElem? (i := 20) rfl)))
  have k_2_19 := hts (.fieldLink RX3 18 "ArrayTrainer$Program" "beyond" "LArrayTrainer$Step;") (List.mem_cons_of_mem _ (wr2 _ (List.mem_of_getElem? (i := 19) rfl)))
  obtain ⟨H, hH⟩ : ∃ H : Heap, H = s.heap := ⟨_, rfl⟩
  obtain ⟨locs, hlc⟩ : ∃ L : List Loc, L = [] := ⟨_, rfl⟩
  have hP : va_P D vwCl [(o, .inr (2, [.null, .null, .int 0]))] H := by rw [hH]; exact hP
  have hS : va_S A s.heap H locs := by rw [hH, hlc]; exact hS
  refine wHL hH hlc ?_
  refine lv_aload_n hx hb dX3_init_0 rfl (lv_at hl 0 rfl) ?_
  refine W.objInit hx hb hown k_2_14 k_1_11 k_1_12 rfl (by rw [hml]; exact hl.1) rfl dX3_init_1 (Nat.le_of_ble_eq_true rfl) (Nat.le_of_ble_eq_true rfl) ?_
  refine lv_aload_n hx hb dX3_init_4 rfl (lv_at hl 0 rfl) ?_
  refine lv_bipush (v := 100) hx hb dX3_init_5 (by decide) ?_
  refine m_newq (N' := 100) hx hb hown k_2_15 hE.2.2.2.2.2.2.2.2.2.2.2.2.2.2.2.2.1 hK 4 rfl hP hD hS hA (by decide) (by decide) (by decide +kernel) (by show _ ≤ 4; omega) (by show _ ≤ 121; omega) dX3_init_7 (fun q7 H hP hD hS => ?_)
  have hP : va_P D vwCl [(o, .inr (2, [.null, .null, .int 0])), (q7, .inl (cs 4, (100, .inr (.inr (.inr (.inr (fun _ => none)))))))] H := hP
  have hD : va_D A [(o, .inr (2, [.null, .null, .int 0])), (q7, .inl (cs 4, (100, .inr (.inr (.inr (.inr (fun _ => none)))))))] := hD
  refine va_putF (D := D) (ci := 2) (v := .ref q7) (ty := .array (.object "ArrayTrainer$Step")) (C := RX3) (T := TX3) (N := 3) hx hb hts hinX3 tyX3 tyX3_ok nmX3 hown hK hP hD hS 0 rfl rfl 0 (by decide) k_2_16 (fun _ h9 => h9) rfl hnm rfl (by decide +kernel) rfl rfl (Nat.le_of_ble_eq_true rfl) dX3_init_10 (fun H locs hP hD hS => ?_)
  have hP : va_P D vwCl [(o, .inr (2, [.ref q7, .null, .int 0])), (q7, .inl (cs 4, (100, .inr (.inr (.inr (.inr (fun _ => none)))))))] H := hP
  have hD : va_D A [(o, .inr (2, [.ref q7, .null, .int 0])), (q7, .inl (cs 4, (100, .inr (.inr (.inr (.inr (fun _ => none)))))))] := hD
  refine lv_aload_n hx hb dX3_init_13 rfl (lv_at hl 0 rfl) ?_
  refine va_new (ci := 5) (fs := [.int 0, .int 0, .int 0, .int 0, .int 0, .int 0, .int 0, .int 0, .int 0, .int 0, .null, .null, .int 0, .int 0, .long 0]) (C := RX6) (T := TX6) (N := 15) hx hb hts hinX6 tyX6 tyX6_ok hown k_2_15 k_2_17 k_2_18 hK hP hD hS hA rfl (by decide +kernel) (by show _ ≤ 4; omega) (by show _ ≤ 121; omega) dX3_init_14 (fun q14 H hP hD hS => ?_)
  have hP : va_P D vwCl [(o, .inr (2, [.ref q7, .null, .int 0])), (q7, .inl (cs 4, (100, .inr (.inr (.inr (.inr (fun _ => none))))))), (q14, .inr (5, [.int 0, .int 0, .int 0, .int 0, .int 0, .int 0, .int 0, .int 0, .int 0, .int 0, .null, .null, .int 0, .int 0, .long 0]))] H := hP
  have hD : va_D A [(o, .inr (2, [.ref q7, .null, .int 0])), (q7, .inl (cs 4, (100, .inr (.inr (.inr (.inr (fun _ => none))))))), (q14, .inr (5, [.int 0, .int 0, .int 0, .int 0, .int 0, .int 0, .int 0, .int 0, .int 0, .int 0, .null, .null, .int 0, .int 0, .long 0]))] := hD
  refine lv_dup hx hb dX3_init_17 rfl ?_
  refine call_vIN (As := []) (rest := [.ref q14, .ref o]) (wr := [(o, .inr (2, [.ref q7, .null, .int 0])), (q7, .inl (cs 4, (100, .inr (.inr (.inr (.inr (fun _ => none)))))))]) (wc := [(q14, .inr (5, [.int 0, .int 0, .int 0, .int 0, .int 0, .int 0, .int 0, .int 0, .int 0, .int 0, .null, .null, .int 0, .int 0, .long 0]))]) ⟨hx, hb, hml, hown, hts⟩ (tX6_init (l := l) q14) ⟨va_cnB 0 hts (gI (wr2 _ (List.mem_of_getElem? (i := 21) rfl))) rfl rfl rfl hE.2.2.2.2.2.2.2.1 k_2_18 (by decide +kernel) ⟨(Nat.le_of_ble_eq_true rfl), (Nat.le_of_ble_eq_true rfl)⟩, rfl, k_2_20⟩ hK hP hD hE hS hA rfl hl.1 rfl (Nat.le_of_ble_eq_true rfl) dX3_init_18 ⟨(by show _ ≤ 4; omega), (by show _ ≤ 121; omega)⟩ (fun w9 H locs hw18 hP hD hS => ?_)
  obtain ⟨q6_18, q13_18, rfl⟩ := hw18
  have hP : va_P D vwCl [(o, .inr (2, [.ref q7, .null, .int 0])), (q7, .inl (cs 4, (100, .inr (.inr (.inr (.inr (fun _ => none))))))), (q14, .inr (5, [.int 0, .int 0, .int 0, .int 0, .int 0, .int 0, .int 0, .int 0, .int 0, .int 0, .ref q6_18, .ref q13_18, .int 0, .int 0, .long 0])), (q6_18, .inl (cs 0, (3, .inl (fun _ => 0)))), (q13_18, .inl (cs 0, (3, .inl (fun _ => 0))))] H := hP
  have hD : va_D A [(o, .inr (2, [.ref q7, .null, .int 0])), (q7, .inl (cs 4, (100, .inr (.inr (.inr (.inr (fun _ => none))))))), (q14, .inr (5, [.int 0, .int 0, .int 0, .int 0, .int 0, .int 0, .int 0, .int 0, .int 0, .int 0, .ref q6_18, .ref q13_18, .int 0, .int 0, .long 0])), (q6_18, .inl (cs 0, (3, .inl (fun _ => 0)))), (q13_18, .inl (cs 0, (3, .inl (fun _ => 0))))] := hD
  refine va_putF (D := D) (ci := 2) (v := .ref q14) (ty := .object "ArrayTrainer$Step") (C := RX3) (T := TX3) (N := 3) hx hb hts hinX3 tyX3 tyX3_ok nmX3 hown hK hP hD hS 0 rfl rfl 1 (by decide) k_2_19 (fun _ h9 => h9) rfl hnm rfl (by decide +kernel) rfl rfl (Nat.le_of_ble_eq_true rfl) dX3_init_21 (fun H locs hP hD hS => ?_)
  have hP : va_P D vwCl [(o, .inr (2, [.ref q7, .ref q14, .int 0])), (q7, .inl (cs 4, (100, .inr (.inr (.inr (.inr (fun _ => none))))))), (q14, .inr (5, [.int 0, .int 0, .int 0, .int 0, .int 0, .int 0, .int 0, .int 0, .int 0, .int 0, .ref q6_18, .ref q13_18, .int 0, .int 0, .long 0])), (q6_18, .inl (cs 0, (3, .inl (fun _ => 0)))), (q13_18, .inl (cs 0, (3, .inl (fun _ => 0))))] H := hP
  have hD : va_D A [(o, .inr (2, [.ref q7, .ref q14, .int 0])), (q7, .inl (cs 4, (100, .inr (.inr (.inr (.inr (fun _ => none))))))), (q14, .inr (5, [.int 0, .int 0, .int 0, .int 0, .int 0, .int 0, .int 0, .int 0, .int 0, .int 0, .ref q6_18, .ref q13_18, .int 0, .int 0, .long 0])), (q6_18, .inl (cs 0, (3, .inl (fun _ => 0)))), (q13_18, .inl (cs 0, (3, .inl (fun _ => 0))))] := hD
  subst hAe
  rw [hQ]
  exact W.vret hx hb hr (fun t ht hW => ⟨⟨_, rfl, ⟨q7, q14, q6_18, q13_18, rfl⟩, by rw [ht]; exact hP, va_K.moved hW.alike hK, hD⟩, hS.F ht⟩) hS.2.2 dX3_init_24
