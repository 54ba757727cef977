def rmJ3_checkIndex_8e157 : Room := { frames := 20, cells := 0, slots := 0, locals := 400 }
set_option maxHeartbeats 4000000 in
set_option maxRecDepth 100000 in
theorem tJ3_checkIndex_8e157 {l : Launch} {D : va_G} {K : Nat → Nat → Nat} (i9 : Int32) (n9 : Int32) (f9 : Nat) (p_0 : 0 ≤ i9.toInt) (p_1 : i9.toInt < n9.toInt) : CtI l yJ3_checkIndex_8e157 (wG yJ3_checkIndex_8e157 cJ3_checkIndex_8e157 3 (some .int)) rmJ3_checkIndex_8e157 D [] K [.int i9, .int n9, .ref f9] [] (fun r w1 => w1 = []) 0 0 := by
  intro sz
  refine Met.ofW (cc := cJ3_checkIndex_8e157) (maxL := 3) (ret := (some .int)) (by decide) rfl ?_
  intro p e s m args below meth c s₁ B hml hv
  obtain ⟨rfl, hsz, hP, hK, hD0, hE⟩ := hv
  have hx := B.exec
  have hb := B.bytes
  have hr := B.returns
  have hts := atoms_spec (ws := (wG yJ3_checkIndex_8e157 cJ3_checkIndex_8e157 3 (some .int))) B.pre
  have hown : s.vm.findClass RJ3 = some m.cls := findClass_of_methodNamed B.named
  have hlocks := B.notSynchronized
  subst hsz
  have hD := hD0.self (sz := s.heap.size)
  obtain ⟨A, hAe⟩ : ∃ A : Nat → Prop, A = va_A [] s.heap.size := ⟨_, rfl⟩
  rw [← hAe] at hD hE
  have hA : ∀ q : Nat, s.heap.size ≤ q → A q := fun q h => by rw [hAe]; exact Or.inr h
  have hS : va_S A s.heap s.heap [] := va_S.rf
  have hl := lv_entry ([.int i9, .int n9, .ref f9]) (n := 3) (Nat.le_of_ble_eq_true rfl)
  rw [lg_entry_eq]
  generalize (lg_sl ([.int i9, .int n9, .ref f9]) ++ List.replicate (3 - (lg_sl ([.int i9, .int n9, .ref f9])).length) Slot.unset).toArray = ls at hl ⊢
  have hl : lv_has ls 3 [(0, .int i9), (1, .int n9), (2, .ref f9)] := hl
  refine wq (fun Q hQ => ?_)
  obtain ⟨H, hH⟩ : ∃ H : Heap, H = s.heap := ⟨_, rfl⟩
  obtain ⟨locs, hlc⟩ : ∃ L : List Loc, L = [] := ⟨_, rfl⟩
  have hP : va_P D vwCl [] H := by rw [hH]; exact hP
  have hS : va_S A s.heap H locs := by rw [hH, hlc]; exact hS
  refine wHL hH hlc ?_
  have b_i9 := iB i9
  have b_n9 := iB n9
  refine lv_iload_n hx hb dJ3_checkIndex_8e157_0 rfl (lv_at hl 0 rfl) ?_
  refine m_if_lt (X := i9.toInt) (tgt := 9) hx hb dJ3_checkIndex_8e157_1 (by decide) rfl (fun c1 => ?_) (fun c1 => ?_)
  · skip
    exfalso
    omega
  · skip
    refine lv_iload_n hx hb dJ3_checkIndex_8e157_4 rfl (lv_at hl 0 rfl) ?_
    refine lv_iload_n hx hb dJ3_checkIndex_8e157_5 rfl (lv_at hl 1 rfl) ?_
    refine m_icmp_lt (X := i9.toInt) (Y := n9.toInt) (tgt := 16) hx hb dJ3_checkIndex_8e157_6 (by decide) rfl rfl (fun c6 => ?_) (fun c6 => ?_)
    · skip
      refine lv_iload_n hx hb dJ3_checkIndex_8e157_16 rfl (lv_at hl 0 rfl) ?_
      subst hAe
      rw [hQ]
      exact W.iret (v := i9) hx hb hr (fun t ht hW => ⟨⟨i9, _, rfl, rfl, by rw [ht]; exact hP, va_K.moved hW.alike hK, hD⟩, hS.F ht⟩) hS.2.2 dJ3_checkIndex_8e157_17
    · skip
      exfalso
      omega

set_option maxHeartbeats 4000000 in
set_option maxRecDepth 100000 in
theorem tJ3_checkIndex_8e157N {l : Launch} {D : va_G} {K : Nat → Nat → Nat} (i9 : Int32) (n9 : Int32) (p_0 : 0 ≤ i9.toInt) (p_1 : i9.toInt < n9.toInt) : CtI l yJ3_checkIndex_8e157 (wG yJ3_checkIndex_8e157 cJ3_checkIndex_8e157 3 (some .int)) rmJ3_checkIndex_8e157 D [] K [.int i9, .int n9, .null] [] (fun r w1 => w1 = []) 0 0 := by
  intro sz
  refine Met.ofW (cc := cJ3_checkIndex_8e157) (maxL := 3) (ret := (some .int)) (by decide) rfl ?_
  intro p e s m args below meth c s₁ B hml hv
  obtain ⟨rfl, hsz, hP, hK, hD0, hE⟩ := hv
  have hx := B.exec
  have hb := B.bytes
  have hr := B.returns
  have hts := atoms_spec (ws := (wG yJ3_checkIndex_8e157 cJ3_checkIndex_8e157 3 (some .int))) B.pre
  have hown : s.vm.findClass RJ3 = some m.cls := findClass_of_methodNamed B.named
  have hlocks := B.notSynchronized
  subst hsz
  have hD := hD0.self (sz := s.heap.size)
  obtain ⟨A, hAe⟩ : ∃ A : Nat → Prop, A = va_A [] s.heap.size := ⟨_, rfl⟩
  rw [← hAe] at hD hE
  have hA : ∀ q : Nat, s.heap.size ≤ q → A q := fun q h => by rw [hAe]; exact Or.inr h
  have hS : va_S A s.heap s.heap [] := va_S.rf
  have hl := lv_entry ([.int i9, .int n9, .null]) (n := 3) (Nat.le_of_ble_eq_true rfl)
  rw [lg_entry_eq]
  generalize (lg_sl ([.int i9, .int n9, .null]) ++ List.replicate (3 - (lg_sl ([.int i9, .int n9, .null])).length) Slot.unset).toArray = ls at hl ⊢
  have hl : lv_has ls 3 [(0, .int i9), (1, .int n9), (2, .null)] := hl
  refine wq (fun Q hQ => ?_)
  obtain ⟨H, hH⟩ : ∃ H : Heap, H = s.heap := ⟨_, rfl⟩
  obtain ⟨locs, hlc⟩ : ∃ L : List Loc, L = [] := ⟨_, rfl⟩
  have hP : va_P D vwCl [] H := by rw [hH]; exact hP
  have hS : va_S A s.heap H locs := by rw [hH, hlc]; exact hS
  refine wHL hH hlc ?_
  have b_i9 := iB i9
  have b_n9 := iB n9
  refine lv_iload_n hx hb dJ3_checkIndex_8e157_0 rfl (lv_at hl 0 rfl) ?_
  refine m_if_lt (X := i9.toInt) (tgt := 9) hx hb dJ3_checkIndex_8e157_1 (by decide) rfl (fun c1 => ?_) (fun c1 => ?_)
  · skip
    exfalso
    omega
  · skip
    refine lv_iload_n hx hb dJ3_checkIndex_8e157_4 rfl (lv_at hl 0 rfl) ?_
    refine lv_iload_n hx hb dJ3_checkIndex_8e157_5 rfl (lv_at hl 1 rfl) ?_
    refine m_icmp_lt (X := i9.toInt) (Y := n9.toInt) (tgt := 16) hx hb dJ3_checkIndex_8e157_6 (by decide) rfl rfl (fun c6 => ?_) (fun c6 => ?_)
    · skip
      refine lv_iload_n hx hb dJ3_checkIndex_8e157_16 rfl (lv_at hl 0 rfl) ?_
      subst hAe
      rw [hQ]
      exact W.iret (v := i9) hx hb hr (fun t ht hW => ⟨⟨i9, _, rfl, rfl, by rw [ht]; exact hP, va_K.moved hW.alike hK, hD⟩, hS.F ht⟩) hS.2.2 dJ3_checkIndex_8e157_17
    · skip
      exfalso
      omega

def rmJ0_checkIndex_df160 : Room := { frames := 40, cells := 0, slots := 0, locals := 800 }
set_option maxHeartbeats 4000000 in
set_option maxRecDepth 100000 in
theorem tJ0_checkIndex_df160 {l : Launch} {D : va_G} {K : Nat → Nat → Nat} (i9 : Int32) (n9 : Int32) (p_0 : 0 ≤ i9.toInt) (p_1 : i9.toInt < n9.toInt) : CtV l yJ0_checkIndex_df160 (wG yJ0_checkIndex_df160 cJ0_checkIndex_df160 2 none) rmJ0_checkIndex_df160 D [] K [.int i9, .int n9] [] (fun w1 => w1 = []) 0 0 := by
  intro sz
  refine Met.ofW (cc := cJ0_checkIndex_df160) (maxL := 2) (ret := none) (by decide) rfl ?_
  intro p e s m args below meth c s₁ B hml hv
  obtain ⟨rfl, hsz, hP, hK, hD0, hE⟩ := hv
  have hx := B.exec
  have hb := B.bytes
  have hr := B.returns
  have hts := atoms_spec (ws := (wG yJ0_checkIndex_df160 cJ0_checkIndex_df160 2 none)) B.pre
  have hown : s.vm.findClass RJ0 = some m.cls := findClass_of_methodNamed B.named
  have hlocks := B.notSynchronized
  subst hsz
  have hD := hD0.self (sz := s.heap.size)
  obtain ⟨A, hAe⟩ : ∃ A : Nat → Prop, A = va_A [] s.heap.size := ⟨_, rfl⟩
  rw [← hAe] at hD hE
  have hA : ∀ q : Nat, s.heap.size ≤ q → A q := fun q h => by rw [hAe]; exact Or.inr h
  have hS : va_S A s.heap s.heap [] := va_S.rf
  have hl := lv_entry ([.int i9, .int n9]) (n := 2) (Nat.le_of_ble_eq_true rfl)
  rw [lg_entry_eq]
  generalize (lg_sl ([.int i9, .int n9]) ++ List.replicate (2 - (lg_sl ([.int i9, .int n9])).length) Slot.unset).toArray = ls at hl ⊢
  have hl : lv_has ls 2 [(0, .int i9), (1, .int n9)] := hl
  refine wq (fun Q hQ => ?_)
  have k_12_14 := hts (.fieldLink RJ0 1053 "jdk/internal/util/Preconditions" "SIOOBE_FORMATTER" "Ljava/util/function/BiFunction;") (List.mem_cons_of_mem _ (wr12 _ (List.mem_of_getElem? (i := 14) rfl)))
  obtain ⟨H, hH⟩ : ∃ H : Heap, H = s.heap := ⟨_, rfl⟩
  obtain ⟨locs, hlc⟩ : ∃ L : List Loc, L = [] := ⟨_, rfl⟩
  have hP : va_P D vwCl [] H := by rw [hH]; exact hP
  have hS : va_S A s.heap H locs := by rw [hH, hlc]; exact hS
  refine wHL hH hlc ?_
  have b_i9 := iB i9
  have b_n9 := iB n9
  refine lv_iload_n hx hb dJ0_checkIndex_df160_0 rfl (lv_at hl 0 rfl) ?_
  refine lv_iload_n hx hb dJ0_checkIndex_df160_1 rfl (lv_at hl 1 rfl) ?_
  rcases hE.2.2.2.2.2.1 with hz | ⟨tz, hz⟩
  · skip
    refine va_gets hx hb hz hS hown k_12_14 (fun _ h9 => h9) dJ0_checkIndex_df160_2 ?_
    refine call_iSP (As := [.int i9, .int n9, .null]) (rest := []) ⟨hx, hb, hml, hown, hts⟩ (tJ3_checkIndex_8e157N (l := l) i9 n9 (by first | assumption | omega | (intros; omega) | decide) (by first | assumption | omega | (intros; omega) | decide)) (va_cwS 3 hts (gS (wr15 _ (List.mem_of_getElem? (i := 2) rfl)) (wr15 _ (List.mem_of_getElem? (i := 3) rfl)) (wr12 _ (List.mem_of_getElem? (i := 17) rfl)) (wr15 _ (List.mem_of_getElem? (i := 4) rfl))) rfl rfl rfl (by decide +kernel) ⟨Nat.le_of_ble_eq_true rfl, Nat.le_of_ble_eq_true rfl⟩) (hK.sub [] rfl) hP hD hE hS hA rfl hl.1 rfl (Nat.le_of_ble_eq_true rfl) dJ0_checkIndex_df160_5 ⟨Nat.le_of_ble_eq_true rfl, Nat.le_of_ble_eq_true rfl⟩ (fun r5 w9 H locs hw5 hP hD hS => ?_)
    obtain ⟨rfl⟩ := hw5
    have b_r5 := iB r5
    refine lv_pop hx hb dJ0_checkIndex_df160_8 rfl ?_
    subst hAe
    rw [hQ]
    exact W.vret hx hb hr (fun t ht hW => ⟨⟨_, rfl, rfl, by rw [ht]; exact hP, va_K.moved hW.alike hK, hD⟩, hS.F ht⟩) hS.2.2 dJ0_checkIndex_df160_9
  · skip
    refine va_gets hx hb hz hS hown k_12_14 (fun _ h9 => h9) dJ0_checkIndex_df160_2 ?_
    refine call_iSP (As := [.int i9, .int n9, .ref tz]) (rest := []) ⟨hx, hb, hml, hown, hts⟩ (tJ3_checkIndex_8e157 (l := l) i9 n9 tz (by first | assumption | omega | (intros; omega) | decide) (by first | assumption | omega | (intros; omega) | decide)) (va_cwS 3 hts (gS (wr15 _ (List.mem_of_getElem? (i := 2) rfl)) (wr15 _ (List.mem_of_getElem? (i := 3) rfl)) (wr12 _ (List.mem_of_getElem? (i := 17) rfl)) (wr15 _ (List.mem_of_getElem? (i := 4) rfl))) rfl rfl rfl (by decide +kernel) ⟨Nat.le_of_ble_eq_true rfl, Nat.le_of_ble_eq_true rfl⟩) (hK.sub [] rfl) hP hD hE hS hA rfl hl.1 rfl (Nat.le_of_ble_eq_true rfl) dJ0_checkIndex_df160_5 ⟨Nat.le_of_ble_eq_true rfl, Nat.le_of_ble_eq_true rfl⟩ (fun r5 w9 H locs hw5 hP hD hS => ?_)
    obtain ⟨rfl⟩ := hw5
    have b_r5 := iB r5
    refine lv_pop hx hb dJ0_checkIndex_df160_8 rfl ?_
    subst hAe
    rw [hQ]
    exact W.vret hx hb hr (fun t ht hW => ⟨⟨_, rfl, rfl, by rw [ht]; exact hP, va_K.moved hW.alike hK, hD⟩, hS.F ht⟩) hS.2.2 dJ0_checkIndex_df160_9

def rmJ1_charAt_3b067 : Room := { frames := 60, cells := 0, slots := 0, locals := 1200 }
set_option maxHeartbeats 4000000 in
set_option maxRecDepth 100000 in
theorem tJ1_charAt_3b067 {l : Launch} {D : va_G} {K : Nat → Nat → Nat} (v9 : Nat) {tx_v9 : List Int32} (hs_v9 : sOf v9 tx_v9) (i9 : Int32) (p_0 : 0 ≤ i9.toInt) (p_1 : i9.toInt < (tx_v9.length : Int)) : CtI l yJ1_charAt_3b067 (wG yJ1_charAt_3b067 cJ1_charAt_3b067 2 (some .char)) rmJ1_charAt_3b067 D [] K [.ref (K 1 v9), .int i9] [] (fun r w1 => w1 = [] ∧ (r.toInt = (tx_v9.getD i9.toNatClampNeg 0).toInt)) 0 0 := by
  intro sz
  refine Met.ofW (cc := cJ1_charAt_3b067) (maxL := 2) (ret := (some .char)) (by decide) rfl ?_
  intro p e s m args below meth c s₁ B hml hv
  obtain ⟨rfl, hsz, hP, hK, hD0, hE⟩ := hv
  have hx := B.exec
  have hb := B.bytes
  have hr := B.returns
  have hts := atoms_spec (ws := (wG yJ1_charAt_3b067 cJ1_charAt_3b067 2 (some .char))) B.pre
  have hown : s.vm.findClass RJ1 = some m.cls := findClass_of_methodNamed B.named
  have hlocks := B.notSynchronized
  subst hsz
  have hD := hD0.self (sz := s.heap.size)
  obtain ⟨A, hAe⟩ : ∃ A : Nat → Prop, A = va_A [] s.heap.size := ⟨_, rfl⟩
  rw [← hAe] at hD hE
  have hA : ∀ q : Nat, s.heap.size ≤ q → A q := fun q h => by rw [hAe]; exact Or.inr h
  have hS : va_S A s.heap s.heap [] := va_S.rf
  have hl := lv_entry ([.ref (K 1 v9), .int i9]) (n := 2) (Nat.le_of_ble_eq_true rfl)
  rw [lg_entry_eq]
  generalize (lg_sl ([.ref (K 1 v9), .int i9]) ++ List.replicate (2 - (lg_sl ([.ref (K 1 v9), .int i9])).length) Slot.unset).toArray = ls at hl ⊢
  have hl : lv_has ls 2 [(0, .ref (K 1 v9)), (1, .int i9)] := hl
  refine wq (fun Q hQ => ?_)
  have kc0 : (255 : Int32).toInt = 255 := by decide
  obtain ⟨H, hH⟩ : ∃ H : Heap, H = s.heap := ⟨_, rfl⟩
  obtain ⟨locs, hlc⟩ : ∃ L : List Loc, L = [] := ⟨_, rfl⟩
  have hP : va_P D vwCl [] H := by rw [hH]; exact hP
  have hS : va_S A s.heap H locs := by rw [hH, hlc]; exact hS
  refine wHL hH hlc ?_
  have st_v9 := hE.str hs_v9
  have ln_v9 := sOf_len hs_v9
  have b_i9 := iB i9
  refine lv_iload_n hx hb dJ1_charAt_3b067_0 rfl (lv_at hl 1 rfl) ?_
  refine lv_aload_n hx hb dJ1_charAt_3b067_1 rfl (lv_at hl 0 rfl) ?_
  refine m_tlen hx hb st_v9.2.2.2 hS (by omega) dJ1_charAt_3b067_2 (fun x2 g_x2 => ?_)
  refine call_vSP (As := [.int i9, .int x2]) (rest := []) ⟨hx, hb, hml, hown, hts⟩ (tJ0_checkIndex_df160 (l := l) i9 x2 (by first | assumption | omega | (intros; omega) | decide) (by first | assumption | omega | (intros; omega) | decide)) (va_cwS 2 hts (gS (wr14 _ (List.mem_of_getElem? (i := 23) rfl)) (wr15 _ (List.mem_of_getElem? (i := 0) rfl)) (wr10 _ (List.mem_of_getElem? (i := 10) rfl)) (wr15 _ (List.mem_of_getElem? (i := 1) rfl))) rfl rfl rfl (by decide +kernel) ⟨Nat.le_of_ble_eq_true rfl, Nat.le_of_ble_eq_true rfl⟩) (hK.sub [] rfl) hP hD hE hS hA rfl hl.1 rfl (Nat.le_of_ble_eq_true rfl) dJ1_charAt_3b067_3 ⟨Nat.le_of_ble_eq_true rfl, Nat.le_of_ble_eq_true rfl⟩ (fun w9 H locs hw3 hP hD hS => ?_)
  obtain ⟨rfl⟩ := hw3
  refine lv_aload_n hx hb dJ1_charAt_3b067_6 rfl (lv_at hl 0 rfl) ?_
  refine lv_iload_n hx hb dJ1_charAt_3b067_7 rfl (lv_at hl 1 rfl) ?_
  refine m_tb (f := fun j => tx_v9.getD j 0) hx hb st_v9.2.2.2 hS (ix (by omega) (by omega)) dJ1_charAt_3b067_8 (fun x8 e_x8 => ?_)
  have b_x8 := iB x8
  refine lv_sipush (v := 255) hx hb dJ1_charAt_3b067_9 (by decide) ?_
  refine m_iand hx hb dJ1_charAt_3b067_12 (fun x12 e_x12 => ?_)
  have b_x12 := iB x12
  refine m_i2c hx hb dJ1_charAt_3b067_13 (fun x13 e_x13 => ?_)
  have b_x13 := iB x13
  have hc9 := sOf_chr hs_v9 (k := i9.toNatClampNeg) (by have := tn p_0; omega)
  obtain ⟨hr9, hn9⟩ := chr9 hc9.1 hc9.2 e_x8 e_x12 e_x13
  subst hAe
  rw [hQ]
  exact W.zret (v := x13) hx hb hr (by exact hn9) (fun t ht hW => ⟨⟨x13, _, rfl, ⟨rfl, by exact congrArg Int32.toInt hr9⟩, by rw [ht]; exact hP, va_K.moved hW.alike hK, hD⟩, hS.F ht⟩) hS.2.2 dJ1_charAt_3b067_14

def rmJ0_isLatin1_aae02 : Room := { frames := 20, cells := 0, slots := 0, locals := 400 }
set_option maxHeartbeats 4000000 in
set_option maxRecDepth 100000 in
theorem tJ0_isLatin1_aae02 {l : Launch} {D : va_G} {K : Nat → Nat → Nat} (si : Nat) {tx_si : List Int32} (hs_si : sOf si tx_si) : CtI l yJ0_isLatin1_aae02 (wG yJ0_isLatin1_aae02 cJ0_isLatin1_aae02 1 (some .boolean)) rmJ0_isLatin1_aae02 D [] K [.ref (K 0 si)] [] (fun r w1 => w1 = [] ∧ (r.toInt = 1)) 0 0 := by
  intro sz
  refine Met.ofW (cc := cJ0_isLatin1_aae02) (maxL := 1) (ret := (some .boolean)) (by decide) rfl ?_
  intro p e s m args below meth c s₁ B hml hv
  obtain ⟨rfl, hsz, hP, hK, hD0, hE⟩ := hv
  have hx := B.exec
  have hb := B.bytes
  have hr := B.returns
  have hts := atoms_spec (ws := (wG yJ0_isLatin1_aae02 cJ0_isLatin1_aae02 1 (some .boolean))) B.pre
  have hown : s.vm.findClass RJ0 = some m.cls := findClass_of_methodNamed B.named
  have hlocks := B.notSynchronized
  subst hsz
  have hD := hD0.self (sz := s.heap.size)
  obtain ⟨A, hAe⟩ : ∃ A : Nat → Prop, A = va_A [] s.heap.size := ⟨_, rfl⟩
  rw [← hAe] at hD hE
  have hA : ∀ q : Nat, s.heap.size ≤ q → A q := fun q h => by rw [hAe]; exact Or.inr h
  have hS : va_S A s.heap s.heap [] := va_S.rf
  have hl := lv_entry ([.ref (K 0 si)]) (n := 1) (Nat.le_of_ble_eq_true rfl)
  rw [lg_entry_eq]
  generalize (lg_sl ([.ref (K 0 si)]) ++ List.replicate (1 - (lg_sl ([.ref (K 0 si)])).length) Slot.unset).toArray = ls at hl ⊢
  have hl : lv_has ls 1 [(0, .ref (K 0 si))] := hl
  refine wq (fun Q hQ => ?_)
  have kc0 : (0 : Int32).toInt = 0 := by decide
  have kc1 : (1 : Int32).toInt = 1 := by decide
  have k_10_21 := hts (.fieldLink RJ0 38 "java/lang/String" "COMPACT_STRINGS" "Z") (List.mem_cons_of_mem _ (wr10 _ (List.mem_of_getElem? (i := 21) rfl)))
  have k_10_22 := hts (.fieldLink RJ0 15 "java/lang/String" "coder" "B") (List.mem_cons_of_mem _ (wr10 _ (List.mem_of_getElem? (i := 22) rfl)))
  obtain ⟨H, hH⟩ : ∃ H : Heap, H = s.heap := ⟨_, rfl⟩
  obtain ⟨locs, hlc⟩ : ∃ L : List Loc, L = [] := ⟨_, rfl⟩
  have hP : va_P D vwCl [] H := by rw [hH]; exact hP
  have hS : va_S A s.heap H locs := by rw [hH, hlc]; exact hS
  refine wHL hH hlc ?_
  have st_si := hE.str hs_si
  have ln_si := sOf_len hs_si
  refine va_gets hx hb hE.2.1 hS hown k_10_21 (fun _ h9 => h9) dJ0_isLatin1_aae02_0 ?_
  refine m_if_eq (X := 1) (tgt := 17) hx hb dJ0_isLatin1_aae02_3 (by decide) (by decide) (fun c3 => ?_) (fun c3 => ?_)
  · skip
    exact absurd c3 (by decide)
  · skip
    refine lv_aload_n hx hb dJ0_isLatin1_aae02_6 rfl (lv_at hl 0 rfl) ?_
    refine vk_getf hx hb st_si.2.1 hS hown k_10_22 (fun _ h9 => h9) dJ0_isLatin1_aae02_7 ?_
    refine m_if_ne (X := 0) (tgt := 17) hx hb dJ0_isLatin1_aae02_10 (by decide) (by decide) (fun c10 => ?_) (fun c10 => ?_)
    · skip
      exact absurd c10 (by decide)
    · skip
      refine lv_iconst (v := 1) hx hb dJ0_isLatin1_aae02_13 (by decide) ?_
      refine lv_goto (tgt := 18) hx hb dJ0_isLatin1_aae02_14 (by decide) ?_
      subst hAe
      rw [hQ]
      exact W.zret (v := 1) hx hb hr (by decide) (fun t ht hW => ⟨⟨1, _, rfl, ⟨rfl, by first | assumption | omega | (intros; omega) | decide⟩, by rw [ht]; exact hP, va_K.moved hW.alike hK, hD⟩, hS.F ht⟩) hS.2.2 dJ0_isLatin1_aae02_18

def rmJ0_coder_7d493 : Room := { frames := 20, cells := 0, slots := 0, locals := 400 }
set_option maxHeartbeats 4000000 in
set_option maxRecDepth 100000 in
theorem tJ0_coder_7d493 {l : Launch} {D : va_G} {K : Nat → Nat → Nat} (si : Nat) {tx_si : List Int32} (hs_si : sOf si tx_si) : CtI l yJ0_coder_7d493 (wG yJ0_coder_7d493 cJ0_coder_7d493 1 (some .byte)) rmJ0_coder_7d493 D [] K [.ref (K 0 si)] [] (fun r w1 => w1 = [] ∧ (r.toInt = 0)) 0 0 := by
  intro sz
  refine Met.ofW (cc := cJ0_coder_7d493) (maxL := 1) (ret := (some .byte)) (by decide) rfl ?_
  intro p e s m args below meth c s₁ B hml hv
  obtain ⟨rfl, hsz, hP, hK, hD0, hE⟩ := hv
  have hx := B.exec
  have hb := B.bytes
  have hr := B.returns
  have hts := atoms_spec (ws := (wG yJ0_coder_7d493 cJ0_coder_7d493 1 (some .byte))) B.pre
  have hown : s.vm.findClass RJ0 = some m.cls := findClass_of_methodNamed B.named
  have hlocks := B.notSynchronized
  subst hsz
  have hD := hD0.self (sz := s.heap.size)
  obtain ⟨A, hAe⟩ : ∃ A : Nat → Prop, A = va_A [] s.heap.size := ⟨_, rfl⟩
  rw [← hAe] at hD hE
  have hA : ∀ q : Nat, s.heap.size ≤ q → A q := fun q h => by rw [hAe]; exact Or.inr h
  have hS : va_S A s.heap s.heap [] := va_S.rf
  have hl := lv_entry ([.ref (K 0 si)]) (n := 1) (Nat.le_of_ble_eq_true rfl)
  rw [lg_entry_eq]
  generalize (lg_sl ([.ref (K 0 si)]) ++ List.replicate (1 - (lg_sl ([.ref (K 0 si)])).length) Slot.unset).toArray = ls at hl ⊢
  have hl : lv_has ls 1 [(0, .ref (K 0 si))] := hl
  refine wq (fun Q hQ => ?_)
  have kc0 : (1 : Int32).toInt = 1 := by decide
  have k_10_21 := hts (.fieldLink RJ0 38 "java/lang/String" "COMPACT_STRINGS" "Z") (List.mem_cons_of_mem _ (wr10 _ (List.mem_of_getElem? (i := 21) rfl)))
  have k_10_22 := hts (.fieldLink RJ0 15 "java/lang/String" "coder" "B") (List.mem_cons_of_mem _ (wr10 _ (List.mem_of_getElem? (i := 22) rfl)))
  obtain ⟨H, hH⟩ : ∃ H : Heap, H = s.heap := ⟨_, rfl⟩
  obtain ⟨locs, hlc⟩ : ∃ L : List Loc, L = [] := ⟨_, rfl⟩
  have hP : va_P D vwCl [] H := by rw [hH]; exact hP
  have hS : va_S A s.heap H locs := by rw [hH, hlc]; exact hS
  refine wHL hH hlc ?_
  have st_si := hE.str hs_si
  have ln_si := sOf_len hs_si
  refine va_gets hx hb hE.2.1 hS hown k_10_21 (fun _ h9 => h9) dJ0_coder_7d493_0 ?_
  refine m_if_eq (X := 1) (tgt := 13) hx hb dJ0_coder_7d493_3 (by decide) (by decide) (fun c3 => ?_) (fun c3 => ?_)
  · skip
    exact absurd c3 (by decide)
  · skip
    refine lv_aload_n hx hb dJ0_coder_7d493_6 rfl (lv_at hl 0 rfl) ?_
    refine vk_getf hx hb st_si.2.1 hS hown k_10_22 (fun _ h9 => h9) dJ0_coder_7d493_7 ?_
    refine lv_goto (tgt := 14) hx hb dJ0_coder_7d493_10 (by decide) ?_
    subst hAe
    rw [hQ]
    exact W.zret (v := 0) hx hb hr (by decide) (fun t ht hW => ⟨⟨0, _, rfl, ⟨rfl, by first | assumption | omega | (intros; omega) | decide⟩, by rw [ht]; exact hP, va_K.moved hW.alike hK, hD⟩, hS.F ht⟩) hS.2.2 dJ0_coder_7d493_14

def rmJ0_length_8abf5 : Room := { frames := 40, cells := 0, slots := 0, locals := 800 }
set_option maxHeartbeats 4000000 in
set_option maxRecDepth 100000 in
theorem tJ0_length_8abf5 {l : Launch} {D : va_G} {K : Nat → Nat → Nat} (si : Nat) {tx_si : List Int32} (hs_si : sOf si tx_si) : CtI l yJ0_length_8abf5 (wG yJ0_length_8abf5 cJ0_length_8abf5 1 (some .int)) rmJ0_length_8abf5 D [] K [.ref (K 0 si)] [] (fun r w1 => w1 = [] ∧ (r.toInt = (tx_si.length : Int))) 0 0 := by
  intro sz
  refine Met.ofW (cc := cJ0_length_8abf5) (maxL := 1) (ret := (some .int)) (by decide) rfl ?_
  intro p e s m args below meth c s₁ B hml hv
  obtain ⟨rfl, hsz, hP, hK, hD0, hE⟩ := hv
  have hx := B.exec
  have hb := B.bytes
  have hr := B.returns
  have hts := atoms_spec (ws := (wG yJ0_length_8abf5 cJ0_length_8abf5 1 (some .int))) B.pre
  have hown : s.vm.findClass RJ0 = some m.cls := findClass_of_methodNamed B.named
  have hlocks := B.notSynchronized
  subst hsz
  have hD := hD0.self (sz := s.heap.size)
  obtain ⟨A, hAe⟩ : ∃ A : Nat → Prop, A = va_A [] s.heap.size := ⟨_, rfl⟩
  rw [← hAe] at hD hE
  have hA : ∀ q : Nat, s.heap.size ≤ q → A q := fun q h => by rw [hAe]; exact Or.inr h
  have hS : va_S A s.heap s.heap [] := va_S.rf
  have hl := lv_entry ([.ref (K 0 si)]) (n := 1) (Nat.le_of_ble_eq_true rfl)
  rw [lg_entry_eq]
  generalize (lg_sl ([.ref (K 0 si)]) ++ List.replicate (1 - (lg_sl ([.ref (K 0 si)])).length) Slot.unset).toArray = ls at hl ⊢
  have hl : lv_has ls 1 [(0, .ref (K 0 si))] := hl
  refine wq (fun Q hQ => ?_)
  have k_10_16 := hts (.fieldLink RJ0 9 "java/lang/String" "value" "[B") (List.mem_cons_of_mem _ (wr10 _ (List.mem_of_getElem? (i := 16) rfl)))
  obtain ⟨H, hH⟩ : ∃ H : Heap, H = s.heap := ⟨_, rfl⟩
  obtain ⟨locs, hlc⟩ : ∃ L : List Loc, L = [] := ⟨_, rfl⟩
  have hP : va_P D vwCl [] H := by rw [hH]; exact hP
  have hS : va_S A s.heap H locs := by rw [hH, hlc]; exact hS
  refine wHL hH hlc ?_
  have st_si := hE.str hs_si
  have ln_si := sOf_len hs_si
  refine lv_aload_n hx hb dJ0_length_8abf5_0 rfl (lv_at hl 0 rfl) ?_
  refine vk_getf hx hb st_si.2.2.1 hS hown k_10_16 (fun _ h9 => h9) dJ0_length_8abf5_1 ?_
  refine m_tlen hx hb st_si.2.2.2 hS (by omega) dJ0_length_8abf5_4 (fun x4 g_x4 => ?_)
  refine lv_aload_n hx hb dJ0_length_8abf5_5 rfl (lv_at hl 0 rfl) ?_
  refine call_iP (As := []) (rest := [.int x4]) ⟨hx, hb, hml, hown, hts⟩ (tJ0_coder_7d493 (l := l) si hs_si ) (cwV 0 hts (gV (wr11 _ (List.mem_of_getElem? (i := 3) rfl)) (wr11 _ (List.mem_of_getElem? (i := 4) rfl)) (wr11 _ (List.mem_of_getElem? (i := 5) rfl)) (wr10 _ (List.mem_of_getElem? (i := 10) rfl)) (wr11 _ (List.mem_of_getElem? (i := 6) rfl))) rfl rfl rfl (by decide +kernel) ⟨Nat.le_of_ble_eq_true rfl, Nat.le_of_ble_eq_true rfl⟩) (sRecv st_si hS) (hK.sub [] rfl) hP hD hE hS hA rfl hl.1 rfl (Nat.le_of_ble_eq_true rfl) dJ0_length_8abf5_6 ⟨Nat.le_of_ble_eq_true rfl, Nat.le_of_ble_eq_true rfl⟩ (fun r6 w9 H locs hw6 hP hD hS => ?_)
  obtain ⟨rfl, hw6_0⟩ := hw6
  have b_r6 := iB r6
  refine m_ishr hx hb dJ0_length_8abf5_9 (fun x9 e_x9 => ?_)
  have b_x9 := iB x9
  subst hAe
  rw [hQ]
  exact W.iret (v := x9) hx hb hr (fun t ht hW => ⟨⟨x9, _, rfl, ⟨rfl, by (rw [e_x9, shr0 (by omega)]; omega)⟩, by rw [ht]; exact hP, va_K.moved hW.alike hK, hD⟩, hS.F ht⟩) hS.2.2 dJ0_length_8abf5_10

def rmJ0_charAt_5068e : Room := { frames := 80, cells := 0, slots := 0, locals := 1600 }
set_option maxHeartbeats 4000000 in
set_option maxRecDepth 100000 in
theorem tJ0_charAt_5068e {l : Launch} {D : va_G} {K : Nat → Nat → Nat} (si : Nat) {tx_si : List Int32} (hs_si : sOf si tx_si) (i9 : Int32) (p_0 : 0 ≤ i9.toInt) (p_1 : i9.toInt < (tx_si.length : Int)) : CtI l yJ0_charAt_5068e (wG yJ0_charAt_5068e cJ0_charAt_5068e 2 (some .char)) rmJ0_charAt_5068e D [] K [.ref (K 0 si), .int i9] [] (fun r w1 => w1 = [] ∧ (r.toInt = (tx_si.getD i9.toNatClampNeg 0).toInt)) 0 0 := by
  intro sz
  refine Met.ofW (cc := cJ0_charAt_5068e) (maxL := 2) (ret := (some .char)) (by decide) rfl ?_
  intro p e s m args below meth c s₁ B hml hv
  obtain ⟨rfl, hsz, hP, hK, hD0, hE⟩ := hv
  have hx := B.exec
  have hb := B.bytes
  have hr := B.returns
  have hts := atoms_spec (ws := (wG yJ0_charAt_5068e cJ0_charAt_5068e 2 (some .char))) B.pre
  have hown : s.vm.findClass RJ0 = some m.cls := findClass_of_methodNamed B.named
  have hlocks := B.notSynchronized
  subst hsz
  have hD := hD0.self (sz := s.heap.size)
  obtain ⟨A, hAe⟩ : ∃ A : Nat → Prop, A = va_A [] s.heap.size := ⟨_, rfl⟩
  rw [← hAe] at hD hE
  have hA : ∀ q : Nat, s.heap.size ≤ q → A q := fun q h => by rw [hAe]; exact Or.inr h
  have hS : va_S A s.heap s.heap [] := va_S.rf
  have hl := lv_entry ([.ref (K 0 si), .int i9]) (n := 2) (Nat.le_of_ble_eq_true rfl)
  rw [lg_entry_eq]
  generalize (lg_sl ([.ref (K 0 si), .int i9]) ++ List.replicate (2 - (lg_sl ([.ref (K 0 si), .int i9])).length) Slot.unset).toArray = ls at hl ⊢
  have hl : lv_has ls 2 [(0, .ref (K 0 si)), (1, .int i9)] := hl
  refine wq (fun Q hQ => ?_)
  have k_10_16 := hts (.fieldLink RJ0 9 "java/lang/String" "value" "[B") (List.mem_cons_of_mem _ (wr10 _ (List.mem_of_getElem? (i := 16) rfl)))
  obtain ⟨H, hH⟩ : ∃ H : Heap, H = s.heap := ⟨_, rfl⟩
  obtain ⟨locs, hlc⟩ : ∃ L : List Loc, L = [] := ⟨_, rfl⟩
  have hP : va_P D vwCl [] H := by rw [hH]; exact hP
  have hS : va_S A s.heap H locs := by rw [hH, hlc]; exact hS
  refine wHL hH hlc ?_
  have st_si := hE.str hs_si
  have ln_si := sOf_len hs_si
  have b_i9 := iB i9
  refine lv_aload_n hx hb dJ0_charAt_5068e_0 rfl (lv_at hl 0 rfl) ?_
  refine call_iP (As := []) (rest := []) ⟨hx, hb, hml, hown, hts⟩ (tJ0_isLatin1_aae02 (l := l) si hs_si ) (cwV 0 hts (gV (wr10 _ (List.mem_of_getElem? (i := 17) rfl)) (wr10 _ (List.mem_of_getElem? (i := 18) rfl)) (wr10 _ (List.mem_of_getElem? (i := 19) rfl)) (wr10 _ (List.mem_of_getElem? (i := 10) rfl)) (wr10 _ (List.mem_of_getElem? (i := 20) rfl))) rfl rfl rfl (by decide +kernel) ⟨Nat.le_of_ble_eq_true rfl, Nat.le_of_ble_eq_true rfl⟩) (sRecv st_si hS) (hK.sub [] rfl) hP hD hE hS hA rfl hl.1 rfl (Nat.le_of_ble_eq_true rfl) dJ0_charAt_5068e_1 ⟨Nat.le_of_ble_eq_true rfl, Nat.le_of_ble_eq_true rfl⟩ (fun r1 w9 H locs hw1 hP hD hS => ?_)
  obtain ⟨rfl, hw1_0⟩ := hw1
  have b_r1 := iB r1
  refine m_if_eq (X := r1.toInt) (tgt := 16) hx hb dJ0_charAt_5068e_4 (by decide) rfl (fun c4 => ?_) (fun c4 => ?_)
  · skip
    exfalso
    omega
  · skip
    refine lv_aload_n hx hb dJ0_charAt_5068e_7 rfl (lv_at hl 0 rfl) ?_
    refine vk_getf hx hb st_si.2.2.1 hS hown k_10_16 (fun _ h9 => h9) dJ0_charAt_5068e_8 ?_
    refine lv_iload_n hx hb dJ0_charAt_5068e_11 rfl (lv_at hl 1 rfl) ?_
    refine call_iSP (As := [.ref (K 1 si), .int i9]) (rest := []) ⟨hx, hb, hml, hown, hts⟩ (tJ1_charAt_3b067 (l := l) si hs_si i9 (by first | assumption | omega | (intros; omega) | decide) (by first | assumption | omega | (intros; omega) | decide)) (va_cwS 2 hts (gS (wr14 _ (List.mem_of_getElem? (i := 20) rfl)) (wr14 _ (List.mem_of_getElem? (i := 21) rfl)) (wr11 _ (List.mem_of_getElem? (i := 9) rfl)) (wr14 _ (List.mem_of_getElem? (i := 22) rfl))) rfl rfl rfl (by decide +kernel) ⟨Nat.le_of_ble_eq_true rfl, Nat.le_of_ble_eq_true rfl⟩) (hK.sub [] rfl) hP hD hE hS hA rfl hl.1 rfl (Nat.le_of_ble_eq_true rfl) dJ0_charAt_5068e_12 ⟨Nat.le_of_ble_eq_true rfl, Nat.le_of_ble_eq_true rfl⟩ (fun r12 w9 H locs hw12 hP hD hS => ?_)
    obtain ⟨rfl, hw12_0⟩ := hw12
    have b_r12 := iB r12
    subst hAe
    rw [hQ]
    exact W.zret (v := r12) hx hb hr (by exact chrN (by have := sOf_chr hs_si (k := i9.toNatClampNeg) (by have := tn p_0; omega); omega) (by have := sOf_chr hs_si (k := i9.toNatClampNeg) (by have := tn p_0; omega); omega)) (fun t ht hW => ⟨⟨r12, _, rfl, ⟨rfl, by first | assumption | omega | (intros; omega) | decide⟩, by rw [ht]; exact hP, va_K.moved hW.alike hK, hD⟩, hS.F ht⟩) hS.2.2 dJ0_charAt_5068e_15
