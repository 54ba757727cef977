def rmJ1_canEncode_9a6ad : Room := { frames := 20, cells := 0, slots := 0, locals := 400 }
set_option maxHeartbeats 4000000 in
set_option maxRecDepth 100000 in
theorem tJ1_canEncode_9a6ad {l : Launch} {D : va_G} {K : Nat → Nat → Nat} (c9 : Int32) : CtI l yJ1_canEncode_9a6ad (wG yJ1_canEncode_9a6ad cJ1_canEncode_9a6ad 1 (some .boolean)) rmJ1_canEncode_9a6ad D [] K [.int c9] [] (fun r w1 => w1 = []) 0 0 := by
  intro sz
  refine Met.ofW (cc := cJ1_canEncode_9a6ad) (maxL := 1) (ret := (some .boolean)) (by decide) rfl ?_
  intro p e s m args below meth c s₁ B hml hv
  obtain ⟨rfl, hsz, hP, hK, hD0, hE⟩ := hv
  have hx := B.exec
  have hb := B.bytes
  have hr := B.returns
  have hts := atoms_spec (ws := (wG yJ1_canEncode_9a6ad cJ1_canEncode_9a6ad 1 (some .boolean))) B.pre
  have hown : s.vm.findClass RJ1 = some m.cls := findClass_of_methodNamed B.named
  have hlocks := B.notSynchronized
  subst hsz
  have hD := hD0.self (sz := s.heap.size)
  obtain ⟨A, hAe⟩ : ∃ A : Nat → Prop, A = va_A [] s.heap.size := ⟨_, rfl⟩
  rw [← hAe] at hD hE
  have hA : ∀ q : Nat, s.heap.size ≤ q → A q := fun q h => by rw [hAe]; exact Or.inr h
  have hS : va_S A s.heap s.heap [] := va_S.rf
  have hl := lv_entry ([.int c9]) (n := 1) (Nat.le_of_ble_eq_true rfl)
  rw [lg_entry_eq]
  generalize (lg_sl ([.int c9]) ++ List.replicate (1 - (lg_sl ([.int c9])).length) Slot.unset).toArray = ls at hl ⊢
  have hl : lv_has ls 1 [(0, .int c9)] := hl
  refine wq (fun Q hQ => ?_)
  have kc0 : (0 : Int32).toInt = 0 := by decide
  have kc1 : (1 : Int32).toInt = 1 := by decide
  have kc2 : (255 : Int32).toInt = 255 := by decide
  obtain ⟨H, hH⟩ : ∃ H : Heap, H = s.heap := ⟨_, rfl⟩
  obtain ⟨locs, hlc⟩ : ∃ L : List Loc, L = [] := ⟨_, rfl⟩
  have hP : va_P D vwCl [] H := by rw [hH]; exact hP
  have hS : va_S A s.heap H locs := by rw [hH, hlc]; exact hS
  refine wHL hH hlc ?_
  have b_c9 := iB c9
  refine lv_iload_n hx hb dJ1_canEncode_9a6ad_0 rfl (lv_at hl 0 rfl) ?_
  refine m_if_lt (X := c9.toInt) (tgt := 15) hx hb dJ1_canEncode_9a6ad_1 (by decide) rfl (fun c1 => ?_) (fun c1 => ?_)
  · skip
    refine lv_iconst (v := 0) hx hb dJ1_canEncode_9a6ad_15 (by decide) ?_
    subst hAe
    rw [hQ]
    exact W.zret (v := 0) hx hb hr (by decide) (fun t ht hW => ⟨⟨0, _, rfl, rfl, by rw [ht]; exact hP, va_K.moved hW.alike hK, hD⟩, hS.F ht⟩) hS.2.2 dJ1_canEncode_9a6ad_16
  · skip
    refine lv_iload_n hx hb dJ1_canEncode_9a6ad_4 rfl (lv_at hl 0 rfl) ?_
    refine lv_sipush (v := 255) hx hb dJ1_canEncode_9a6ad_5 (by decide) ?_
    refine m_icmp_gt (X := c9.toInt) (Y := 255) (tgt := 15) hx hb dJ1_canEncode_9a6ad_8 (by decide) rfl (by decide) (fun c8 => ?_) (fun c8 => ?_)
    · skip
      refine lv_iconst (v := 0) hx hb dJ1_canEncode_9a6ad_15 (by decide) ?_
      subst hAe
      rw [hQ]
      exact W.zret (v := 0) hx hb hr (by decide) (fun t ht hW => ⟨⟨0, _, rfl, rfl, by rw [ht]; exact hP, va_K.moved hW.alike hK, hD⟩, hS.F ht⟩) hS.2.2 dJ1_canEncode_9a6ad_16
    · skip
      refine lv_iconst (v := 1) hx hb dJ1_canEncode_9a6ad_11 (by decide) ?_
      refine lv_goto (tgt := 16) hx hb dJ1_canEncode_9a6ad_12 (by decide) ?_
      subst hAe
      rw [hQ]
      exact W.zret (v := 1) hx hb hr (by decide) (fun t ht hW => ⟨⟨1, _, rfl, rfl, by rw [ht]; exact hP, va_K.moved hW.alike hK, hD⟩, hS.F ht⟩) hS.2.2 dJ1_canEncode_9a6ad_16

def rmJ1_indexOfChar_4cfef : Room := { frames := 20, cells := 0, slots := 0, locals := 400 }
set_option maxHeartbeats 4000000 in
set_option maxRecDepth 100000 in
theorem tJ1_indexOfChar_4cfef {l : Launch} {D : va_G} {K : Nat → Nat → Nat} (v9 : Nat) {tx_v9 : List Int32} (hs_v9 : sOf v9 tx_v9) (c9 : Int32) (f9 : Int32) (t9 : Int32) (p_0 : 0 ≤ f9.toInt) (p_1 : f9.toInt ≤ t9.toInt) (p_2 : t9.toInt ≤ (tx_v9.length : Int)) : CtI l yJ1_indexOfChar_4cfef (wG yJ1_indexOfChar_4cfef cJ1_indexOfChar_4cfef 6 (some .int)) rmJ1_indexOfChar_4cfef D [] K [.ref (K 1 v9), .int c9, .int f9, .int t9] [] (fun r w1 => w1 = []) 0 0 := by
  intro sz
  refine Met.ofW (cc := cJ1_indexOfChar_4cfef) (maxL := 6) (ret := (some .int)) (by decide) rfl ?_
  intro p e s m args below meth c s₁ B hml hv
  obtain ⟨rfl, hsz, hP, hK, hD0, hE⟩ := hv
  have hx := B.exec
  have hb := B.bytes
  have hr := B.returns
  have hts := atoms_spec (ws := (wG yJ1_indexOfChar_4cfef cJ1_indexOfChar_4cfef 6 (some .int))) B.pre
  have hown : s.vm.findClass RJ1 = some m.cls := findClass_of_methodNamed B.named
  have hlocks := B.notSynchronized
  subst hsz
  have hD := hD0.self (sz := s.heap.size)
  obtain ⟨A, hAe⟩ : ∃ A : Nat → Prop, A = va_A [] s.heap.size := ⟨_, rfl⟩
  rw [← hAe] at hD hE
  have hA : ∀ q : Nat, s.heap.size ≤ q → A q := fun q h => by rw [hAe]; exact Or.inr h
  have hS : va_S A s.heap s.heap [] := va_S.rf
  have hl := lv_entry ([.ref (K 1 v9), .int c9, .int f9, .int t9]) (n := 6) (Nat.le_of_ble_eq_true rfl)
  rw [lg_entry_eq]
  generalize (lg_sl ([.ref (K 1 v9), .int c9, .int f9, .int t9]) ++ List.replicate (6 - (lg_sl ([.ref (K 1 v9), .int c9, .int f9, .int t9])).length) Slot.unset).toArray = ls at hl ⊢
  have hl : lv_has ls 6 [(0, .ref (K 1 v9)), (1, .int c9), (2, .int f9), (3, .int t9)] := hl
  refine wq (fun Q hQ => ?_)
  have kc0 : (-1 : Int32).toInt = -1 := by decide
  obtain ⟨H, hH⟩ : ∃ H : Heap, H = s.heap := ⟨_, rfl⟩
  obtain ⟨locs, hlc⟩ : ∃ L : List Loc, L = [] := ⟨_, rfl⟩
  have hP : va_P D vwCl [] H := by rw [hH]; exact hP
  have hS : va_S A s.heap H locs := by rw [hH, hlc]; exact hS
  refine wHL hH hlc ?_
  have st_v9 := hE.str hs_v9
  have ln_v9 := sOf_len hs_v9
  have b_c9 := iB c9
  have b_f9 := iB f9
  have b_t9 := iB t9
  refine lv_iload_n hx hb dJ1_indexOfChar_4cfef_0 rfl (lv_at hl 1 rfl) ?_
  refine m_i2b hx hb dJ1_indexOfChar_4cfef_1 (fun x1 e_x1 => ?_)
  have b_x1 := iB x1
  refine lv_istore (lv' := [(4, .int x1), (0, .ref (K 1 v9)), (1, .int c9), (2, .int f9), (3, .int t9)]) hx hb dJ1_indexOfChar_4cfef_2 hl (by decide) rfl (fun ls hl => ?_)
  refine lv_iload_n hx hb dJ1_indexOfChar_4cfef_4 rfl (lv_at hl 3 rfl) ?_
  refine lv_istore (lv' := [(5, .int f9), (4, .int x1), (0, .ref (K 1 v9)), (1, .int c9), (2, .int f9), (3, .int t9)]) hx hb dJ1_indexOfChar_4cfef_5 hl (by decide) rfl (fun ls hl => ?_)
  have J7 : ∀ (n7 : Nat) (l5_7 : Int32) (H : Heap) (locs : List Loc) (ls : Array Slot), (0 ≤ l5_7.toInt) → (l5_7.toInt ≤ t9.toInt) → (t9.toInt - l5_7.toInt < (n7 : Int)) → va_P D vwCl [] H → va_D A [] → va_S A s.heap H locs → lv_has ls 6 [(0, .ref (K 1 v9)), (3, .int t9), (4, .int x1), (5, .int l5_7)] → W p l e (headSpec (wG yJ1_indexOfChar_4cfef cJ1_indexOfChar_4cfef 6 (some .int)) rmJ1_indexOfChar_4cfef).room s m ([.ref (K 1 v9), .int c9, .int f9, .int t9] : List Value).toArray below meth c H locs 0 0 Q (F0 m 7 ls []) := by
    intro n7
    induction n7 with
    | zero =>
      intro l5_7 H locs ls f7_0 f7_1 hm7
      exfalso
      omega
    | succ n7 ih7 =>
      intro l5_7 H locs ls f7_0 f7_1 hm7 hP hD hS hl
      refine lv_iload hx hb dJ1_indexOfChar_4cfef_7 (lv_at hl 3 rfl) ?_
      refine lv_iload_n hx hb dJ1_indexOfChar_4cfef_9 rfl (lv_at hl 1 rfl) ?_
      refine m_icmp_ge (X := l5_7.toInt) (Y := t9.toInt) (tgt := 31) hx hb dJ1_indexOfChar_4cfef_10 (by decide) rfl rfl (fun c10 => ?_) (fun c10 => ?_)
      · skip
        refine lv_iconst (v := (-1)) hx hb dJ1_indexOfChar_4cfef_31 (by decide) ?_
        subst hAe
        rw [hQ]
        exact W.iret (v := (-1)) hx hb hr (fun t ht hW => ⟨⟨(-1), _, rfl, rfl, by rw [ht]; exact hP, va_K.moved hW.alike hK, hD⟩, hS.F ht⟩) hS.2.2 dJ1_indexOfChar_4cfef_32
      · skip
        refine lv_aload_n hx hb dJ1_indexOfChar_4cfef_13 rfl (lv_at hl 0 rfl) ?_
        refine lv_iload hx hb dJ1_indexOfChar_4cfef_14 (lv_at hl 3 rfl) ?_
        refine m_tb (f := fun j => tx_v9.getD j 0) hx hb st_v9.2.2.2 hS (ix (by omega) (by omega)) dJ1_indexOfChar_4cfef_16 (fun x16 e_x16 => ?_)
        have b_x16 := iB x16
        refine lv_iload hx hb dJ1_indexOfChar_4cfef_17 (lv_at hl 2 rfl) ?_
        refine m_icmp_ne (X := x16.toInt) (Y := x1.toInt) (tgt := 25) hx hb dJ1_indexOfChar_4cfef_19 (by decide) rfl rfl (fun c19 => ?_) (fun c19 => ?_)
        · skip
          obtain ⟨x25, e_x25⟩ : ∃ z : Int32, z = l5_7 + (1 : Int32) := ⟨_, rfl⟩
          obtain ⟨k_x25, g_x25⟩ : ∃ k : Int, x25.toInt = l5_7.toInt + (1) + k * 4294967296 := by rw [e_x25]; exact iAdd l5_7 (1)
          have b_x25 := iB x25
          try (have q_x25 : x25.toInt = l5_7.toInt + (1) := (by omega); clear g_x25 k_x25)
          refine lv_iinc (v := x25) (lv' := [(5, .int x25), (0, .ref (K 1 v9)), (3, .int t9), (4, .int x1)]) hx hb dJ1_indexOfChar_4cfef_25 hl (k := 3) rfl (by rw [e_x25]; rfl) (by decide) rfl (fun ls hl => ?_)
          refine lv_goto (tgt := 7) hx hb dJ1_indexOfChar_4cfef_28 (by decide) ?_
          exact ih7 x25 H locs ls (by first | assumption | omega | (intros; omega) | decide) (by first | assumption | omega | (intros; omega) | decide) (by omega) hP hD hS (lv_sub hl [1, 2, 3, 0] rfl)
        · skip
          refine lv_iload hx hb dJ1_indexOfChar_4cfef_22 (lv_at hl 3 rfl) ?_
          subst hAe
          rw [hQ]
          exact W.iret (v := l5_7) hx hb hr (fun t ht hW => ⟨⟨l5_7, _, rfl, rfl, by rw [ht]; exact hP, va_K.moved hW.alike hK, hD⟩, hS.F ht⟩) hS.2.2 dJ1_indexOfChar_4cfef_24
  exact J7 ((t9.toInt - f9.toInt).toNat + 1) f9 H locs ls (by first | assumption | omega | (intros; omega) | decide) (by first | assumption | omega | (intros; omega) | decide) (by omega) hP hD hS (lv_sub hl [2, 5, 1, 0] rfl)

def rmJ1_indexOf_4cfef : Room := { frames := 40, cells := 0, slots := 0, locals := 800 }
set_option maxHeartbeats 4000000 in
set_option maxRecDepth 100000 in
theorem tJ1_indexOf_4cfef {l : Launch} {D : va_G} {K : Nat → Nat → Nat} (v9 : Nat) {tx_v9 : List Int32} (hs_v9 : sOf v9 tx_v9) (c9 : Int32) (f9 : Int32) (t9 : Int32) : CtI l yJ1_indexOf_4cfef (wG yJ1_indexOf_4cfef cJ1_indexOf_4cfef 4 (some .int)) rmJ1_indexOf_4cfef D [] K [.ref (K 1 v9), .int c9, .int f9, .int t9] [] (fun r w1 => w1 = []) 0 0 := by
  intro sz
  refine Met.ofW (cc := cJ1_indexOf_4cfef) (maxL := 4) (ret := (some .int)) (by decide) rfl ?_
  intro p e s m args below meth c s₁ B hml hv
  obtain ⟨rfl, hsz, hP, hK, hD0, hE⟩ := hv
  have hx := B.exec
  have hb := B.bytes
  have hr := B.returns
  have hts := atoms_spec (ws := (wG yJ1_indexOf_4cfef cJ1_indexOf_4cfef 4 (some .int))) B.pre
  have hown : s.vm.findClass RJ1 = some m.cls := findClass_of_methodNamed B.named
  have hlocks := B.notSynchronized
  subst hsz
  have hD := hD0.self (sz := s.heap.size)
  obtain ⟨A, hAe⟩ : ∃ A : Nat → Prop, A = va_A [] s.heap.size := ⟨_, rfl⟩
  rw [← hAe] at hD hE
  have hA : ∀ q : Nat, s.heap.size ≤ q → A q := fun q h => by rw [hAe]; exact Or.inr h
  have hS : va_S A s.heap s.heap [] := va_S.rf
  have hl := lv_entry ([.ref (K 1 v9), .int c9, .int f9, .int t9]) (n := 4) (Nat.le_of_ble_eq_true rfl)
  rw [lg_entry_eq]
  generalize (lg_sl ([.ref (K 1 v9), .int c9, .int f9, .int t9]) ++ List.replicate (4 - (lg_sl ([.ref (K 1 v9), .int c9, .int f9, .int t9])).length) Slot.unset).toArray = ls at hl ⊢
  have hl : lv_has ls 4 [(0, .ref (K 1 v9)), (1, .int c9), (2, .int f9), (3, .int t9)] := hl
  refine wq (fun Q hQ => ?_)
  have kc0 : (-1 : Int32).toInt = -1 := by decide
  have kc1 : (0 : Int32).toInt = 0 := by decide
  have k_11_11 := hts (.methodLink RJ1 92 Lib.Math.max.name) (List.mem_cons_of_mem _ (wr11 _ (List.mem_of_getElem? (i := 11) rfl)))
  have k_9_12 := hts (.static Lib.Math.max.name) (List.mem_cons_of_mem _ (wr9 _ (List.mem_of_getElem? (i := 12) rfl)))
  have k_9_9 := hts (.initialized "java/lang/Math") (List.mem_cons_of_mem _ (wr9 _ (List.mem_of_getElem? (i := 9) rfl)))
  have k_9_13 := hts (.code Lib.Math.max.name Lib.Math.max.code 2 (some .int)) (List.mem_cons_of_mem _ (wr9 _ (List.mem_of_getElem? (i := 13) rfl)))
  have k_11_12 := hts (.methodLink RJ1 38 Lib.Math.min.name) (List.mem_cons_of_mem _ (wr11 _ (List.mem_of_getElem? (i := 12) rfl)))
  have k_9_8 := hts (.static Lib.Math.min.name) (List.mem_cons_of_mem _ (wr9 _ (List.mem_of_getElem? (i := 8) rfl)))
  have k_9_10 := hts (.code Lib.Math.min.name Lib.Math.min.code 2 (some .int)) (List.mem_cons_of_mem _ (wr9 _ (List.mem_of_getElem? (i := 10) rfl)))
  obtain ⟨H, hH⟩ : ∃ H : Heap, H = s.heap := ⟨_, rfl⟩
  obtain ⟨locs, hlc⟩ : ∃ L : List Loc, L = [] := ⟨_, rfl⟩
  have hP : va_P D vwCl [] H := by rw [hH]; exact hP
  have hS : va_S A s.heap H locs := by rw [hH, hlc]; exact hS
  refine wHL hH hlc ?_
  have st_v9 := hE.str hs_v9
  have ln_v9 := sOf_len hs_v9
  have b_c9 := iB c9
  have b_f9 := iB f9
  have b_t9 := iB t9
  refine lv_iload_n hx hb dJ1_indexOf_4cfef_0 rfl (lv_at hl 1 rfl) ?_
  refine call_iSP (As := [.int c9]) (rest := []) ⟨hx, hb, hml, hown, hts⟩ (tJ1_canEncode_9a6ad (l := l) c9) (va_cwS 1 hts (gS (wr11 _ (List.mem_of_getElem? (i := 13) rfl)) (wr11 _ (List.mem_of_getElem? (i := 14) rfl)) (wr11 _ (List.mem_of_getElem? (i := 9) rfl)) (wr11 _ (List.mem_of_getElem? (i := 15) rfl))) rfl rfl rfl (by decide +kernel) ⟨Nat.le_of_ble_eq_true rfl, Nat.le_of_ble_eq_true rfl⟩) (hK.sub [] rfl) hP hD hE hS hA rfl hl.1 rfl (Nat.le_of_ble_eq_true rfl) dJ1_indexOf_4cfef_1 ⟨Nat.le_of_ble_eq_true rfl, Nat.le_of_ble_eq_true rfl⟩ (fun r1 w9 H locs hw1 hP hD hS => ?_)
  obtain ⟨rfl⟩ := hw1
  have b_r1 := iB r1
  refine m_if_ne (X := r1.toInt) (tgt := 9) hx hb dJ1_indexOf_4cfef_4 (by decide) rfl (fun c4 => ?_) (fun c4 => ?_)
  · skip
    refine lv_iload_n hx hb dJ1_indexOf_4cfef_9 rfl (lv_at hl 2 rfl) ?_
    refine lv_iconst (v := 0) hx hb dJ1_indexOf_4cfef_10 (by decide) ?_
    refine m_mmax (X := f9.toInt) (Y := 0) hx hb (by rw [hml]; exact hl.1.symm) hown k_11_11 k_9_12 k_9_9 k_9_13 (Nat.le_of_ble_eq_true rfl) (Nat.le_of_ble_eq_true rfl) (Nat.le_of_ble_eq_true rfl) (Nat.le_of_ble_eq_true rfl) rfl (by decide) dJ1_indexOf_4cfef_11 (fun x11 g_x11 => ?_)
    have b_x11 := iB x11
    refine lv_istore_n (lv' := [(2, .int x11), (0, .ref (K 1 v9)), (1, .int c9), (3, .int t9)]) hx hb dJ1_indexOf_4cfef_14 rfl hl (by decide) rfl (fun ls hl => ?_)
    refine lv_iload_n hx hb dJ1_indexOf_4cfef_15 rfl (lv_at hl 3 rfl) ?_
    refine lv_aload_n hx hb dJ1_indexOf_4cfef_16 rfl (lv_at hl 1 rfl) ?_
    refine m_tlen hx hb st_v9.2.2.2 hS (by omega) dJ1_indexOf_4cfef_17 (fun x17 g_x17 => ?_)
    refine m_mmin (X := t9.toInt) (Y := x17.toInt) hx hb (by rw [hml]; exact hl.1.symm) hown k_11_12 k_9_8 k_9_9 k_9_10 (Nat.le_of_ble_eq_true rfl) (Nat.le_of_ble_eq_true rfl) (Nat.le_of_ble_eq_true rfl) (Nat.le_of_ble_eq_true rfl) rfl rfl dJ1_indexOf_4cfef_18 (fun x18 g_x18 => ?_)
    have b_x18 := iB x18
    refine lv_istore_n (lv' := [(3, .int x18), (2, .int x11), (0, .ref (K 1 v9)), (1, .int c9)]) hx hb dJ1_indexOf_4cfef_21 rfl hl (by decide) rfl (fun ls hl => ?_)
    refine lv_iload_n hx hb dJ1_indexOf_4cfef_22 rfl (lv_at hl 1 rfl) ?_
    refine lv_iload_n hx hb dJ1_indexOf_4cfef_23 rfl (lv_at hl 0 rfl) ?_
    refine m_icmp_lt (X := x11.toInt) (Y := x18.toInt) (tgt := 29) hx hb dJ1_indexOf_4cfef_24 (by decide) rfl rfl (fun c24 => ?_) (fun c24 => ?_)
    · skip
      refine lv_aload_n hx hb dJ1_indexOf_4cfef_29 rfl (lv_at hl 2 rfl) ?_
      refine lv_iload_n hx hb dJ1_indexOf_4cfef_30 rfl (lv_at hl 3 rfl) ?_
      refine lv_iload_n hx hb dJ1_indexOf_4cfef_31 rfl (lv_at hl 1 rfl) ?_
      refine lv_iload_n hx hb dJ1_indexOf_4cfef_32 rfl (lv_at hl 0 rfl) ?_
      refine call_iSP (As := [.ref (K 1 v9), .int c9, .int x11, .int x18]) (rest := []) ⟨hx, hb, hml, hown, hts⟩ (tJ1_indexOfChar_4cfef (l := l) v9 hs_v9 c9 x11 x18 (by first | assumption | omega | (intros; omega) | decide) (by first | assumption | omega | (intros; omega) | decide) (by first | assumption | omega | (intros; omega) | decide)) (va_cwS 4 hts (gS (wr11 _ (List.mem_of_getElem? (i := 16) rfl)) (wr11 _ (List.mem_of_getElem? (i := 17) rfl)) (wr11 _ (List.mem_of_getElem? (i := 9) rfl)) (wr11 _ (List.mem_of_getElem? (i := 18) rfl))) rfl rfl rfl (by decide +kernel) ⟨Nat.le_of_ble_eq_true rfl, Nat.le_of_ble_eq_true rfl⟩) (hK.sub [] rfl) hP hD hE hS hA rfl hl.1 rfl (Nat.le_of_ble_eq_true rfl) dJ1_indexOf_4cfef_33 ⟨Nat.le_of_ble_eq_true rfl, Nat.le_of_ble_eq_true rfl⟩ (fun r33 w9 H locs hw33 hP hD hS => ?_)
      obtain ⟨rfl⟩ := hw33
      have b_r33 := iB r33
      subst hAe
      rw [hQ]
      exact W.iret (v := r33) hx hb hr (fun t ht hW => ⟨⟨r33, _, rfl, rfl, by rw [ht]; exact hP, va_K.moved hW.alike hK, hD⟩, hS.F ht⟩) hS.2.2 dJ1_indexOf_4cfef_36
    · skip
      refine lv_iconst (v := (-1)) hx hb dJ1_indexOf_4cfef_27 (by decide) ?_
      subst hAe
      rw [hQ]
      exact W.iret (v := (-1)) hx hb hr (fun t ht hW => ⟨⟨(-1), _, rfl, rfl, by rw [ht]; exact hP, va_K.moved hW.alike hK, hD⟩, hS.F ht⟩) hS.2.2 dJ1_indexOf_4cfef_28
  · skip
    refine lv_iconst (v := (-1)) hx hb dJ1_indexOf_4cfef_7 (by decide) ?_
    subst hAe
    rw [hQ]
    exact W.iret (v := (-1)) hx hb hr (fun t ht hW => ⟨⟨(-1), _, rfl, rfl, by rw [ht]; exact hP, va_K.moved hW.alike hK, hD⟩, hS.F ht⟩) hS.2.2 dJ1_indexOf_4cfef_8

def rmJ0_indexOf_7cf53 : Room := { frames := 60, cells := 0, slots := 0, locals := 1200 }
set_option maxHeartbeats 4000000 in
set_option maxRecDepth 100000 in
theorem tJ0_indexOf_7cf53 {l : Launch} {D : va_G} {K : Nat → Nat → Nat} (si : Nat) {tx_si : List Int32} (hs_si : sOf si tx_si) (c9 : Int32) (f9 : Int32) : CtI l yJ0_indexOf_7cf53 (wG yJ0_indexOf_7cf53 cJ0_indexOf_7cf53 3 (some .int)) rmJ0_indexOf_7cf53 D [] K [.ref (K 0 si), .int c9, .int f9] [] (fun r w1 => w1 = []) 0 0 := by
  intro sz
  refine Met.ofW (cc := cJ0_indexOf_7cf53) (maxL := 3) (ret := (some .int)) (by decide) rfl ?_
  intro p e s m args below meth c s₁ B hml hv
  obtain ⟨rfl, hsz, hP, hK, hD0, hE⟩ := hv
  have hx := B.exec
  have hb := B.bytes
  have hr := B.returns
  have hts := atoms_spec (ws := (wG yJ0_indexOf_7cf53 cJ0_indexOf_7cf53 3 (some .int))) B.pre
  have hown : s.vm.findClass RJ0 = some m.cls := findClass_of_methodNamed B.named
  have hlocks := B.notSynchronized
  subst hsz
  have hD := hD0.self (sz := s.heap.size)
  obtain ⟨A, hAe⟩ : ∃ A : Nat → Prop, A = va_A [] s.heap.size := ⟨_, rfl⟩
  rw [← hAe] at hD hE
  have hA : ∀ q : Nat, s.heap.size ≤ q → A q := fun q h => by rw [hAe]; exact Or.inr h
  have hS : va_S A s.heap s.heap [] := va_S.rf
  have hl := lv_entry ([.ref (K 0 si), .int c9, .int f9]) (n := 3) (Nat.le_of_ble_eq_true rfl)
  rw [lg_entry_eq]
  generalize (lg_sl ([.ref (K 0 si), .int c9, .int f9]) ++ List.replicate (3 - (lg_sl ([.ref (K 0 si), .int c9, .int f9])).length) Slot.unset).toArray = ls at hl ⊢
  have hl : lv_has ls 3 [(0, .ref (K 0 si)), (1, .int c9), (2, .int f9)] := hl
  refine wq (fun Q hQ => ?_)
  have k_10_16 := hts (.fieldLink RJ0 9 "java/lang/String" "value" "[B") (List.mem_cons_of_mem _ (wr10 _ (List.mem_of_getElem? (i := 16) rfl)))
  obtain ⟨H, hH⟩ : ∃ H : Heap, H = s.heap := ⟨_, rfl⟩
  obtain ⟨locs, hlc⟩ : ∃ L : List Loc, L = [] := ⟨_, rfl⟩
  have hP : va_P D vwCl [] H := by rw [hH]; exact hP
  have hS : va_S A s.heap H locs := by rw [hH, hlc]; exact hS
  refine wHL hH hlc ?_
  have st_si := hE.str hs_si
  have ln_si := sOf_len hs_si
  have b_c9 := iB c9
  have b_f9 := iB f9
  refine lv_aload_n hx hb dJ0_indexOf_7cf53_0 rfl (lv_at hl 0 rfl) ?_
  refine call_iP (As := []) (rest := []) ⟨hx, hb, hml, hown, hts⟩ (tJ0_isLatin1_aae02 (l := l) si hs_si ) (cwV 0 hts (gV (wr10 _ (List.mem_of_getElem? (i := 17) rfl)) (wr10 _ (List.mem_of_getElem? (i := 18) rfl)) (wr10 _ (List.mem_of_getElem? (i := 19) rfl)) (wr10 _ (List.mem_of_getElem? (i := 10) rfl)) (wr10 _ (List.mem_of_getElem? (i := 20) rfl))) rfl rfl rfl (by decide +kernel) ⟨Nat.le_of_ble_eq_true rfl, Nat.le_of_ble_eq_true rfl⟩) (sRecv st_si hS) (hK.sub [] rfl) hP hD hE hS hA rfl hl.1 rfl (Nat.le_of_ble_eq_true rfl) dJ0_indexOf_7cf53_1 ⟨Nat.le_of_ble_eq_true rfl, Nat.le_of_ble_eq_true rfl⟩ (fun r1 w9 H locs hw1 hP hD hS => ?_)
  obtain ⟨rfl, hw1_0⟩ := hw1
  have b_r1 := iB r1
  refine m_if_eq (X := r1.toInt) (tgt := 23) hx hb dJ0_indexOf_7cf53_4 (by decide) rfl (fun c4 => ?_) (fun c4 => ?_)
  · skip
    exfalso
    omega
  · skip
    refine lv_aload_n hx hb dJ0_indexOf_7cf53_7 rfl (lv_at hl 0 rfl) ?_
    refine vk_getf hx hb st_si.2.2.1 hS hown k_10_16 (fun _ h9 => h9) dJ0_indexOf_7cf53_8 ?_
    refine lv_iload_n hx hb dJ0_indexOf_7cf53_11 rfl (lv_at hl 1 rfl) ?_
    refine lv_iload_n hx hb dJ0_indexOf_7cf53_12 rfl (lv_at hl 2 rfl) ?_
    refine lv_aload_n hx hb dJ0_indexOf_7cf53_13 rfl (lv_at hl 0 rfl) ?_
    refine call_iP (As := []) (rest := [.int f9, .int c9, .ref (K 1 si)]) ⟨hx, hb, hml, hown, hts⟩ (tJ0_length_8abf5 (l := l) si hs_si ) (cwV 0 hts (gV (wr10 _ (List.mem_of_getElem? (i := 23) rfl)) (wr11 _ (List.mem_of_getElem? (i := 0) rfl)) (wr11 _ (List.mem_of_getElem? (i := 1) rfl)) (wr10 _ (List.mem_of_getElem? (i := 10) rfl)) (wr11 _ (List.mem_of_getElem? (i := 2) rfl))) rfl rfl rfl (by decide +kernel) ⟨Nat.le_of_ble_eq_true rfl, Nat.le_of_ble_eq_true rfl⟩) (sRecv st_si hS) (hK.sub [] rfl) hP hD hE hS hA rfl hl.1 rfl (Nat.le_of_ble_eq_true rfl) dJ0_indexOf_7cf53_14 ⟨Nat.le_of_ble_eq_true rfl, Nat.le_of_ble_eq_true rfl⟩ (fun r14 w9 H locs hw14 hP hD hS => ?_)
    obtain ⟨rfl, hw14_0⟩ := hw14
    have b_r14 := iB r14
    refine call_iSP (As := [.ref (K 1 si), .int c9, .int f9, .int r14]) (rest := []) ⟨hx, hb, hml, hown, hts⟩ (tJ1_indexOf_4cfef (l := l) si hs_si c9 f9 r14) (va_cwS 4 hts (gS (wr11 _ (List.mem_of_getElem? (i := 7) rfl)) (wr11 _ (List.mem_of_getElem? (i := 8) rfl)) (wr11 _ (List.mem_of_getElem? (i := 9) rfl)) (wr11 _ (List.mem_of_getElem? (i := 10) rfl))) rfl rfl rfl (by decide +kernel) ⟨Nat.le_of_ble_eq_true rfl, Nat.le_of_ble_eq_true rfl⟩) (hK.sub [] rfl) hP hD hE hS hA rfl hl.1 rfl (Nat.le_of_ble_eq_true rfl) dJ0_indexOf_7cf53_17 ⟨Nat.le_of_ble_eq_true rfl, Nat.le_of_ble_eq_true rfl⟩ (fun r17 w9 H locs hw17 hP hD hS => ?_)
    obtain ⟨rfl⟩ := hw17
    have b_r17 := iB r17
    refine lv_goto (tgt := 36) hx hb dJ0_indexOf_7cf53_20 (by decide) ?_
    subst hAe
    rw [hQ]
    exact W.iret (v := r17) hx hb hr (fun t ht hW => ⟨⟨r17, _, rfl, rfl, by rw [ht]; exact hP, va_K.moved hW.alike hK, hD⟩, hS.F ht⟩) hS.2.2 dJ0_indexOf_7cf53_36

def rmJ0_indexOf_0f7a4 : Room := { frames := 80, cells := 0, slots := 0, locals := 1600 }
set_option maxHeartbeats 4000000 in
set_option maxRecDepth 100000 in
theorem tJ0_indexOf_0f7a4 {l : Launch} {D : va_G} {K : Nat → Nat → Nat} (si : Nat) {tx_si : List Int32} (hs_si : sOf si tx_si) (c9 : Int32) : CtI l yJ0_indexOf_0f7a4 (wG yJ0_indexOf_0f7a4 cJ0_indexOf_0f7a4 2 (some .int)) rmJ0_indexOf_0f7a4 D [] K [.ref (K 0 si), .int c9] [] (fun r w1 => w1 = []) 0 0 := by
  intro sz
  refine Met.ofW (cc := cJ0_indexOf_0f7a4) (maxL := 2) (ret := (some .int)) (by decide) rfl ?_
  intro p e s m args below meth c s₁ B hml hv
  obtain ⟨rfl, hsz, hP, hK, hD0, hE⟩ := hv
  have hx := B.exec
  have hb := B.bytes
  have hr := B.returns
  have hts := atoms_spec (ws := (wG yJ0_indexOf_0f7a4 cJ0_indexOf_0f7a4 2 (some .int))) B.pre
  have hown : s.vm.findClass RJ0 = some m.cls := findClass_of_methodNamed B.named
  have hlocks := B.notSynchronized
  subst hsz
  have hD := hD0.self (sz := s.heap.size)
  obtain ⟨A, hAe⟩ : ∃ A : Nat → Prop, A = va_A [] s.heap.size := ⟨_, rfl⟩
  rw [← hAe] at hD hE
  have hA : ∀ q : Nat, s.heap.size ≤ q → A q := fun q h => by rw [hAe]; exact Or.inr h
  have hS : va_S A s.heap s.heap [] := va_S.rf
  have hl := lv_entry ([.ref (K 0 si), .int c9]) (n := 2) (Nat.le_of_ble_eq_true rfl)
  rw [lg_entry_eq]
  generalize (lg_sl ([.ref (K 0 si), .int c9]) ++ List.replicate (2 - (lg_sl ([.ref (K 0 si), .int c9])).length) Slot.unset).toArray = ls at hl ⊢
  have hl : lv_has ls 2 [(0, .ref (K 0 si)), (1, .int c9)] := hl
  refine wq (fun Q hQ => ?_)
  have kc0 : (0 : Int32).toInt = 0 := by decide
  obtain ⟨H, hH⟩ : ∃ H : Heap, H = s.heap := ⟨_, rfl⟩
  obtain ⟨locs, hlc⟩ : ∃ L : List Loc, L = [] := ⟨_, rfl⟩
  have hP : va_P D vwCl [] H := by rw [hH]; exact hP
  have hS : va_S A s.heap H locs := by rw [hH, hlc]; exact hS
  refine wHL hH hlc ?_
  have st_si := hE.str hs_si
  have ln_si := sOf_len hs_si
  have b_c9 := iB c9
  refine lv_aload_n hx hb dJ0_indexOf_0f7a4_0 rfl (lv_at hl 0 rfl) ?_
  refine lv_iload_n hx hb dJ0_indexOf_0f7a4_1 rfl (lv_at hl 1 rfl) ?_
  refine lv_iconst (v := 0) hx hb dJ0_indexOf_0f7a4_2 (by decide) ?_
  refine call_iP (As := [.int c9, .int 0]) (rest := []) ⟨hx, hb, hml, hown, hts⟩ (tJ0_indexOf_7cf53 (l := l) si hs_si c9 (0 : Int32)) (cwV 2 hts (gV (wr10 _ (List.mem_of_getElem? (i := 12) rfl)) (wr10 _ (List.mem_of_getElem? (i := 13) rfl)) (wr10 _ (List.mem_of_getElem? (i := 14) rfl)) (wr10 _ (List.mem_of_getElem? (i := 10) rfl)) (wr10 _ (List.mem_of_getElem? (i := 15) rfl))) rfl rfl rfl (by decide +kernel) ⟨Nat.le_of_ble_eq_true rfl, Nat.le_of_ble_eq_true rfl⟩) (sRecv st_si hS) (hK.sub [] rfl) hP hD hE hS hA rfl hl.1 rfl (Nat.le_of_ble_eq_true rfl) dJ0_indexOf_0f7a4_3 ⟨Nat.le_of_ble_eq_true rfl, Nat.le_of_ble_eq_true rfl⟩ (fun r3 w9 H locs hw3 hP hD hS => ?_)
  obtain ⟨rfl⟩ := hw3
  have b_r3 := iB r3
  subst hAe
  rw [hQ]
  exact W.iret (v := r3) hx hb hr (fun t ht hW => ⟨⟨r3, _, rfl, rfl, by rw [ht]; exact hP, va_K.moved hW.alike hK, hD⟩, hS.F ht⟩) hS.2.2 dJ0_indexOf_0f7a4_6

def rmX0_isClass : Room := { frames := 20, cells := 0, slots := 0, locals := 400 }
set_option maxHeartbeats 4000000 in
set_option maxRecDepth 100000 in
theorem tX0_isClass {l : Launch} {D : va_G} {K : Nat → Nat → Nat} (c9 : Int32) : CtI l yX0_isClass (wG yX0_isClass cX0_isClass 2 (some .boolean)) rmX0_isClass D [] K [.int c9] [] (fun r w1 => w1 = [] ∧ ((r.toInt = 1 ∧ ICp c9.toInt) ∨ (r.toInt = 0 ∧ ¬ ICp c9.toInt))) 0 0 := by
  intro sz
  refine Met.ofW (cc := cX0_isClass) (maxL := 2) (ret := (some .boolean)) (by decide) rfl ?_
  intro p e s m args below meth c s₁ B hml hv
  obtain ⟨rfl, hsz, hP, hK, hD0, hE⟩ := hv
  have hx := B.exec
  have hb := B.bytes
  have hr := B.returns
  have hts := atoms_spec (ws := (wG yX0_isClass cX0_isClass 2 (some .boolean))) B.pre
  have hown : s.vm.findClass RX0 = some m.cls := findClass_of_methodNamed B.named
  have hlocks := B.notSynchronized
  subst hsz
  have hD := hD0.self (sz := s.heap.size)
  obtain ⟨A, hAe⟩ : ∃ A : Nat → Prop, A = va_A [] s.heap.size := ⟨_, rfl⟩
  rw [← hAe] at hD hE
  have hA : ∀ q : Nat, s.heap.size ≤ q → A q := fun q h => by rw [hAe]; exact Or.inr h
  have hS : va_S A s.heap s.heap [] := va_S.rf
  have hl := lv_entry ([.int c9]) (n := 2) (Nat.le_of_ble_eq_true rfl)
  rw [lg_entry_eq]
  generalize (lg_sl ([.int c9]) ++ List.replicate (2 - (lg_sl ([.int c9])).length) Slot.unset).toArray = ls at hl ⊢
  have hl : lv_has ls 2 [(0, .int c9)] := hl
  refine wq (fun Q hQ => ?_)
  have kc0 : (0 : Int32).toInt = 0 := by decide
  have kc1 : (1 : Int32).toInt = 1 := by decide
  have kc2 : (15 : Int32).toInt = 15 := by decide
  have kc3 : (17 : Int32).toInt = 17 := by decide
  have kc4 : (20 : Int32).toInt = 20 := by decide
  have kc5 : (80 : Int32).toInt = 80 := by decide
  obtain ⟨H, hH⟩ : ∃ H : Heap, H = s.heap := ⟨_, rfl⟩
  obtain ⟨locs, hlc⟩ : ∃ L : List Loc, L = [] := ⟨_, rfl⟩
  have hP : va_P D vwCl [] H := by rw [hH]; exact hP
  have hS : va_S A s.heap H locs := by rw [hH, hlc]; exact hS
  refine wHL hH hlc ?_
  have b_c9 := iB c9
  refine lv_iload_n hx hb dX0_isClass_0 rfl (lv_at hl 0 rfl) ?_
  refine m_if_lt (X := c9.toInt) (tgt := 10) hx hb dX0_isClass_1 (by decide) rfl (fun c1 => ?_) (fun c1 => ?_)
  · skip
    refine lv_iconst (v := 0) hx hb dX0_isClass_10 (by decide) ?_
    subst hAe
    rw [hQ]
    exact W.zret (v := 0) hx hb hr (by decide) (fun t ht hW => ⟨⟨0, _, rfl, ⟨rfl, by first | exact Or.inl ⟨by decide, by unfold ICp; omega⟩ | exact Or.inr ⟨by decide, by unfold ICp; omega⟩⟩, by rw [ht]; exact hP, va_K.moved hW.alike hK, hD⟩, hS.F ht⟩) hS.2.2 dX0_isClass_11
  · skip
    refine lv_iload_n hx hb dX0_isClass_4 rfl (lv_at hl 0 rfl) ?_
    refine lv_bipush (v := 80) hx hb dX0_isClass_5 (by decide) ?_
    refine m_icmp_lt (X := c9.toInt) (Y := 80) (tgt := 12) hx hb dX0_isClass_7 (by decide) rfl (by decide) (fun c7 => ?_) (fun c7 => ?_)
    · skip
      refine lv_iload_n hx hb dX0_isClass_12 rfl (lv_at hl 0 rfl) ?_
      refine lv_bipush (v := 20) hx hb dX0_isClass_13 (by decide) ?_
      refine m_irem hx hb dX0_isClass_15 (by decide) (fun x15 e_x15 => ?_)
      have b_x15 := iB x15
      obtain ⟨k_x15, g_x15⟩ := iRemL (x := c9) (y := (20 : Int32)) (z := x15) (Y := 20) (by decide) (by decide) e_x15
      refine lv_istore_n (lv' := [(1, .int x15), (0, .int c9)]) hx hb dX0_isClass_16 rfl hl (by decide) rfl (fun ls hl => ?_)
      refine lv_iload_n hx hb dX0_isClass_17 rfl (lv_at hl 1 rfl) ?_
      refine lv_bipush (v := 20) hx hb dX0_isClass_18 (by decide) ?_
      refine m_icmp_ge (X := c9.toInt) (Y := 20) (tgt := 37) hx hb dX0_isClass_20 (by decide) rfl (by decide) (fun c20 => ?_) (fun c20 => ?_)
      · skip
        refine lv_iload_n hx hb dX0_isClass_37 rfl (lv_at hl 0 rfl) ?_
        refine lv_bipush (v := 17) hx hb dX0_isClass_38 (by decide) ?_
        refine m_icmp_ge (X := x15.toInt) (Y := 17) (tgt := 47) hx hb dX0_isClass_40 (by decide) rfl (by decide) (fun c40 => ?_) (fun c40 => ?_)
        · skip
          refine lv_iconst (v := 0) hx hb dX0_isClass_47 (by decide) ?_
          subst hAe
          rw [hQ]
          exact W.zret (v := 0) hx hb hr (by decide) (fun t ht hW => ⟨⟨0, _, rfl, ⟨rfl, by first | exact Or.inl ⟨by decide, by unfold ICp; omega⟩ | exact Or.inr ⟨by decide, by unfold ICp; omega⟩⟩, by rw [ht]; exact hP, va_K.moved hW.alike hK, hD⟩, hS.F ht⟩) hS.2.2 dX0_isClass_48
        · skip
          refine lv_iconst (v := 1) hx hb dX0_isClass_43 (by decide) ?_
          refine lv_goto (tgt := 48) hx hb dX0_isClass_44 (by decide) ?_
          subst hAe
          rw [hQ]
          exact W.zret (v := 1) hx hb hr (by decide) (fun t ht hW => ⟨⟨1, _, rfl, ⟨rfl, by first | exact Or.inl ⟨by decide, by unfold ICp; omega⟩ | exact Or.inr ⟨by decide, by unfold ICp; omega⟩⟩, by rw [ht]; exact hP, va_K.moved hW.alike hK, hD⟩, hS.F ht⟩) hS.2.2 dX0_isClass_48
      · skip
        refine lv_iload_n hx hb dX0_isClass_23 rfl (lv_at hl 0 rfl) ?_
        refine lv_bipush (v := 15) hx hb dX0_isClass_24 (by decide) ?_
        refine m_icmp_ge (X := x15.toInt) (Y := 15) (tgt := 33) hx hb dX0_isClass_26 (by decide) rfl (by decide) (fun c26 => ?_) (fun c26 => ?_)
        · skip
          refine lv_iconst (v := 0) hx hb dX0_isClass_33 (by decide) ?_
          refine lv_goto (tgt := 48) hx hb dX0_isClass_34 (by decide) ?_
          subst hAe
          rw [hQ]
          exact W.zret (v := 0) hx hb hr (by decide) (fun t ht hW => ⟨⟨0, _, rfl, ⟨rfl, by first | exact Or.inl ⟨by decide, by unfold ICp; omega⟩ | exact Or.inr ⟨by decide, by unfold ICp; omega⟩⟩, by rw [ht]; exact hP, va_K.moved hW.alike hK, hD⟩, hS.F ht⟩) hS.2.2 dX0_isClass_48
        · skip
          refine lv_iconst (v := 1) hx hb dX0_isClass_29 (by decide) ?_
          refine lv_goto (tgt := 48) hx hb dX0_isClass_30 (by decide) ?_
          subst hAe
          rw [hQ]
          exact W.zret (v := 1) hx hb hr (by decide) (fun t ht hW => ⟨⟨1, _, rfl, ⟨rfl, by first | exact Or.inl ⟨by decide, by unfold ICp; omega⟩ | exact Or.inr ⟨by decide, by unfold ICp; omega⟩⟩, by rw [ht]; exact hP, va_K.moved hW.alike hK, hD⟩, hS.F ht⟩) hS.2.2 dX0_isClass_48
    · skip
      refine lv_iconst (v := 0) hx hb dX0_isClass_10 (by decide) ?_
      subst hAe
      rw [hQ]
      exact W.zret (v := 0) hx hb hr (by decide) (fun t ht hW => ⟨⟨0, _, rfl, ⟨rfl, by first | exact Or.inl ⟨by decide, by unfold ICp; omega⟩ | exact Or.inr ⟨by decide, by unfold ICp; omega⟩⟩, by rw [ht]; exact hP, va_K.moved hW.alike hK, hD⟩, hS.F ht⟩) hS.2.2 dX0_isClass_11

def rmX0_isArrays : Room := { frames := 40, cells := 0, slots := 0, locals := 800 }
set_option maxHeartbeats 4000000 in
set_option maxRecDepth 100000 in
theorem tX0_isArrays {l : Launch} {D : va_G} {K : Nat → Nat → Nat} (c9 : Int32) : CtI l yX0_isArrays (wG yX0_isArrays cX0_isArrays 1 (some .boolean)) rmX0_isArrays D [] K [.int c9] [] (fun r w1 => w1 = [] ∧ ((r.toInt = 1 ∧ (20 ≤ c9.toInt ∧ ICp c9.toInt)) ∨ (r.toInt = 0 ∧ ¬ (20 ≤ c9.toInt ∧ ICp c9.toInt)))) 0 0 := by
  intro sz
  refine Met.ofW (cc := cX0_isArrays) (maxL := 1) (ret := (some .boolean)) (by decide) rfl ?_
  intro p e s m args below meth c s₁ B hml hv
  obtain ⟨rfl, hsz, hP, hK, hD0, hE⟩ := hv
  have hx := B.exec
  have hb := B.bytes
  have hr := B.returns
  have hts := atoms_spec (ws := (wG yX0_isArrays cX0_isArrays 1 (some .boolean))) B.pre
  have hown : s.vm.findClass RX0 = some m.cls := findClass_of_methodNamed B.named
  have hlocks := B.notSynchronized
  subst hsz
  have hD := hD0.self (sz := s.heap.size)
  obtain ⟨A, hAe⟩ : ∃ A : Nat → Prop, A = va_A [] s.heap.size := ⟨_, rfl⟩
  rw [← hAe] at hD hE
  have hA : ∀ q : Nat, s.heap.size ≤ q → A q := fun q h => by rw [hAe]; exact Or.inr h
  have hS : va_S A s.heap s.heap [] := va_S.rf
  have hl := lv_entry ([.int c9]) (n := 1) (Nat.le_of_ble_eq_true rfl)
  rw [lg_entry_eq]
  generalize (lg_sl ([.int c9]) ++ List.replicate (1 - (lg_sl ([.int c9])).length) Slot.unset).toArray = ls at hl ⊢
  have hl : lv_has ls 1 [(0, .int c9)] := hl
  refine wq (fun Q hQ => ?_)
  have kc0 : (0 : Int32).toInt = 0 := by decide
  have kc1 : (1 : Int32).toInt = 1 := by decide
  have kc2 : (20 : Int32).toInt = 20 := by decide
  obtain ⟨H, hH⟩ : ∃ H : Heap, H = s.heap := ⟨_, rfl⟩
  obtain ⟨locs, hlc⟩ : ∃ L : List Loc, L = [] := ⟨_, rfl⟩
  have hP : va_P D vwCl [] H := by rw [hH]; exact hP
  have hS : va_S A s.heap H locs := by rw [hH, hlc]; exact hS
  refine wHL hH hlc ?_
  have b_c9 := iB c9
  refine lv_iload_n hx hb dX0_isArrays_0 rfl (lv_at hl 0 rfl) ?_
  refine lv_bipush (v := 20) hx hb dX0_isArrays_1 (by decide) ?_
  refine m_icmp_lt (X := c9.toInt) (Y := 20) (tgt := 17) hx hb dX0_isArrays_3 (by decide) rfl (by decide) (fun c3 => ?_) (fun c3 => ?_)
  · skip
    refine lv_iconst (v := 0) hx hb dX0_isArrays_17 (by decide) ?_
    subst hAe
    rw [hQ]
    exact W.zret (v := 0) hx hb hr (by decide) (fun t ht hW => ⟨⟨0, _, rfl, ⟨rfl, by first | exact Or.inl ⟨by decide, by omega, (hw7_0.resolve_right (fun q => by omega)).2⟩ | exact Or.inr ⟨by decide, fun q => by omega⟩ | exact Or.inr ⟨by decide, fun q => (hw7_0.resolve_left (fun q => by omega)).2 q.2⟩⟩, by rw [ht]; exact hP, va_K.moved hW.alike hK, hD⟩, hS.F ht⟩) hS.2.2 dX0_isArrays_18
  · skip
    refine lv_iload_n hx hb dX0_isArrays_6 rfl (lv_at hl 0 rfl) ?_
    refine call_iSP (As := [.int c9]) (rest := []) ⟨hx, hb, hml, hown, hts⟩ (tX0_isClass (l := l) c9) (va_cwS 1 hts (gS (wr59 _ (List.mem_of_getElem? (i := 3) rfl)) (wr19 _ (List.mem_of_getElem? (i := 4) rfl)) (wr19 _ (List.mem_of_getElem? (i := 5) rfl)) (wr19 _ (List.mem_of_getElem? (i := 6) rfl))) rfl rfl rfl (by decide +kernel) ⟨Nat.le_of_ble_eq_true rfl, Nat.le_of_ble_eq_true rfl⟩) (hK.sub [] rfl) hP hD hE hS hA rfl hl.1 rfl (Nat.le_of_ble_eq_true rfl) dX0_isArrays_7 ⟨Nat.le_of_ble_eq_true rfl, Nat.le_of_ble_eq_true rfl⟩ (fun r7 w9 H locs hw7 hP hD hS => ?_)
    obtain ⟨rfl, hw7_0⟩ := hw7
    have b_r7 := iB r7
    refine m_if_eq (X := r7.toInt) (tgt := 17) hx hb dX0_isArrays_10 (by decide) rfl (fun c10 => ?_) (fun c10 => ?_)
    · skip
      refine lv_iconst (v := 0) hx hb dX0_isArrays_17 (by decide) ?_
      subst hAe
      rw [hQ]
      exact W.zret (v := 0) hx hb hr (by decide) (fun t ht hW => ⟨⟨0, _, rfl, ⟨rfl, by first | exact Or.inl ⟨by decide, by omega, (hw7_0.resolve_right (fun q => by omega)).2⟩ | exact Or.inr ⟨by decide, fun q => by omega⟩ | exact Or.inr ⟨by decide, fun q => (hw7_0.resolve_left (fun q => by omega)).2 q.2⟩⟩, by rw [ht]; exact hP, va_K.moved hW.alike hK, hD⟩, hS.F ht⟩) hS.2.2 dX0_isArrays_18
    · skip
      refine lv_iconst (v := 1) hx hb dX0_isArrays_13 (by decide) ?_
      refine lv_goto (tgt := 18) hx hb dX0_isArrays_14 (by decide) ?_
      subst hAe
      rw [hQ]
      exact W.zret (v := 1) hx hb hr (by decide) (fun t ht hW => ⟨⟨1, _, rfl, ⟨rfl, by first | exact Or.inl ⟨by decide, by omega, (hw7_0.resolve_right (fun q => by omega)).2⟩ | exact Or.inr ⟨by decide, fun q => by omega⟩ | exact Or.inr ⟨by decide, fun q => (hw7_0.resolve_left (fun q => by omega)).2 q.2⟩⟩, by rw [ht]; exact hP, va_K.moved hW.alike hK, hD⟩, hS.F ht⟩) hS.2.2 dX0_isArrays_18

def rmX0_isNumber : Room := { frames := 20, cells := 0, slots := 0, locals := 400 }
set_option maxHeartbeats 4000000 in
set_option maxRecDepth 100000 in
theorem tX0_isNumber {l : Launch} {D : va_G} {K : Nat → Nat → Nat} (c9 : Int32) : CtI l yX0_isNumber (wG yX0_isNumber cX0_isNumber 1 (some .boolean)) rmX0_isNumber D [] K [.int c9] [] (fun r w1 => w1 = [] ∧ ((r.toInt = 1 ∧ (0 ≤ c9.toInt ∧ c9.toInt < 8)) ∨ (r.toInt = 0 ∧ ¬ (0 ≤ c9.toInt ∧ c9.toInt < 8)))) 0 0 := by
  intro sz
  refine Met.ofW (cc := cX0_isNumber) (maxL := 1) (ret := (some .boolean)) (by decide) rfl ?_
  intro p e s m args below meth c s₁ B hml hv
  obtain ⟨rfl, hsz, hP, hK, hD0, hE⟩ := hv
  have hx := B.exec
  have hb := B.bytes
  have hr := B.returns
  have hts := atoms_spec (ws := (wG yX0_isNumber cX0_isNumber 1 (some .boolean))) B.pre
  have hown : s.vm.findClass RX0 = some m.cls := findClass_of_methodNamed B.named
  have hlocks := B.notSynchronized
  subst hsz
  have hD := hD0.self (sz := s.heap.size)
  obtain ⟨A, hAe⟩ : ∃ A : Nat → Prop, A = va_A [] s.heap.size := ⟨_, rfl⟩
  rw [← hAe] at hD hE
  have hA : ∀ q : Nat, s.heap.size ≤ q → A q := fun q h => by rw [hAe]; exact Or.inr h
  have hS : va_S A s.heap s.heap [] := va_S.rf
  have hl := lv_entry ([.int c9]) (n := 1) (Nat.le_of_ble_eq_true rfl)
  rw [lg_entry_eq]
  generalize (lg_sl ([.int c9]) ++ List.replicate (1 - (lg_sl ([.int c9])).length) Slot.unset).toArray = ls at hl ⊢
  have hl : lv_has ls 1 [(0, .int c9)] := hl
  refine wq (fun Q hQ => ?_)
  have kc0 : (0 : Int32).toInt = 0 := by decide
  have kc1 : (1 : Int32).toInt = 1 := by decide
  have kc2 : (8 : Int32).toInt = 8 := by decide
  obtain ⟨H, hH⟩ : ∃ H : Heap, H = s.heap := ⟨_, rfl⟩
  obtain ⟨locs, hlc⟩ : ∃ L : List Loc, L = [] := ⟨_, rfl⟩
  have hP : va_P D vwCl [] H := by rw [hH]; exact hP
  have hS : va_S A s.heap H locs := by rw [hH, hlc]; exact hS
  refine wHL hH hlc ?_
  have b_c9 := iB c9
  refine lv_iload_n hx hb dX0_isNumber_0 rfl (lv_at hl 0 rfl) ?_
  refine m_if_lt (X := c9.toInt) (tgt := 14) hx hb dX0_isNumber_1 (by decide) rfl (fun c1 => ?_) (fun c1 => ?_)
  · skip
    refine lv_iconst (v := 0) hx hb dX0_isNumber_14 (by decide) ?_
    subst hAe
    rw [hQ]
    exact W.zret (v := 0) hx hb hr (by decide) (fun t ht hW => ⟨⟨0, _, rfl, ⟨rfl, by first | exact Or.inl ⟨by decide, by omega⟩ | exact Or.inr ⟨by decide, by omega⟩⟩, by rw [ht]; exact hP, va_K.moved hW.alike hK, hD⟩, hS.F ht⟩) hS.2.2 dX0_isNumber_15
  · skip
    refine lv_iload_n hx hb dX0_isNumber_4 rfl (lv_at hl 0 rfl) ?_
    refine lv_bipush (v := 8) hx hb dX0_isNumber_5 (by decide) ?_
    refine m_icmp_ge (X := c9.toInt) (Y := 8) (tgt := 14) hx hb dX0_isNumber_7 (by decide) rfl (by decide) (fun c7 => ?_) (fun c7 => ?_)
    · skip
      refine lv_iconst (v := 0) hx hb dX0_isNumber_14 (by decide) ?_
      subst hAe
      rw [hQ]
      exact W.zret (v := 0) hx hb hr (by decide) (fun t ht hW => ⟨⟨0, _, rfl, ⟨rfl, by first | exact Or.inl ⟨by decide, by omega⟩ | exact Or.inr ⟨by decide, by omega⟩⟩, by rw [ht]; exact hP, va_K.moved hW.alike hK, hD⟩, hS.F ht⟩) hS.2.2 dX0_isNumber_15
    · skip
      refine lv_iconst (v := 1) hx hb dX0_isNumber_10 (by decide) ?_
      refine lv_goto (tgt := 15) hx hb dX0_isNumber_11 (by decide) ?_
      subst hAe
      rw [hQ]
      exact W.zret (v := 1) hx hb hr (by decide) (fun t ht hW => ⟨⟨1, _, rfl, ⟨rfl, by first | exact Or.inl ⟨by decide, by omega⟩ | exact Or.inr ⟨by decide, by omega⟩⟩, by rw [ht]; exact hP, va_K.moved hW.alike hK, hD⟩, hS.F ht⟩) hS.2.2 dX0_isNumber_15

def rmX0_ofNumbers : Room := { frames := 40, cells := 0, slots := 0, locals := 800 }
set_option maxHeartbeats 4000000 in
set_option maxRecDepth 100000 in
theorem tX0_ofNumbers {l : Launch} {D : va_G} {K : Nat → Nat → Nat} (c9 : Int32) : CtI l yX0_ofNumbers (wG yX0_ofNumbers cX0_ofNumbers 1 (some .boolean)) rmX0_ofNumbers D [] K [.int c9] [] (fun r w1 => w1 = [] ∧ ((r.toInt = 1 ∧ (20 ≤ c9.toInt ∧ c9.toInt < 28)) ∨ (r.toInt = 0 ∧ ¬ (20 ≤ c9.toInt ∧ c9.toInt < 28)))) 0 0 := by
  intro sz
  refine Met.ofW (cc := cX0_ofNumbers) (maxL := 1) (ret := (some .boolean)) (by decide) rfl ?_
  intro p e s m args below meth c s₁ B hml hv
  obtain ⟨rfl, hsz, hP, hK, hD0, hE⟩ := hv
  have hx := B.exec
  have hb := B.bytes
  have hr := B.returns
  have hts := atoms_spec (ws := (wG yX0_ofNumbers cX0_ofNumbers 1 (some .boolean))) B.pre
  have hown : s.vm.findClass RX0 = some m.cls := findClass_of_methodNamed B.named
  have hlocks := B.notSynchronized
  subst hsz
  have hD := hD0.self (sz := s.heap.size)
  obtain ⟨A, hAe⟩ : ∃ A : Nat → Prop, A = va_A [] s.heap.size := ⟨_, rfl⟩
  rw [← hAe] at hD hE
  have hA : ∀ q : Nat, s.heap.size ≤ q → A q := fun q h => by rw [hAe]; exact Or.inr h
  have hS : va_S A s.heap s.heap [] := va_S.rf
  have hl := lv_entry ([.int c9]) (n := 1) (Nat.le_of_ble_eq_true rfl)
  rw [lg_entry_eq]
  generalize (lg_sl ([.int c9]) ++ List.replicate (1 - (lg_sl ([.int c9])).length) Slot.unset).toArray = ls at hl ⊢
  have hl : lv_has ls 1 [(0, .int c9)] := hl
  refine wq (fun Q hQ => ?_)
  have kc0 : (0 : Int32).toInt = 0 := by decide
  have kc1 : (1 : Int32).toInt = 1 := by decide
  have kc2 : (20 : Int32).toInt = 20 := by decide
  obtain ⟨H, hH⟩ : ∃ H : Heap, H = s.heap := ⟨_, rfl⟩
  obtain ⟨locs, hlc⟩ : ∃ L : List Loc, L = [] := ⟨_, rfl⟩
  have hP : va_P D vwCl [] H := by rw [hH]; exact hP
  have hS : va_S A s.heap H locs := by rw [hH, hlc]; exact hS
  refine wHL hH hlc ?_
  have b_c9 := iB c9
  refine lv_iload_n hx hb dX0_ofNumbers_0 rfl (lv_at hl 0 rfl) ?_
  refine lv_bipush (v := 20) hx hb dX0_ofNumbers_1 (by decide) ?_
  refine m_icmp_lt (X := c9.toInt) (Y := 20) (tgt := 20) hx hb dX0_ofNumbers_3 (by decide) rfl (by decide) (fun c3 => ?_) (fun c3 => ?_)
  · skip
    refine lv_iconst (v := 0) hx hb dX0_ofNumbers_20 (by decide) ?_
    subst hAe
    rw [hQ]
    exact W.zret (v := 0) hx hb hr (by decide) (fun t ht hW => ⟨⟨0, _, rfl, ⟨rfl, by first | exact Or.inl ⟨by decide, by omega⟩ | exact Or.inr ⟨by decide, by omega⟩⟩, by rw [ht]; exact hP, va_K.moved hW.alike hK, hD⟩, hS.F ht⟩) hS.2.2 dX0_ofNumbers_21
  · skip
    refine lv_iload_n hx hb dX0_ofNumbers_6 rfl (lv_at hl 0 rfl) ?_
    refine lv_bipush (v := 20) hx hb dX0_ofNumbers_7 (by decide) ?_
    refine m_isub (X := c9.toInt) (Y := 20) hx hb dX0_ofNumbers_9 rfl (by decide) (fun x9 e_x9 g9 => ?_)
    obtain ⟨k_x9, g_x9⟩ := g9
    have b_x9 := iB x9
    try (have q_x9 : x9.toInt = c9.toInt - 20 := (by omega); clear g_x9 k_x9)
    refine call_iSP (As := [.int x9]) (rest := []) ⟨hx, hb, hml, hown, hts⟩ (tX0_isNumber (l := l) x9) (va_cwS 1 hts (gS (wr40 _ (List.mem_of_getElem? (i := 3) rfl)) (wr19 _ (List.mem_of_getElem? (i := 17) rfl)) (wr19 _ (List.mem_of_getElem? (i := 5) rfl)) (wr19 _ (List.mem_of_getElem? (i := 18) rfl))) rfl rfl rfl (by decide +kernel) ⟨Nat.le_of_ble_eq_true rfl, Nat.le_of_ble_eq_true rfl⟩) (hK.sub [] rfl) hP hD hE hS hA rfl hl.1 rfl (Nat.le_of_ble_eq_true rfl) dX0_ofNumbers_10 ⟨Nat.le_of_ble_eq_true rfl, Nat.le_of_ble_eq_true rfl⟩ (fun r10 w9 H locs hw10 hP hD hS => ?_)
    obtain ⟨rfl, hw10_0⟩ := hw10
    have b_r10 := iB r10
    refine m_if_eq (X := r10.toInt) (tgt := 20) hx hb dX0_ofNumbers_13 (by decide) rfl (fun c13 => ?_) (fun c13 => ?_)
    · skip
      refine lv_iconst (v := 0) hx hb dX0_ofNumbers_20 (by decide) ?_
      subst hAe
      rw [hQ]
      exact W.zret (v := 0) hx hb hr (by decide) (fun t ht hW => ⟨⟨0, _, rfl, ⟨rfl, by first | exact Or.inl ⟨by decide, by omega⟩ | exact Or.inr ⟨by decide, by omega⟩⟩, by rw [ht]; exact hP, va_K.moved hW.alike hK, hD⟩, hS.F ht⟩) hS.2.2 dX0_ofNumbers_21
    · skip
      refine lv_iconst (v := 1) hx hb dX0_ofNumbers_16 (by decide) ?_
      refine lv_goto (tgt := 21) hx hb dX0_ofNumbers_17 (by decide) ?_
      subst hAe
      rw [hQ]
      exact W.zret (v := 1) hx hb hr (by decide) (fun t ht hW => ⟨⟨1, _, rfl, ⟨rfl, by first | exact Or.inl ⟨by decide, by omega⟩ | exact Or.inr ⟨by decide, by omega⟩⟩, by rw [ht]; exact hP, va_K.moved hW.alike hK, hD⟩, hS.F ht⟩) hS.2.2 dX0_ofNumbers_21

def rmX0_elementsOf : Room := { frames := 20, cells := 0, slots := 0, locals := 400 }
set_option maxHeartbeats 4000000 in
set_option maxRecDepth 100000 in
theorem tX0_elementsOf {l : Launch} {D : va_G} {K : Nat → Nat → Nat} (c9 : Int32) : CtI l yX0_elementsOf (wG yX0_elementsOf cX0_elementsOf 1 (some .int)) rmX0_elementsOf D [] K [.int c9] [] (fun r w1 => w1 = [] ∧ (-2147483628 ≤ c9.toInt → r.toInt = c9.toInt - 20)) 0 0 := by
  intro sz
  refine Met.ofW (cc := cX0_elementsOf) (maxL := 1) (ret := (some .int)) (by decide) rfl ?_
  intro p e s m args below meth c s₁ B hml hv
  obtain ⟨rfl, hsz, hP, hK, hD0, hE⟩ := hv
  have hx := B.exec
  have hb := B.bytes
  have hr := B.returns
  have hts := atoms_spec (ws := (wG yX0_elementsOf cX0_elementsOf 1 (some .int))) B.pre
  have hown : s.vm.findClass RX0 = some m.cls := findClass_of_methodNamed B.named
  have hlocks := B.notSynchronized
  subst hsz
  have hD := hD0.self (sz := s.heap.size)
  obtain ⟨A, hAe⟩ : ∃ A : Nat → Prop, A = va_A [] s.heap.size := ⟨_, rfl⟩
  rw [← hAe] at hD hE
  have hA : ∀ q : Nat, s.heap.size ≤ q → A q := fun q h => by rw [hAe]; exact Or.inr h
  have hS : va_S A s.heap s.heap [] := va_S.rf
  have hl := lv_entry ([.int c9]) (n := 1) (Nat.le_of_ble_eq_true rfl)
  rw [lg_entry_eq]
  generalize (lg_sl ([.int c9]) ++ List.replicate (1 - (lg_sl ([.int c9])).length) Slot.unset).toArray = ls at hl ⊢
  have hl : lv_has ls 1 [(0, .int c9)] := hl
  refine wq (fun Q hQ => ?_)
  have kc0 : (20 : Int32).toInt = 20 := by decide
  obtain ⟨H, hH⟩ : ∃ H : Heap, H = s.heap := ⟨_, rfl⟩
  obtain ⟨locs, hlc⟩ : ∃ L : List Loc, L = [] := ⟨_, rfl⟩
  have hP : va_P D vwCl [] H := by rw [hH]; exact hP
  have hS : va_S A s.heap H locs := by rw [hH, hlc]; exact hS
  refine wHL hH hlc ?_
  have b_c9 := iB c9
  refine lv_iload_n hx hb dX0_elementsOf_0 rfl (lv_at hl 0 rfl) ?_
  refine lv_bipush (v := 20) hx hb dX0_elementsOf_1 (by decide) ?_
  refine m_isub (X := c9.toInt) (Y := 20) hx hb dX0_elementsOf_3 rfl (by decide) (fun x3 e_x3 g9 => ?_)
  obtain ⟨k_x3, g_x3⟩ := g9
  have b_x3 := iB x3
  try (have q_x3 : x3.toInt = c9.toInt - 20 := (by omega); clear g_x3 k_x3)
  subst hAe
  rw [hQ]
  exact W.iret (v := x3) hx hb hr (fun t ht hW => ⟨⟨x3, _, rfl, ⟨rfl, by first | assumption | omega | (intros; omega) | decide⟩, by rw [ht]; exact hP, va_K.moved hW.alike hK, hD⟩, hS.F ht⟩) hS.2.2 dX0_elementsOf_4

def rmX0_isBelow : Room := { frames := 20, cells := 0, slots := 0, locals := 400 }
set_option maxHeartbeats 4000000 in
set_option maxRecDepth 100000 in
theorem tX0_isBelow {l : Launch} {D : va_G} {K : Nat → Nat → Nat} (a9 : Int32) (b9 : Int32) : CtI l yX0_isBelow (wG yX0_isBelow cX0_isBelow 4 (some .boolean)) rmX0_isBelow D [] K [.int a9, .int b9] [] (fun r w1 => w1 = [] ∧ (r.toInt = 0 ∨ r.toInt = 1) ∧ (0 ≤ a9.toInt → 0 ≤ b9.toInt → ((r.toInt = 1 ∧ BLp a9.toInt b9.toInt) ∨ (r.toInt = 0 ∧ ¬ BLp a9.toInt b9.toInt)))) 0 0 := by
  intro sz
  refine Met.ofW (cc := cX0_isBelow) (maxL := 4) (ret := (some .boolean)) (by decide) rfl ?_
  intro p e s m args below meth c s₁ B hml hv
  obtain ⟨rfl, hsz, hP, hK, hD0, hE⟩ := hv
  have hx := B.exec
  have hb := B.bytes
  have hr := B.returns
  have hts := atoms_spec (ws := (wG yX0_isBelow cX0_isBelow 4 (some .boolean))) B.pre
  have hown : s.vm.findClass RX0 = some m.cls := findClass_of_methodNamed B.named
  have hlocks := B.notSynchronized
  subst hsz
  have hD := hD0.self (sz := s.heap.size)
  obtain ⟨A, hAe⟩ : ∃ A : Nat → Prop, A = va_A [] s.heap.size := ⟨_, rfl⟩
  rw [← hAe] at hD hE
  have hA : ∀ q : Nat, s.heap.size ≤ q → A q := fun q h => by rw [hAe]; exact Or.inr h
  have hS : va_S A s.heap s.heap [] := va_S.rf
  have hl := lv_entry ([.int a9, .int b9]) (n := 4) (Nat.le_of_ble_eq_true rfl)
  rw [lg_entry_eq]
  generalize (lg_sl ([.int a9, .int b9]) ++ List.replicate (4 - (lg_sl ([.int a9, .int b9])).length) Slot.unset).toArray = ls at hl ⊢
  have hl : lv_has ls 4 [(0, .int a9), (1, .int b9)] := hl
  refine wq (fun Q hQ => ?_)
  have kc0 : (0 : Int32).toInt = 0 := by decide
  have kc1 : (1 : Int32).toInt = 1 := by decide
  have kc2 : (8 : Int32).toInt = 8 := by decide
  have kc3 : (20 : Int32).toInt = 20 := by decide
  have k_40_11 := hts (.fieldLink RX0 18 "ArrayTrainer$Classes" "IS" "[I") (List.mem_cons_of_mem _ (wr40 _ (List.mem_of_getElem? (i := 11) rfl)))
  obtain ⟨H, hH⟩ : ∃ H : Heap, H = s.heap := ⟨_, rfl⟩
  obtain ⟨locs, hlc⟩ : ∃ L : List Loc, L = [] := ⟨_, rfl⟩
  have hP : va_P D vwCl [] H := by rw [hH]; exact hP
  have hS : va_S A s.heap H locs := by rw [hH, hlc]; exact hS
  refine wHL hH hlc ?_
  have b_a9 := iB a9
  have b_b9 := iB b9
  refine lv_iload_n hx hb dX0_isBelow_0 rfl (lv_at hl 0 rfl) ?_
  refine lv_iload_n hx hb dX0_isBelow_1 rfl (lv_at hl 1 rfl) ?_
  refine m_icmp_ne (X := a9.toInt) (Y := b9.toInt) (tgt := 7) hx hb dX0_isBelow_2 (by decide) rfl rfl (fun c2 => ?_) (fun c2 => ?_)
  · skip
    refine lv_iload_n hx hb dX0_isBelow_7 rfl (lv_at hl 0 rfl) ?_
    refine m_if_lt (X := a9.toInt) (tgt := 26) hx hb dX0_isBelow_8 (by decide) rfl (fun c8 => ?_) (fun c8 => ?_)
    · skip
      refine lv_iconst (v := 0) hx hb dX0_isBelow_26 (by decide) ?_
      subst hAe
      rw [hQ]
      exact W.zret (v := 0) hx hb hr (by decide) (fun t ht hW => ⟨⟨0, _, rfl, ⟨rfl, by first | assumption | omega | (intros; omega) | decide, by (intro h1 h2; first | exact Or.inl ⟨by decide, Or.inl (by omega)⟩ | exact Or.inl ⟨by decide, BLp.in _ _ (by omega) (by omega) (by omega) (by omega) (by omega) (hbit.mp (by omega))⟩ | exact Or.inr ⟨by decide, BLp.no (by omega) (by omega)⟩ | exact Or.inr ⟨by decide, BLp.big (by omega) (by omega)⟩ | exact Or.inr ⟨by decide, BLp.not (by omega) (by omega) (by omega) (fun q => (show ¬ x67.toInt = 1 by omega) (hbit.mpr q))⟩)⟩, by rw [ht]; exact hP, va_K.moved hW.alike hK, hD⟩, hS.F ht⟩) hS.2.2 dX0_isBelow_27
    · skip
      refine lv_iload_n hx hb dX0_isBelow_11 rfl (lv_at hl 1 rfl) ?_
      refine m_if_lt (X := b9.toInt) (tgt := 26) hx hb dX0_isBelow_12 (by decide) rfl (fun c12 => ?_) (fun c12 => ?_)
      · skip
        refine lv_iconst (v := 0) hx hb dX0_isBelow_26 (by decide) ?_
        subst hAe
        rw [hQ]
        exact W.zret (v := 0) hx hb hr (by decide) (fun t ht hW => ⟨⟨0, _, rfl, ⟨rfl, by first | assumption | omega | (intros; omega) | decide, by (intro h1 h2; first | exact Or.inl ⟨by decide, Or.inl (by omega)⟩ | exact Or.inl ⟨by decide, BLp.in _ _ (by omega) (by omega) (by omega) (by omega) (by omega) (hbit.mp (by omega))⟩ | exact Or.inr ⟨by decide, BLp.no (by omega) (by omega)⟩ | exact Or.inr ⟨by decide, BLp.big (by omega) (by omega)⟩ | exact Or.inr ⟨by decide, BLp.not (by omega) (by omega) (by omega) (fun q => (show ¬ x67.toInt = 1 by omega) (hbit.mpr q))⟩)⟩, by rw [ht]; exact hP, va_K.moved hW.alike hK, hD⟩, hS.F ht⟩) hS.2.2 dX0_isBelow_27
      · skip
        refine lv_iload_n hx hb dX0_isBelow_15 rfl (lv_at hl 0 rfl) ?_
        refine lv_bipush (v := 20) hx hb dX0_isBelow_16 (by decide) ?_
        refine m_idiv hx hb dX0_isBelow_18 (by decide) (fun x18 e_x18 => ?_)
        have b_x18 := iB x18
        obtain ⟨k_x18, g_x18⟩ := iDivL (x := a9) (y := (20 : Int32)) (z := x18) (Y := 20) (by decide) (by decide) e_x18
        refine lv_iload_n hx hb dX0_isBelow_19 rfl (lv_at hl 1 rfl) ?_
        refine lv_bipush (v := 20) hx hb dX0_isBelow_20 (by decide) ?_
        refine m_idiv hx hb dX0_isBelow_22 (by decide) (fun x22 e_x22 => ?_)
        have b_x22 := iB x22
        obtain ⟨k_x22, g_x22⟩ := iDivL (x := b9) (y := (20 : Int32)) (z := x22) (Y := 20) (by decide) (by decide) e_x22
        refine m_icmp_eq (X := x18.toInt) (Y := x22.toInt) (tgt := 28) hx hb dX0_isBelow_23 (by decide) rfl rfl (fun c23 => ?_) (fun c23 => ?_)
        · skip
          refine lv_iload_n hx hb dX0_isBelow_28 rfl (lv_at hl 0 rfl) ?_
          refine lv_bipush (v := 20) hx hb dX0_isBelow_29 (by decide) ?_
          refine m_irem hx hb dX0_isBelow_31 (by decide) (fun x31 e_x31 => ?_)
          have b_x31 := iB x31
          obtain ⟨k_x31, g_x31⟩ := iRemL (x := a9) (y := (20 : Int32)) (z := x31) (Y := 20) (by decide) (by decide) e_x31
          refine lv_bipush (v := 8) hx hb dX0_isBelow_32 (by decide) ?_
          refine m_isub (X := x31.toInt) (Y := 8) hx hb dX0_isBelow_34 rfl (by decide) (fun x34 e_x34 g9 => ?_)
          obtain ⟨k_x34, g_x34⟩ := g9
          have b_x34 := iB x34
          try (have q_x34 : x34.toInt = x31.toInt - 8 := (by omega); clear g_x34 k_x34)
          refine lv_istore_n (lv' := [(2, .int x34), (0, .int a9), (1, .int b9)]) hx hb dX0_isBelow_35 rfl hl (by decide) rfl (fun ls hl => ?_)
          refine lv_iload_n hx hb dX0_isBelow_36 rfl (lv_at hl 2 rfl) ?_
          refine lv_bipush (v := 20) hx hb dX0_isBelow_37 (by decide) ?_
          refine m_irem hx hb dX0_isBelow_39 (by decide) (fun x39 e_x39 => ?_)
          have b_x39 := iB x39
          obtain ⟨k_x39, g_x39⟩ := iRemL (x := b9) (y := (20 : Int32)) (z := x39) (Y := 20) (by decide) (by decide) e_x39
          refine lv_istore_n (lv' := [(3, .int x39), (2, .int x34), (0, .int a9), (1, .int b9)]) hx hb dX0_isBelow_40 rfl hl (by decide) rfl (fun ls hl => ?_)
          refine lv_iload_n hx hb dX0_isBelow_41 rfl (lv_at hl 1 rfl) ?_
          refine m_if_lt (X := x34.toInt) (tgt := 76) hx hb dX0_isBelow_42 (by decide) rfl (fun c42 => ?_) (fun c42 => ?_)
          · skip
            refine lv_iconst (v := 0) hx hb dX0_isBelow_76 (by decide) ?_
            subst hAe
            rw [hQ]
            exact W.zret (v := 0) hx hb hr (by decide) (fun t ht hW => ⟨⟨0, _, rfl, ⟨rfl, by first | assumption | omega | (intros; omega) | decide, by (intro h1 h2; first | exact Or.inl ⟨by decide, Or.inl (by omega)⟩ | exact Or.inl ⟨by decide, BLp.in _ _ (by omega) (by omega) (by omega) (by omega) (by omega) (hbit.mp (by omega))⟩ | exact Or.inr ⟨by decide, BLp.no (by omega) (by omega)⟩ | exact Or.inr ⟨by decide, BLp.big (by omega) (by omega)⟩ | exact Or.inr ⟨by decide, BLp.not (by omega) (by omega) (by omega) (fun q => (show ¬ x67.toInt = 1 by omega) (hbit.mpr q))⟩)⟩, by rw [ht]; exact hP, va_K.moved hW.alike hK, hD⟩, hS.F ht⟩) hS.2.2 dX0_isBelow_77
          · skip
            refine lv_iload_n hx hb dX0_isBelow_45 rfl (lv_at hl 1 rfl) ?_
            refine va_gets hx hb hE.2.2.1.2.1.1 hS hown k_40_11 (fun _ h9 => h9) dX0_isBelow_46 ?_
            refine m_tlen hx hb hE.2.2.1.2.1.2 hS (by decide) dX0_isBelow_49 (fun x49 g_x49 => ?_)
            refine m_icmp_ge (X := x34.toInt) (Y := x49.toInt) (tgt := 76) hx hb dX0_isBelow_50 (by decide) rfl rfl (fun c50 => ?_) (fun c50 => ?_)
            · skip
              refine lv_iconst (v := 0) hx hb dX0_isBelow_76 (by decide) ?_
              subst hAe
              rw [hQ]
              exact W.zret (v := 0) hx hb hr (by decide) (fun t ht hW => ⟨⟨0, _, rfl, ⟨rfl, by first | assumption | omega | (intros; omega) | decide, by (intro h1 h2; first | exact Or.inl ⟨by decide, Or.inl (by omega)⟩ | exact Or.inl ⟨by decide, BLp.in _ _ (by omega) (by omega) (by omega) (by omega) (by omega) (hbit.mp (by omega))⟩ | exact Or.inr ⟨by decide, BLp.no (by omega) (by omega)⟩ | exact Or.inr ⟨by decide, BLp.big (by omega) (by omega)⟩ | exact Or.inr ⟨by decide, BLp.not (by omega) (by omega) (by omega) (fun q => (show ¬ x67.toInt = 1 by omega) (hbit.mpr q))⟩)⟩, by rw [ht]; exact hP, va_K.moved hW.alike hK, hD⟩, hS.F ht⟩) hS.2.2 dX0_isBelow_77
            · skip
              refine lv_iload_n hx hb dX0_isBelow_53 rfl (lv_at hl 0 rfl) ?_
              refine lv_bipush (v := 8) hx hb dX0_isBelow_54 (by decide) ?_
              refine m_icmp_lt (X := x39.toInt) (Y := 8) (tgt := 76) hx hb dX0_isBelow_56 (by decide) rfl (by decide) (fun c56 => ?_) (fun c56 => ?_)
              · skip
                refine lv_iconst (v := 0) hx hb dX0_isBelow_76 (by decide) ?_
                subst hAe
                rw [hQ]
                exact W.zret (v := 0) hx hb hr (by decide) (fun t ht hW => ⟨⟨0, _, rfl, ⟨rfl, by first | assumption | omega | (intros; omega) | decide, by (intro h1 h2; first | exact Or.inl ⟨by decide, Or.inl (by omega)⟩ | exact Or.inl ⟨by decide, BLp.in _ _ (by omega) (by omega) (by omega) (by omega) (by omega) (hbit.mp (by omega))⟩ | exact Or.inr ⟨by decide, BLp.no (by omega) (by omega)⟩ | exact Or.inr ⟨by decide, BLp.big (by omega) (by omega)⟩ | exact Or.inr ⟨by decide, BLp.not (by omega) (by omega) (by omega) (fun q => (show ¬ x67.toInt = 1 by omega) (hbit.mpr q))⟩)⟩, by rw [ht]; exact hP, va_K.moved hW.alike hK, hD⟩, hS.F ht⟩) hS.2.2 dX0_isBelow_77
              · skip
                refine va_gets hx hb hE.2.2.1.2.1.1 hS hown k_40_11 (fun _ h9 => h9) dX0_isBelow_59 ?_
                refine lv_iload_n hx hb dX0_isBelow_62 rfl (lv_at hl 1 rfl) ?_
                refine m_ti (f := fun j => st_IS.getD j 0) hx hb hE.2.2.1.2.1.2 hS (ix (by omega) (by omega)) dX0_isBelow_63 (fun x63 e_x63 => ?_)
                have b_x63 := iB x63
                refine lv_iload_n hx hb dX0_isBelow_64 rfl (lv_at hl 0 rfl) ?_
                refine m_ishr hx hb dX0_isBelow_65 (fun x65 e_x65 => ?_)
                have b_x65 := iB x65
                refine lv_iconst (v := 1) hx hb dX0_isBelow_66 (by decide) ?_
                refine m_iand hx hb dX0_isBelow_67 (fun x67 e_x67 => ?_)
                have b_x67 := iB x67
                have hbit := isBit (by omega) (by omega) (by omega) (by omega) e_x63 e_x65 e_x67
                refine lv_iconst (v := 1) hx hb dX0_isBelow_68 (by decide) ?_
                refine m_icmp_ne (X := x67.toInt) (Y := 1) (tgt := 76) hx hb dX0_isBelow_69 (by decide) rfl (by decide) (fun c69 => ?_) (fun c69 => ?_)
                · skip
                  refine lv_iconst (v := 0) hx hb dX0_isBelow_76 (by decide) ?_
                  subst hAe
                  rw [hQ]
                  exact W.zret (v := 0) hx hb hr (by decide) (fun t ht hW => ⟨⟨0, _, rfl, ⟨rfl, by first | assumption | omega | (intros; omega) | decide, by (intro h1 h2; first | exact Or.inl ⟨by decide, Or.inl (by omega)⟩ | exact Or.inl ⟨by decide, BLp.in _ _ (by omega) (by omega) (by omega) (by omega) (by omega) (hbit.mp (by omega))⟩ | exact Or.inr ⟨by decide, BLp.no (by omega) (by omega)⟩ | exact Or.inr ⟨by decide, BLp.big (by omega) (by omega)⟩ | exact Or.inr ⟨by decide, BLp.not (by omega) (by omega) (by omega) (fun q => (show ¬ x67.toInt = 1 by omega) (hbit.mpr q))⟩)⟩, by rw [ht]; exact hP, va_K.moved hW.alike hK, hD⟩, hS.F ht⟩) hS.2.2 dX0_isBelow_77
                · skip
                  refine lv_iconst (v := 1) hx hb dX0_isBelow_72 (by decide) ?_
                  refine lv_goto (tgt := 77) hx hb dX0_isBelow_73 (by decide) ?_
                  subst hAe
                  rw [hQ]
                  exact W.zret (v := 1) hx hb hr (by decide) (fun t ht hW => ⟨⟨1, _, rfl, ⟨rfl, by first | assumption | omega | (intros; omega) | decide, by (intro h1 h2; first | exact Or.inl ⟨by decide, Or.inl (by omega)⟩ | exact Or.inl ⟨by decide, BLp.in _ _ (by omega) (by omega) (by omega) (by omega) (by omega) (hbit.mp (by omega))⟩ | exact Or.inr ⟨by decide, BLp.no (by omega) (by omega)⟩ | exact Or.inr ⟨by decide, BLp.big (by omega) (by omega)⟩ | exact Or.inr ⟨by decide, BLp.not (by omega) (by omega) (by omega) (fun q => (show ¬ x67.toInt = 1 by omega) (hbit.mpr q))⟩)⟩, by rw [ht]; exact hP, va_K.moved hW.alike hK, hD⟩, hS.F ht⟩) hS.2.2 dX0_isBelow_77
        · skip
          refine lv_iconst (v := 0) hx hb dX0_isBelow_26 (by decide) ?_
          subst hAe
          rw [hQ]
          exact W.zret (v := 0) hx hb hr (by decide) (fun t ht hW => ⟨⟨0, _, rfl, ⟨rfl, by first | assumption | omega | (intros; omega) | decide, by (intro h1 h2; first | exact Or.inl ⟨by decide, Or.inl (by omega)⟩ | exact Or.inl ⟨by decide, BLp.in _ _ (by omega) (by omega) (by omega) (by omega) (by omega) (hbit.mp (by omega))⟩ | exact Or.inr ⟨by decide, BLp.no (by omega) (by omega)⟩ | exact Or.inr ⟨by decide, BLp.big (by omega) (by omega)⟩ | exact Or.inr ⟨by decide, BLp.not (by omega) (by omega) (by omega) (fun q => (show ¬ x67.toInt = 1 by omega) (hbit.mpr q))⟩)⟩, by rw [ht]; exact hP, va_K.moved hW.alike hK, hD⟩, hS.F ht⟩) hS.2.2 dX0_isBelow_27
  · skip
    refine lv_iconst (v := 1) hx hb dX0_isBelow_5 (by decide) ?_
    subst hAe
    rw [hQ]
    exact W.zret (v := 1) hx hb hr (by decide) (fun t ht hW => ⟨⟨1, _, rfl, ⟨rfl, by first | assumption | omega | (intros; omega) | decide, by (intro h1 h2; first | exact Or.inl ⟨by decide, Or.inl (by omega)⟩ | exact Or.inl ⟨by decide, BLp.in _ _ (by omega) (by omega) (by omega) (by omega) (by omega) (hbit.mp (by omega))⟩ | exact Or.inr ⟨by decide, BLp.no (by omega) (by omega)⟩ | exact Or.inr ⟨by decide, BLp.big (by omega) (by omega)⟩ | exact Or.inr ⟨by decide, BLp.not (by omega) (by omega) (by omega) (fun q => (show ¬ x67.toInt = 1 by omega) (hbit.mpr q))⟩)⟩, by rw [ht]; exact hP, va_K.moved hW.alike hK, hD⟩, hS.F ht⟩) hS.2.2 dX0_isBelow_6

def rmX0_widens : Room := { frames := 20, cells := 0, slots := 0, locals := 400 }
set_option maxHeartbeats 4000000 in
set_option maxRecDepth 100000 in
theorem tX0_widens {l : Launch} {D : va_G} {K : Nat → Nat → Nat} (a9 : Int32) (b9 : Int32) : CtI l yX0_widens (wG yX0_widens cX0_widens 3 (some .boolean)) rmX0_widens D [] K [.int a9, .int b9] [] (fun r w1 => w1 = [] ∧ (r.toInt = 0 ∨ r.toInt = 1) ∧ (0 ≤ a9.toInt → a9.toInt < 8 → 0 ≤ b9.toInt → b9.toInt < 8 → ((r.toInt = 1 ∧ WDp a9.toInt b9.toInt) ∨ (r.toInt = 0 ∧ ¬ WDp a9.toInt b9.toInt))) ∧ (a9.toInt < 8 ∨ r.toInt = 0)) 0 0 := by
  intro sz
  refine Met.ofW (cc := cX0_widens) (maxL := 3) (ret := (some .boolean)) (by decide) rfl ?_
  intro p e s m args below meth c s₁ B hml hv
  obtain ⟨rfl, hsz, hP, hK, hD0, hE⟩ := hv
  have hx := B.exec
  have hb := B.bytes
  have hr := B.returns
  have hts := atoms_spec (ws := (wG yX0_widens cX0_widens 3 (some .boolean))) B.pre
  have hown : s.vm.findClass RX0 = some m.cls := findClass_of_methodNamed B.named
  have hlocks := B.notSynchronized
  subst hsz
  have hD := hD0.self (sz := s.heap.size)
  obtain ⟨A, hAe⟩ : ∃ A : Nat → Prop, A = va_A [] s.heap.size := ⟨_, rfl⟩
  rw [← hAe] at hD hE
  have hA : ∀ q : Nat, s.heap.size ≤ q → A q := fun q h => by rw [hAe]; exact Or.inr h
  have hS : va_S A s.heap s.heap [] := va_S.rf
  have hl := lv_entry ([.int a9, .int b9]) (n := 3) (Nat.le_of_ble_eq_true rfl)
  rw [lg_entry_eq]
  generalize (lg_sl ([.int a9, .int b9]) ++ List.replicate (3 - (lg_sl ([.int a9, .int b9])).length) Slot.unset).toArray = ls at hl ⊢
  have hl : lv_has ls 3 [(0, .int a9), (1, .int b9)] := hl
  refine wq (fun Q hQ => ?_)
  have kc0 : (0 : Int32).toInt = 0 := by decide
  have kc1 : (1 : Int32).toInt = 1 := by decide
  have k_40_7 := hts (.fieldLink RX0 22 "ArrayTrainer$Classes" "WIDENS" "[I") (List.mem_cons_of_mem _ (wr40 _ (List.mem_of_getElem? (i := 7) rfl)))
  obtain ⟨H, hH⟩ : ∃ H : Heap, H = s.heap := ⟨_, rfl⟩
  obtain ⟨locs, hlc⟩ : ∃ L : List Loc, L = [] := ⟨_, rfl⟩
  have hP : va_P D vwCl [] H := by rw [hH]; exact hP
  have hS : va_S A s.heap H locs := by rw [hH, hlc]; exact hS
  refine wHL hH hlc ?_
  have b_a9 := iB a9
  have b_b9 := iB b9
  refine lv_iload_n hx hb dX0_widens_0 rfl (lv_at hl 0 rfl) ?_
  have J29 : ∀ (s0_29 : Int32) (H : Heap) (locs : List Loc) (ls : Array Slot), (s0_29.toInt = 0 ∨ s0_29.toInt = 1) → ((s0_29.toInt = 1 ∧ 0 ≤ a9.toInt ∧ a9.toInt < 8 ∧ 0 ≤ b9.toInt ∧ b9.toInt < 8) ∨ (s0_29.toInt = 0 ∧ ¬ (0 ≤ a9.toInt ∧ a9.toInt < 8 ∧ 0 ≤ b9.toInt ∧ b9.toInt < 8))) → va_P D vwCl [] H → va_D A [] → va_S A s.heap H locs → lv_has ls 3 [(0, .int a9), (1, .int b9)] → W p l e (headSpec (wG yX0_widens cX0_widens 3 (some .boolean)) rmX0_widens).room s m ([.int a9, .int b9] : List Value).toArray below meth c H locs 0 0 Q (F0 m 29 ls [.int s0_29]) := by
    intro s0_29 H locs ls f29_0 f29_1 hP hD hS hl
    refine lv_istore_n (lv' := [(2, .int s0_29), (0, .int a9), (1, .int b9)]) hx hb dX0_widens_29 rfl hl (by decide) rfl (fun ls hl => ?_)
    refine lv_iload_n hx hb dX0_widens_30 rfl (lv_at hl 0 rfl) ?_
    refine m_if_eq (X := s0_29.toInt) (tgt := 51) hx hb dX0_widens_31 (by decide) rfl (fun c31 => ?_) (fun c31 => ?_)
    · skip
      refine lv_iconst (v := 0) hx hb dX0_widens_51 (by decide) ?_
      subst hAe
      rw [hQ]
      exact W.zret (v := 0) hx hb hr (by decide) (fun t ht hW => ⟨⟨0, _, rfl, ⟨rfl, by first | assumption | omega | (intros; omega) | decide, by (intro h1 h2 h3 h4; first | exact Or.inl ⟨by decide, hbit.mp (by omega)⟩ | exact Or.inr ⟨by decide, fun q => (show ¬ x42.toInt = 1 by omega) (hbit.mpr q)⟩ | (exfalso; omega)), by first | exact Or.inr (by decide) | exact Or.inl (by omega)⟩, by rw [ht]; exact hP, va_K.moved hW.alike hK, hD⟩, hS.F ht⟩) hS.2.2 dX0_widens_52
    · skip
      refine va_gets hx hb hE.2.2.1.1.1 hS hown k_40_7 (fun _ h9 => h9) dX0_widens_34 ?_
      refine lv_iload_n hx hb dX0_widens_37 rfl (lv_at hl 1 rfl) ?_
      refine m_ti (f := fun j => st_WIDENS.getD j 0) hx hb hE.2.2.1.1.2 hS (ix (by omega) (by omega)) dX0_widens_38 (fun x38 e_x38 => ?_)
      have b_x38 := iB x38
      refine lv_iload_n hx hb dX0_widens_39 rfl (lv_at hl 2 rfl) ?_
      refine m_ishr hx hb dX0_widens_40 (fun x40 e_x40 => ?_)
      have b_x40 := iB x40
      refine lv_iconst (v := 1) hx hb dX0_widens_41 (by decide) ?_
      refine m_iand hx hb dX0_widens_42 (fun x42 e_x42 => ?_)
      have b_x42 := iB x42
      have hbit := wdBit (by omega) (by omega) (by omega) (by omega) e_x38 e_x40 e_x42
      refine lv_iconst (v := 1) hx hb dX0_widens_43 (by decide) ?_
      refine m_icmp_ne (X := x42.toInt) (Y := 1) (tgt := 51) hx hb dX0_widens_44 (by decide) rfl (by decide) (fun c44 => ?_) (fun c44 => ?_)
      · skip
        refine lv_iconst (v := 0) hx hb dX0_widens_51 (by decide) ?_
        subst hAe
        rw [hQ]
        exact W.zret (v := 0) hx hb hr (by decide) (fun t ht hW => ⟨⟨0, _, rfl, ⟨rfl, by first | assumption | omega | (intros; omega) | decide, by (intro h1 h2 h3 h4; first | exact Or.inl ⟨by decide, hbit.mp (by omega)⟩ | exact Or.inr ⟨by decide, fun q => (show ¬ x42.toInt = 1 by omega) (hbit.mpr q)⟩ | (exfalso; omega)), by first | exact Or.inr (by decide) | exact Or.inl (by omega)⟩, by rw [ht]; exact hP, va_K.moved hW.alike hK, hD⟩, hS.F ht⟩) hS.2.2 dX0_widens_52
      · skip
        refine lv_iconst (v := 1) hx hb dX0_widens_47 (by decide) ?_
        refine lv_goto (tgt := 52) hx hb dX0_widens_48 (by decide) ?_
        subst hAe
        rw [hQ]
        exact W.zret (v := 1) hx hb hr (by decide) (fun t ht hW => ⟨⟨1, _, rfl, ⟨rfl, by first | assumption | omega | (intros; omega) | decide, by (intro h1 h2 h3 h4; first | exact Or.inl ⟨by decide, hbit.mp (by omega)⟩ | exact Or.inr ⟨by decide, fun q => (show ¬ x42.toInt = 1 by omega) (hbit.mpr q)⟩ | (exfalso; omega)), by first | exact Or.inr (by decide) | exact Or.inl (by omega)⟩, by rw [ht]; exact hP, va_K.moved hW.alike hK, hD⟩, hS.F ht⟩) hS.2.2 dX0_widens_52
  refine m_if_lt (X := a9.toInt) (tgt := 28) hx hb dX0_widens_1 (by decide) rfl (fun c1 => ?_) (fun c1 => ?_)
  · skip
    refine lv_iconst (v := 0) hx hb dX0_widens_28 (by decide) ?_
    exact J29 (0 : Int32) H locs ls (by first | decide | omega) (by first | exact Or.inl ⟨by decide, by omega, by omega, by omega, by omega⟩ | exact Or.inr ⟨by decide, by omega⟩) hP hD hS (lv_sub hl [0, 1] rfl)
  · skip
    refine lv_iload_n hx hb dX0_widens_4 rfl (lv_at hl 0 rfl) ?_
    refine va_gets hx hb hE.2.2.1.1.1 hS hown k_40_7 (fun _ h9 => h9) dX0_widens_5 ?_
    refine m_tlen hx hb hE.2.2.1.1.2 hS (by decide) dX0_widens_8 (fun x8 g_x8 => ?_)
    refine m_icmp_ge (X := a9.toInt) (Y := x8.toInt) (tgt := 28) hx hb dX0_widens_9 (by decide) rfl rfl (fun c9 => ?_) (fun c9 => ?_)
    · skip
      refine lv_iconst (v := 0) hx hb dX0_widens_28 (by decide) ?_
      exact J29 (0 : Int32) H locs ls (by first | decide | omega) (by first | exact Or.inl ⟨by decide, by omega, by omega, by omega, by omega⟩ | exact Or.inr ⟨by decide, by omega⟩) hP hD hS (lv_sub hl [0, 1] rfl)
    · skip
      refine lv_iload_n hx hb dX0_widens_12 rfl (lv_at hl 1 rfl) ?_
      refine m_if_lt (X := b9.toInt) (tgt := 28) hx hb dX0_widens_13 (by decide) rfl (fun c13 => ?_) (fun c13 => ?_)
      · skip
        refine lv_iconst (v := 0) hx hb dX0_widens_28 (by decide) ?_
        exact J29 (0 : Int32) H locs ls (by first | decide | omega) (by first | exact Or.inl ⟨by decide, by omega, by omega, by omega, by omega⟩ | exact Or.inr ⟨by decide, by omega⟩) hP hD hS (lv_sub hl [0, 1] rfl)
      · skip
        refine lv_iload_n hx hb dX0_widens_16 rfl (lv_at hl 1 rfl) ?_
        refine va_gets hx hb hE.2.2.1.1.1 hS hown k_40_7 (fun _ h9 => h9) dX0_widens_17 ?_
        refine m_tlen hx hb hE.2.2.1.1.2 hS (by decide) dX0_widens_20 (fun x20 g_x20 => ?_)
        refine m_icmp_ge (X := b9.toInt) (Y := x20.toInt) (tgt := 28) hx hb dX0_widens_21 (by decide) rfl rfl (fun c21 => ?_) (fun c21 => ?_)
        · skip
          refine lv_iconst (v := 0) hx hb dX0_widens_28 (by decide) ?_
          exact J29 (0 : Int32) H locs ls (by first | decide | omega) (by first | exact Or.inl ⟨by decide, by omega, by omega, by omega, by omega⟩ | exact Or.inr ⟨by decide, by omega⟩) hP hD hS (lv_sub hl [0, 1] rfl)
        · skip
          refine lv_iconst (v := 1) hx hb dX0_widens_24 (by decide) ?_
          refine lv_goto (tgt := 29) hx hb dX0_widens_25 (by decide) ?_
          exact J29 (1 : Int32) H locs ls (by first | decide | omega) (by first | exact Or.inl ⟨by decide, by omega, by omega, by omega, by omega⟩ | exact Or.inr ⟨by decide, by omega⟩) hP hD hS (lv_sub hl [0, 1] rfl)

def rmX0_widened : Room := { frames := 20, cells := 0, slots := 0, locals := 400 }
set_option maxHeartbeats 4000000 in
set_option maxRecDepth 100000 in
theorem tX0_widened {l : Launch} {D : va_G} {K : Nat → Nat → Nat} (n9 : Int64) (t9 : Int32) : CtJ l yX0_widened (wG yX0_widened cX0_widened 3 (some .long)) rmX0_widened D [] K [.long n9, .int t9] [] (fun r w1 => w1 = []) 0 0 := by
  intro sz
  refine Met.ofW (cc := cX0_widened) (maxL := 3) (ret := (some .long)) (by decide) rfl ?_
  intro p e s m args below meth c s₁ B hml hv
  obtain ⟨rfl, hsz, hP, hK, hD0, hE⟩ := hv
  have hx := B.exec
  have hb := B.bytes
  have hr := B.returns
  have hts := atoms_spec (ws := (wG yX0_widened cX0_widened 3 (some .long))) B.pre
  have hown : s.vm.findClass RX0 = some m.cls := findClass_of_methodNamed B.named
  have hlocks := B.notSynchronized
  subst hsz
  have hD := hD0.self (sz := s.heap.size)
  obtain ⟨A, hAe⟩ : ∃ A : Nat → Prop, A = va_A [] s.heap.size := ⟨_, rfl⟩
  rw [← hAe] at hD hE
  have hA : ∀ q : Nat, s.heap.size ≤ q → A q := fun q h => by rw [hAe]; exact Or.inr h
  have hS : va_S A s.heap s.heap [] := va_S.rf
  have hl := lv_entry ([.long n9, .int t9]) (n := 3) (Nat.le_of_ble_eq_true rfl)
  rw [lg_entry_eq]
  generalize (lg_sl ([.long n9, .int t9]) ++ List.replicate (3 - (lg_sl ([.long n9, .int t9])).length) Slot.unset).toArray = ls at hl ⊢
  have hl : lv_has ls 3 [(0, .long n9), (2, .int t9)] := hl
  refine wq (fun Q hQ => ?_)
  have kc0 : (6 : Int32).toInt = 6 := by decide
  have kc1 : (7 : Int32).toInt = 7 := by decide
  obtain ⟨H, hH⟩ : ∃ H : Heap, H = s.heap := ⟨_, rfl⟩
  obtain ⟨locs, hlc⟩ : ∃ L : List Loc, L = [] := ⟨_, rfl⟩
  have hP : va_P D vwCl [] H := by rw [hH]; exact hP
  have hS : va_S A s.heap H locs := by rw [hH, hlc]; exact hS
  refine wHL hH hlc ?_
  have b_n9 := jB n9
  have b_t9 := iB t9
  refine lv_iload_n hx hb dX0_widened_0 rfl (lv_at hl 1 rfl) ?_
  refine lv_bipush (v := 6) hx hb dX0_widened_1 (by decide) ?_
  refine m_icmp_ne (X := t9.toInt) (Y := 6) (tgt := 10) hx hb dX0_widened_3 (by decide) rfl (by decide) (fun c3 => ?_) (fun c3 => ?_)
  · skip
    refine lv_iload_n hx hb dX0_widened_10 rfl (lv_at hl 1 rfl) ?_
    refine lv_bipush (v := 7) hx hb dX0_widened_11 (by decide) ?_
    refine m_icmp_ne (X := t9.toInt) (Y := 7) (tgt := 22) hx hb dX0_widened_13 (by decide) rfl (by decide) (fun c13 => ?_) (fun c13 => ?_)
    · skip
      refine lv_lload_n hx hb dX0_widened_22 rfl (lv_at hl 0 rfl) ?_
      subst hAe
      rw [hQ]
      exact W.lret (v := n9) hx hb hr (fun t ht hW => ⟨⟨n9, _, rfl, rfl, by rw [ht]; exact hP, va_K.moved hW.alike hK, hD⟩, hS.F ht⟩) hS.2.2 dX0_widened_23
    · skip
      refine lv_lload_n hx hb dX0_widened_16 rfl (lv_at hl 0 rfl) ?_
      refine lv_l2d hx hb dX0_widened_17 ?_
      refine lv_topd (fun x17 e_x17 => ?_)
      refine lv_d2l hx hb dX0_widened_18 ?_
      refine lv_topl (fun x18 e_x18 => ?_)
      refine lv_goto (tgt := 23) hx hb dX0_widened_19 (by decide) ?_
      subst hAe
      rw [hQ]
      exact W.lret (v := x18) hx hb hr (fun t ht hW => ⟨⟨x18, _, rfl, rfl, by rw [ht]; exact hP, va_K.moved hW.alike hK, hD⟩, hS.F ht⟩) hS.2.2 dX0_widened_23
  · skip
    refine lv_lload_n hx hb dX0_widened_6 rfl (lv_at hl 0 rfl) ?_
    refine lv_l2f hx hb dX0_widened_7 ?_
    refine lv_topf (fun x7 e_x7 => ?_)
    refine lv_f2l hx hb dX0_widened_8 ?_
    refine lv_topl (fun x8 e_x8 => ?_)
    subst hAe
    rw [hQ]
    exact W.lret (v := x8) hx hb hr (fun t ht hW => ⟨⟨x8, _, rfl, rfl, by rw [ht]; exact hP, va_K.moved hW.alike hK, hD⟩, hS.F ht⟩) hS.2.2 dX0_widened_9

def rmX0_has : Room := { frames := 20, cells := 0, slots := 0, locals := 400 }
set_option maxHeartbeats 4000000 in
set_option maxRecDepth 100000 in
theorem tX0_has {l : Launch} {D : va_G} {K : Nat → Nat → Nat} (k9 : Int32) (m9 : Int64) (n9 : Int32) : CtI l yX0_has (wG yX0_has cX0_has 6 (some .boolean)) rmX0_has D [] K [.int k9, .long m9, .int n9] [] (fun r w1 => w1 = []) 0 0 := by
  intro sz
  refine Met.ofW (cc := cX0_has) (maxL := 6) (ret := (some .boolean)) (by decide) rfl ?_
  intro p e s m args below meth c s₁ B hml hv
  obtain ⟨rfl, hsz, hP, hK, hD0, hE⟩ := hv
  have hx := B.exec
  have hb := B.bytes
  have hr := B.returns
  have hts := atoms_spec (ws := (wG yX0_has cX0_has 6 (some .boolean))) B.pre
  have hown : s.vm.findClass RX0 = some m.cls := findClass_of_methodNamed B.named
  have hlocks := B.notSynchronized
  subst hsz
  have hD := hD0.self (sz := s.heap.size)
  obtain ⟨A, hAe⟩ : ∃ A : Nat → Prop, A = va_A [] s.heap.size := ⟨_, rfl⟩
  rw [← hAe] at hD hE
  have hA : ∀ q : Nat, s.heap.size ≤ q → A q := fun q h => by rw [hAe]; exact Or.inr h
  have hS : va_S A s.heap s.heap [] := va_S.rf
  have hl := lv_entry ([.int k9, .long m9, .int n9]) (n := 6) (Nat.le_of_ble_eq_true rfl)
  rw [lg_entry_eq]
  generalize (lg_sl ([.int k9, .long m9, .int n9]) ++ List.replicate (6 - (lg_sl ([.int k9, .long m9, .int n9])).length) Slot.unset).toArray = ls at hl ⊢
  have hl : lv_has ls 6 [(0, .int k9), (1, .long m9), (3, .int n9)] := hl
  refine wq (fun Q hQ => ?_)
  have kc0 : (0 : Int32).toInt = 0 := by decide
  have kc1 : (1 : Int32).toInt = 1 := by decide
  have kc2 : (5 : Int32).toInt = 5 := by decide
  have kc3 : (-9223372036854775808 : Int64).toInt = -9223372036854775808 := by decide
  have kc4 : (0 : Int64).toInt = 0 := by decide
  have k_20_15 := hts (.fieldLink RX0 25 "ArrayTrainer$Classes" "LEAST" "[J") (List.mem_cons_of_mem _ (wr20 _ (List.mem_of_getElem? (i := 15) rfl)))
  have k_20_17 := hts (.fieldLink RX0 31 "ArrayTrainer$Classes" "GREATEST" "[J") (List.mem_cons_of_mem _ (wr20 _ (List.mem_of_getElem? (i := 17) rfl)))
  have k_20_16 := hts (.constantLong RX0 29 (-9223372036854775808)) (List.mem_cons_of_mem _ (wr20 _ (List.mem_of_getElem? (i := 16) rfl)))
  obtain ⟨H, hH⟩ : ∃ H : Heap, H = s.heap := ⟨_, rfl⟩
  obtain ⟨locs, hlc⟩ : ∃ L : List Loc, L = [] := ⟨_, rfl⟩
  have hP : va_P D vwCl [] H := by rw [hH]; exact hP
  have hS : va_S A s.heap H locs := by rw [hH, hlc]; exact hS
  refine wHL hH hlc ?_
  have b_k9 := iB k9
  have b_m9 := jB m9
  have b_n9 := iB n9
  refine lv_iload_n hx hb dX0_has_0 rfl (lv_at hl 0 rfl) ?_
  refine m_if_lt (X := k9.toInt) (tgt := 12) hx hb dX0_has_1 (by decide) rfl (fun c1 => ?_) (fun c1 => ?_)
  · skip
    refine lv_iconst (v := 0) hx hb dX0_has_12 (by decide) ?_
    subst hAe
    rw [hQ]
    exact W.zret (v := 0) hx hb hr (by decide) (fun t ht hW => ⟨⟨0, _, rfl, rfl, by rw [ht]; exact hP, va_K.moved hW.alike hK, hD⟩, hS.F ht⟩) hS.2.2 dX0_has_13
  · skip
    refine lv_iload_n hx hb dX0_has_4 rfl (lv_at hl 0 rfl) ?_
    refine va_gets hx hb hE.2.2.1.2.2.1.1 hS hown k_20_15 (fun _ h9 => h9) dX0_has_5 ?_
    refine m_tlen hx hb hE.2.2.1.2.2.1.2 hS (by decide) dX0_has_8 (fun x8 g_x8 => ?_)
    refine m_icmp_lt (X := k9.toInt) (Y := x8.toInt) (tgt := 14) hx hb dX0_has_9 (by decide) rfl rfl (fun c9 => ?_) (fun c9 => ?_)
    · skip
      refine lv_lload_n hx hb dX0_has_14 rfl (lv_at hl 1 rfl) ?_
      refine lv_lconst (v := 0) hx hb dX0_has_15 (by decide) ?_
      refine m_lcmp (X := m9.toInt) (Y := 0) hx hb dX0_has_16 rfl (by decide) (fun x16 g_x16 => ?_)
      refine m_if_ge (X := x16.toInt) (tgt := 43) hx hb dX0_has_17 (by decide) rfl (fun c17 => ?_) (fun c17 => ?_)
      · skip
        refine lv_iload_n hx hb dX0_has_43 rfl (lv_at hl 2 rfl) ?_
        have J53 : ∀ (s0_53 : Int64) (H : Heap) (locs : List Loc) (ls : Array Slot), va_P D vwCl [] H → va_D A [] → va_S A s.heap H locs → lv_has ls 6 [(0, .int k9)] → W p l e (headSpec (wG yX0_has cX0_has 6 (some .boolean)) rmX0_has).room s m ([.int k9, .long m9, .int n9] : List Value).toArray below meth c H locs 0 0 Q (F0 m 53 ls [.long s0_53]) := by
          intro s0_53 H locs ls hP hD hS hl
          refine lv_lstore (lv' := [(4, .long s0_53), (0, .int k9)]) hx hb dX0_has_53 hl (by decide) rfl (fun ls hl => ?_)
          refine lv_lload hx hb dX0_has_55 (lv_at hl 0 rfl) ?_
          refine va_gets hx hb hE.2.2.1.2.2.1.1 hS hown k_20_15 (fun _ h9 => h9) dX0_has_57 ?_
          refine lv_iload_n hx hb dX0_has_60 rfl (lv_at hl 1 rfl) ?_
          refine m_tl (f := fun j => st_LEAST.getD j 0) hx hb hE.2.2.1.2.2.1.2 hS (ix (by omega) (by omega)) dX0_has_61 (fun x61 e_x61 => ?_)
          have b_x61 := jB x61
          refine m_lcmp (X := s0_53.toInt) (Y := x61.toInt) hx hb dX0_has_62 rfl rfl (fun x62 g_x62 => ?_)
          refine m_if_lt (X := x62.toInt) (tgt := 81) hx hb dX0_has_63 (by decide) rfl (fun c63 => ?_) (fun c63 => ?_)
          · skip
            refine lv_iconst (v := 0) hx hb dX0_has_81 (by decide) ?_
            subst hAe
            rw [hQ]
            exact W.zret (v := 0) hx hb hr (by decide) (fun t ht hW => ⟨⟨0, _, rfl, rfl, by rw [ht]; exact hP, va_K.moved hW.alike hK, hD⟩, hS.F ht⟩) hS.2.2 dX0_has_82
          · skip
            refine lv_lload hx hb dX0_has_66 (lv_at hl 0 rfl) ?_
            refine va_gets hx hb hE.2.2.1.2.2.2.1 hS hown k_20_17 (fun _ h9 => h9) dX0_has_68 ?_
            refine lv_iload_n hx hb dX0_has_71 rfl (lv_at hl 1 rfl) ?_
            refine m_tl (f := fun j => st_GREATEST.getD j 0) hx hb hE.2.2.1.2.2.2.2 hS (ix (by omega) (by omega)) dX0_has_72 (fun x72 e_x72 => ?_)
            have b_x72 := jB x72
            refine m_lcmp (X := s0_53.toInt) (Y := x72.toInt) hx hb dX0_has_73 rfl rfl (fun x73 g_x73 => ?_)
            refine m_if_gt (X := x73.toInt) (tgt := 81) hx hb dX0_has_74 (by decide) rfl (fun c74 => ?_) (fun c74 => ?_)
            · skip
              refine lv_iconst (v := 0) hx hb dX0_has_81 (by decide) ?_
              subst hAe
              rw [hQ]
              exact W.zret (v := 0) hx hb hr (by decide) (fun t ht hW => ⟨⟨0, _, rfl, rfl, by rw [ht]; exact hP, va_K.moved hW.alike hK, hD⟩, hS.F ht⟩) hS.2.2 dX0_has_82
            · skip
              refine lv_iconst (v := 1) hx hb dX0_has_77 (by decide) ?_
              refine lv_goto (tgt := 82) hx hb dX0_has_78 (by decide) ?_
              subst hAe
              rw [hQ]
              exact W.zret (v := 1) hx hb hr (by decide) (fun t ht hW => ⟨⟨1, _, rfl, rfl, by rw [ht]; exact hP, va_K.moved hW.alike hK, hD⟩, hS.F ht⟩) hS.2.2 dX0_has_82
        refine m_if_eq (X := n9.toInt) (tgt := 52) hx hb dX0_has_44 (by decide) rfl (fun c44 => ?_) (fun c44 => ?_)
        · skip
          refine lv_lload_n hx hb dX0_has_52 rfl (lv_at hl 1 rfl) ?_
          exact J53 m9 H locs ls hP hD hS (lv_sub hl [0] rfl)
        · skip
          refine lv_lload_n hx hb dX0_has_47 rfl (lv_at hl 1 rfl) ?_
          refine m_lneg (X := m9.toInt) hx hb dX0_has_48 rfl (fun x48 e_x48 g9 => ?_)
          obtain ⟨k_x48, g_x48⟩ := g9
          have b_x48 := jB x48
          try (have q_x48 : x48.toInt = -m9.toInt := (by omega); clear g_x48 k_x48)
          refine lv_goto (tgt := 53) hx hb dX0_has_49 (by decide) ?_
          exact J53 x48 H locs ls hP hD hS (lv_sub hl [0] rfl)
      · skip
        refine lv_iload_n hx hb dX0_has_20 rfl (lv_at hl 2 rfl) ?_
        refine m_if_eq (X := n9.toInt) (tgt := 41) hx hb dX0_has_21 (by decide) rfl (fun c21 => ?_) (fun c21 => ?_)
        · skip
          refine lv_iconst (v := 0) hx hb dX0_has_41 (by decide) ?_
          subst hAe
          rw [hQ]
          exact W.zret (v := 0) hx hb hr (by decide) (fun t ht hW => ⟨⟨0, _, rfl, rfl, by rw [ht]; exact hP, va_K.moved hW.alike hK, hD⟩, hS.F ht⟩) hS.2.2 dX0_has_42
        · skip
          refine lv_lload_n hx hb dX0_has_24 rfl (lv_at hl 1 rfl) ?_
          refine lv_ldc2 (v := (-9223372036854775808)) hx hb hown k_20_16 dX0_has_25 ?_
          refine m_lcmp (X := m9.toInt) (Y := (-9223372036854775808)) hx hb dX0_has_28 rfl (by decide) (fun x28 g_x28 => ?_)
          refine m_if_ne (X := x28.toInt) (tgt := 41) hx hb dX0_has_29 (by decide) rfl (fun c29 => ?_) (fun c29 => ?_)
          · skip
            refine lv_iconst (v := 0) hx hb dX0_has_41 (by decide) ?_
            subst hAe
            rw [hQ]
            exact W.zret (v := 0) hx hb hr (by decide) (fun t ht hW => ⟨⟨0, _, rfl, rfl, by rw [ht]; exact hP, va_K.moved hW.alike hK, hD⟩, hS.F ht⟩) hS.2.2 dX0_has_42
          · skip
            refine lv_iload_n hx hb dX0_has_32 rfl (lv_at hl 0 rfl) ?_
            refine lv_iconst (v := 5) hx hb dX0_has_33 (by decide) ?_
            refine m_icmp_lt (X := k9.toInt) (Y := 5) (tgt := 41) hx hb dX0_has_34 (by decide) rfl (by decide) (fun c34 => ?_) (fun c34 => ?_)
            · skip
              refine lv_iconst (v := 0) hx hb dX0_has_41 (by decide) ?_
              subst hAe
              rw [hQ]
              exact W.zret (v := 0) hx hb hr (by decide) (fun t ht hW => ⟨⟨0, _, rfl, rfl, by rw [ht]; exact hP, va_K.moved hW.alike hK, hD⟩, hS.F ht⟩) hS.2.2 dX0_has_42
            · skip
              refine lv_iconst (v := 1) hx hb dX0_has_37 (by decide) ?_
              refine lv_goto (tgt := 42) hx hb dX0_has_38 (by decide) ?_
              subst hAe
              rw [hQ]
              exact W.zret (v := 1) hx hb hr (by decide) (fun t ht hW => ⟨⟨1, _, rfl, rfl, by rw [ht]; exact hP, va_K.moved hW.alike hK, hD⟩, hS.F ht⟩) hS.2.2 dX0_has_42
    · skip
      refine lv_iconst (v := 0) hx hb dX0_has_12 (by decide) ?_
      subst hAe
      rw [hQ]
      exact W.zret (v := 0) hx hb hr (by decide) (fun t ht hW => ⟨⟨0, _, rfl, rfl, by rw [ht]; exact hP, va_K.moved hW.alike hK, hD⟩, hS.F ht⟩) hS.2.2 dX0_has_13

def rmX0_writeRefusal : Room := { frames := 40, cells := 0, slots := 0, locals := 800 }
set_option maxHeartbeats 4000000 in
set_option maxRecDepth 100000 in
theorem tX0_writeRefusal {l : Launch} {D : va_G} {K : Nat → Nat → Nat} (e9 : Int32) (c9 : Int32) : CtI l yX0_writeRefusal (wG yX0_writeRefusal cX0_writeRefusal 2 (some .int)) rmX0_writeRefusal D [] K [.int e9, .int c9] [] (fun r w1 => w1 = [] ∧ (0 ≤ e9.toInt → 0 ≤ c9.toInt → WRq e9.toInt c9.toInt r.toInt)) 0 0 := by
  intro sz
  refine Met.ofW (cc := cX0_writeRefusal) (maxL := 2) (ret := (some .int)) (by decide) rfl ?_
  intro p e s m args below meth c s₁ B hml hv
  obtain ⟨rfl, hsz, hP, hK, hD0, hE⟩ := hv
  have hx := B.exec
  have hb := B.bytes
  have hr := B.returns
  have hts := atoms_spec (ws := (wG yX0_writeRefusal cX0_writeRefusal 2 (some .int))) B.pre
  have hown : s.vm.findClass RX0 = some m.cls := findClass_of_methodNamed B.named
  have hlocks := B.notSynchronized
  subst hsz
  have hD := hD0.self (sz := s.heap.size)
  obtain ⟨A, hAe⟩ : ∃ A : Nat → Prop, A = va_A [] s.heap.size := ⟨_, rfl⟩
  rw [← hAe] at hD hE
  have hA : ∀ q : Nat, s.heap.size ≤ q → A q := fun q h => by rw [hAe]; exact Or.inr h
  have hS : va_S A s.heap s.heap [] := va_S.rf
  have hl := lv_entry ([.int e9, .int c9]) (n := 2) (Nat.le_of_ble_eq_true rfl)
  rw [lg_entry_eq]
  generalize (lg_sl ([.int e9, .int c9]) ++ List.replicate (2 - (lg_sl ([.int e9, .int c9])).length) Slot.unset).toArray = ls at hl ⊢
  have hl : lv_has ls 2 [(0, .int e9), (1, .int c9)] := hl
  refine wq (fun Q hQ => ?_)
  have kc0 : (-1 : Int32).toInt = -1 := by decide
  have kc1 : (0 : Int32).toInt = 0 := by decide
  have kc2 : (4 : Int32).toInt = 4 := by decide
  have kc3 : (6 : Int32).toInt = 6 := by decide
  obtain ⟨H, hH⟩ : ∃ H : Heap, H = s.heap := ⟨_, rfl⟩
  obtain ⟨locs, hlc⟩ : ∃ L : List Loc, L = [] := ⟨_, rfl⟩
  have hP : va_P D vwCl [] H := by rw [hH]; exact hP
  have hS : va_S A s.heap H locs := by rw [hH, hlc]; exact hS
  refine wHL hH hlc ?_
  have b_e9 := iB e9
  have b_c9 := iB c9
  refine lv_iload_n hx hb dX0_writeRefusal_0 rfl (lv_at hl 0 rfl) ?_
  refine call_iSP (As := [.int e9]) (rest := []) ⟨hx, hb, hml, hown, hts⟩ (tX0_isNumber (l := l) e9) (va_cwS 1 hts (gS (wr40 _ (List.mem_of_getElem? (i := 3) rfl)) (wr19 _ (List.mem_of_getElem? (i := 17) rfl)) (wr19 _ (List.mem_of_getElem? (i := 5) rfl)) (wr19 _ (List.mem_of_getElem? (i := 18) rfl))) rfl rfl rfl (by decide +kernel) ⟨Nat.le_of_ble_eq_true rfl, Nat.le_of_ble_eq_true rfl⟩) (hK.sub [] rfl) hP hD hE hS hA rfl hl.1 rfl (Nat.le_of_ble_eq_true rfl) dX0_writeRefusal_1 ⟨Nat.le_of_ble_eq_true rfl, Nat.le_of_ble_eq_true rfl⟩ (fun r1 w9 H locs hw1 hP hD hS => ?_)
  obtain ⟨rfl, hw1_0⟩ := hw1
  have b_r1 := iB r1
  refine m_if_eq (X := r1.toInt) (tgt := 22) hx hb dX0_writeRefusal_4 (by decide) rfl (fun c4 => ?_) (fun c4 => ?_)
  · skip
    refine lv_iload_n hx hb dX0_writeRefusal_22 rfl (lv_at hl 1 rfl) ?_
    refine lv_iconst (v := (-1)) hx hb dX0_writeRefusal_23 (by decide) ?_
    refine m_icmp_ne (X := c9.toInt) (Y := (-1)) (tgt := 29) hx hb dX0_writeRefusal_24 (by decide) rfl (by decide) (fun c24 => ?_) (fun c24 => ?_)
    · skip
      refine lv_iload_n hx hb dX0_writeRefusal_29 rfl (lv_at hl 1 rfl) ?_
      refine call_iSP (As := [.int c9]) (rest := []) ⟨hx, hb, hml, hown, hts⟩ (tX0_isNumber (l := l) c9) (va_cwS 1 hts (gS (wr40 _ (List.mem_of_getElem? (i := 3) rfl)) (wr19 _ (List.mem_of_getElem? (i := 17) rfl)) (wr19 _ (List.mem_of_getElem? (i := 5) rfl)) (wr19 _ (List.mem_of_getElem? (i := 18) rfl))) rfl rfl rfl (by decide +kernel) ⟨Nat.le_of_ble_eq_true rfl, Nat.le_of_ble_eq_true rfl⟩) (hK.sub [] rfl) hP hD hE hS hA rfl hl.1 rfl (Nat.le_of_ble_eq_true rfl) dX0_writeRefusal_30 ⟨Nat.le_of_ble_eq_true rfl, Nat.le_of_ble_eq_true rfl⟩ (fun r30 w9 H locs hw30 hP hD hS => ?_)
      obtain ⟨rfl, hw30_0⟩ := hw30
      have b_r30 := iB r30
      refine m_if_eq (X := r30.toInt) (tgt := 39) hx hb dX0_writeRefusal_33 (by decide) rfl (fun c33 => ?_) (fun c33 => ?_)
      · skip
        refine lv_iload_n hx hb dX0_writeRefusal_39 rfl (lv_at hl 1 rfl) ?_
        refine lv_iload_n hx hb dX0_writeRefusal_40 rfl (lv_at hl 0 rfl) ?_
        refine call_iSP (As := [.int c9, .int e9]) (rest := []) ⟨hx, hb, hml, hown, hts⟩ (tX0_isBelow (l := l) c9 e9) (va_cwS 2 hts (gS (wr40 _ (List.mem_of_getElem? (i := 8) rfl)) (wr40 _ (List.mem_of_getElem? (i := 9) rfl)) (wr19 _ (List.mem_of_getElem? (i := 5) rfl)) (wr40 _ (List.mem_of_getElem? (i := 10) rfl))) rfl rfl rfl (by decide +kernel) ⟨Nat.le_of_ble_eq_true rfl, Nat.le_of_ble_eq_true rfl⟩) (hK.sub [] rfl) hP hD hE hS hA rfl hl.1 rfl (Nat.le_of_ble_eq_true rfl) dX0_writeRefusal_41 ⟨Nat.le_of_ble_eq_true rfl, Nat.le_of_ble_eq_true rfl⟩ (fun r41 w9 H locs hw41 hP hD hS => ?_)
        obtain ⟨rfl, hw41_0, hw41_1⟩ := hw41
        have b_r41 := iB r41
        refine m_if_eq (X := r41.toInt) (tgt := 51) hx hb dX0_writeRefusal_44 (by decide) rfl (fun c44 => ?_) (fun c44 => ?_)
        · skip
          refine lv_iconst (v := 4) hx hb dX0_writeRefusal_51 (by decide) ?_
          subst hAe
          rw [hQ]
          exact W.iret (v := 4) hx hb hr (fun t ht hW => ⟨⟨4, _, rfl, ⟨rfl, by (intro h1 h2; first | exact WRq.a (by omega) (by omega) ((hw9_1 (by omega) (by omega) (by omega) (by omega)).resolve_right (fun z => by omega)).2 (by decide) | exact WRq.b (by omega) (fun q => by have z := q.1; omega) (by decide) | exact WRq.b (by omega) (fun q => ((hw9_1 (by omega) q.1 (by omega) (by omega)).resolve_left (fun z => by omega)).2 q.2) (by decide) | exact WRq.c (by omega) (by omega) (by decide) | exact WRq.d (by omega) (by omega) ((hw41_1 (by omega) (by omega)).resolve_right (fun z => by omega)).2 (by decide) | exact WRq.e (by omega) (by omega) ((hw41_1 (by omega) (by omega)).resolve_left (fun z => by omega)).2 (by decide) | (exfalso; omega))⟩, by rw [ht]; exact hP, va_K.moved hW.alike hK, hD⟩, hS.F ht⟩) hS.2.2 dX0_writeRefusal_52
        · skip
          refine lv_iconst (v := 0) hx hb dX0_writeRefusal_47 (by decide) ?_
          refine lv_goto (tgt := 52) hx hb dX0_writeRefusal_48 (by decide) ?_
          subst hAe
          rw [hQ]
          exact W.iret (v := 0) hx hb hr (fun t ht hW => ⟨⟨0, _, rfl, ⟨rfl, by (intro h1 h2; first | exact WRq.a (by omega) (by omega) ((hw9_1 (by omega) (by omega) (by omega) (by omega)).resolve_right (fun z => by omega)).2 (by decide) | exact WRq.b (by omega) (fun q => by have z := q.1; omega) (by decide) | exact WRq.b (by omega) (fun q => ((hw9_1 (by omega) q.1 (by omega) (by omega)).resolve_left (fun z => by omega)).2 q.2) (by decide) | exact WRq.c (by omega) (by omega) (by decide) | exact WRq.d (by omega) (by omega) ((hw41_1 (by omega) (by omega)).resolve_right (fun z => by omega)).2 (by decide) | exact WRq.e (by omega) (by omega) ((hw41_1 (by omega) (by omega)).resolve_left (fun z => by omega)).2 (by decide) | (exfalso; omega))⟩, by rw [ht]; exact hP, va_K.moved hW.alike hK, hD⟩, hS.F ht⟩) hS.2.2 dX0_writeRefusal_52
      · skip
        refine lv_bipush (v := 6) hx hb dX0_writeRefusal_36 (by decide) ?_
        subst hAe
        rw [hQ]
        exact W.iret (v := 6) hx hb hr (fun t ht hW => ⟨⟨6, _, rfl, ⟨rfl, by (intro h1 h2; first | exact WRq.a (by omega) (by omega) ((hw9_1 (by omega) (by omega) (by omega) (by omega)).resolve_right (fun z => by omega)).2 (by decide) | exact WRq.b (by omega) (fun q => by have z := q.1; omega) (by decide) | exact WRq.b (by omega) (fun q => ((hw9_1 (by omega) q.1 (by omega) (by omega)).resolve_left (fun z => by omega)).2 q.2) (by decide) | exact WRq.c (by omega) (by omega) (by decide) | exact WRq.d (by omega) (by omega) ((hw41_1 (by omega) (by omega)).resolve_right (fun z => by omega)).2 (by decide) | exact WRq.e (by omega) (by omega) ((hw41_1 (by omega) (by omega)).resolve_left (fun z => by omega)).2 (by decide) | (exfalso; omega))⟩, by rw [ht]; exact hP, va_K.moved hW.alike hK, hD⟩, hS.F ht⟩) hS.2.2 dX0_writeRefusal_38
    · skip
      refine lv_iconst (v := 0) hx hb dX0_writeRefusal_27 (by decide) ?_
      subst hAe
      rw [hQ]
      exact W.iret (v := 0) hx hb hr (fun t ht hW => ⟨⟨0, _, rfl, ⟨rfl, by (intro h1 h2; first | exact WRq.a (by omega) (by omega) ((hw9_1 (by omega) (by omega) (by omega) (by omega)).resolve_right (fun z => by omega)).2 (by decide) | exact WRq.b (by omega) (fun q => by have z := q.1; omega) (by decide) | exact WRq.b (by omega) (fun q => ((hw9_1 (by omega) q.1 (by omega) (by omega)).resolve_left (fun z => by omega)).2 q.2) (by decide) | exact WRq.c (by omega) (by omega) (by decide) | exact WRq.d (by omega) (by omega) ((hw41_1 (by omega) (by omega)).resolve_right (fun z => by omega)).2 (by decide) | exact WRq.e (by omega) (by omega) ((hw41_1 (by omega) (by omega)).resolve_left (fun z => by omega)).2 (by decide) | (exfalso; omega))⟩, by rw [ht]; exact hP, va_K.moved hW.alike hK, hD⟩, hS.F ht⟩) hS.2.2 dX0_writeRefusal_28
  · skip
    refine lv_iload_n hx hb dX0_writeRefusal_7 rfl (lv_at hl 1 rfl) ?_
    refine lv_iload_n hx hb dX0_writeRefusal_8 rfl (lv_at hl 0 rfl) ?_
    refine call_iSP (As := [.int c9, .int e9]) (rest := []) ⟨hx, hb, hml, hown, hts⟩ (tX0_widens (l := l) c9 e9) (va_cwS 2 hts (gS (wr40 _ (List.mem_of_getElem? (i := 4) rfl)) (wr40 _ (List.mem_of_getElem? (i := 5) rfl)) (wr19 _ (List.mem_of_getElem? (i := 5) rfl)) (wr40 _ (List.mem_of_getElem? (i := 6) rfl))) rfl rfl rfl (by decide +kernel) ⟨Nat.le_of_ble_eq_true rfl, Nat.le_of_ble_eq_true rfl⟩) (hK.sub [] rfl) hP hD hE hS hA rfl hl.1 rfl (Nat.le_of_ble_eq_true rfl) dX0_writeRefusal_9 ⟨Nat.le_of_ble_eq_true rfl, Nat.le_of_ble_eq_true rfl⟩ (fun r9 w9 H locs hw9 hP hD hS => ?_)
    obtain ⟨rfl, hw9_0, hw9_1, hw9_2⟩ := hw9
    have b_r9 := iB r9
    refine m_if_eq (X := r9.toInt) (tgt := 19) hx hb dX0_writeRefusal_12 (by decide) rfl (fun c12 => ?_) (fun c12 => ?_)
    · skip
      refine lv_bipush (v := 6) hx hb dX0_writeRefusal_19 (by decide) ?_
      subst hAe
      rw [hQ]
      exact W.iret (v := 6) hx hb hr (fun t ht hW => ⟨⟨6, _, rfl, ⟨rfl, by (intro h1 h2; first | exact WRq.a (by omega) (by omega) ((hw9_1 (by omega) (by omega) (by omega) (by omega)).resolve_right (fun z => by omega)).2 (by decide) | exact WRq.b (by omega) (fun q => by have z := q.1; omega) (by decide) | exact WRq.b (by omega) (fun q => ((hw9_1 (by omega) q.1 (by omega) (by omega)).resolve_left (fun z => by omega)).2 q.2) (by decide) | exact WRq.c (by omega) (by omega) (by decide) | exact WRq.d (by omega) (by omega) ((hw41_1 (by omega) (by omega)).resolve_right (fun z => by omega)).2 (by decide) | exact WRq.e (by omega) (by omega) ((hw41_1 (by omega) (by omega)).resolve_left (fun z => by omega)).2 (by decide) | (exfalso; omega))⟩, by rw [ht]; exact hP, va_K.moved hW.alike hK, hD⟩, hS.F ht⟩) hS.2.2 dX0_writeRefusal_21
    · skip
      refine lv_iconst (v := 0) hx hb dX0_writeRefusal_15 (by decide) ?_
      refine lv_goto (tgt := 21) hx hb dX0_writeRefusal_16 (by decide) ?_
      subst hAe
      rw [hQ]
      exact W.iret (v := 0) hx hb hr (fun t ht hW => ⟨⟨0, _, rfl, ⟨rfl, by (intro h1 h2; first | exact WRq.a (by omega) (by omega) ((hw9_1 (by omega) (by omega) (by omega) (by omega)).resolve_right (fun z => by omega)).2 (by decide) | exact WRq.b (by omega) (fun q => by have z := q.1; omega) (by decide) | exact WRq.b (by omega) (fun q => ((hw9_1 (by omega) q.1 (by omega) (by omega)).resolve_left (fun z => by omega)).2 q.2) (by decide) | exact WRq.c (by omega) (by omega) (by decide) | exact WRq.d (by omega) (by omega) ((hw41_1 (by omega) (by omega)).resolve_right (fun z => by omega)).2 (by decide) | exact WRq.e (by omega) (by omega) ((hw41_1 (by omega) (by omega)).resolve_left (fun z => by omega)).2 (by decide) | (exfalso; omega))⟩, by rw [ht]; exact hP, va_K.moved hW.alike hK, hD⟩, hS.F ht⟩) hS.2.2 dX0_writeRefusal_21

def rmX0_areUnlike : Room := { frames := 60, cells := 0, slots := 0, locals := 1200 }
set_option maxHeartbeats 4000000 in
set_option maxRecDepth 100000 in
theorem tX0_areUnlike {l : Launch} {D : va_G} {K : Nat → Nat → Nat} (a9 : Int32) (b9 : Int32) : CtI l yX0_areUnlike (wG yX0_areUnlike cX0_areUnlike 2 (some .boolean)) rmX0_areUnlike D [] K [.int a9, .int b9] [] (fun r w1 => w1 = [] ∧ (r.toInt = 0 ∨ r.toInt = 1) ∧ ((r.toInt = 1 ∧ (a9.toInt ≠ b9.toInt ∧ ((20 ≤ a9.toInt ∧ a9.toInt < 28) ∨ (20 ≤ b9.toInt ∧ b9.toInt < 28)))) ∨ (r.toInt = 0 ∧ ¬ (a9.toInt ≠ b9.toInt ∧ ((20 ≤ a9.toInt ∧ a9.toInt < 28) ∨ (20 ≤ b9.toInt ∧ b9.toInt < 28)))))) 0 0 := by
  intro sz
  refine Met.ofW (cc := cX0_areUnlike) (maxL := 2) (ret := (some .boolean)) (by decide) rfl ?_
  intro p e s m args below meth c s₁ B hml hv
  obtain ⟨rfl, hsz, hP, hK, hD0, hE⟩ := hv
  have hx := B.exec
  have hb := B.bytes
  have hr := B.returns
  have hts := atoms_spec (ws := (wG yX0_areUnlike cX0_areUnlike 2 (some .boolean))) B.pre
  have hown : s.vm.findClass RX0 = some m.cls := findClass_of_methodNamed B.named
  have hlocks := B.notSynchronized
  subst hsz
  have hD := hD0.self (sz := s.heap.size)
  obtain ⟨A, hAe⟩ : ∃ A : Nat → Prop, A = va_A [] s.heap.size := ⟨_, rfl⟩
  rw [← hAe] at hD hE
  have hA : ∀ q : Nat, s.heap.size ≤ q → A q := fun q h => by rw [hAe]; exact Or.inr h
  have hS : va_S A s.heap s.heap [] := va_S.rf
  have hl := lv_entry ([.int a9, .int b9]) (n := 2) (Nat.le_of_ble_eq_true rfl)
  rw [lg_entry_eq]
  generalize (lg_sl ([.int a9, .int b9]) ++ List.replicate (2 - (lg_sl ([.int a9, .int b9])).length) Slot.unset).toArray = ls at hl ⊢
  have hl : lv_has ls 2 [(0, .int a9), (1, .int b9)] := hl
  refine wq (fun Q hQ => ?_)
  have kc0 : (0 : Int32).toInt = 0 := by decide
  have kc1 : (1 : Int32).toInt = 1 := by decide
  obtain ⟨H, hH⟩ : ∃ H : Heap, H = s.heap := ⟨_, rfl⟩
  obtain ⟨locs, hlc⟩ : ∃ L : List Loc, L = [] := ⟨_, rfl⟩
  have hP : va_P D vwCl [] H := by rw [hH]; exact hP
  have hS : va_S A s.heap H locs := by rw [hH, hlc]; exact hS
  refine wHL hH hlc ?_
  have b_a9 := iB a9
  have b_b9 := iB b9
  refine lv_iload_n hx hb dX0_areUnlike_0 rfl (lv_at hl 0 rfl) ?_
  refine lv_iload_n hx hb dX0_areUnlike_1 rfl (lv_at hl 1 rfl) ?_
  refine m_icmp_eq (X := a9.toInt) (Y := b9.toInt) (tgt := 23) hx hb dX0_areUnlike_2 (by decide) rfl rfl (fun c2 => ?_) (fun c2 => ?_)
  · skip
    refine lv_iconst (v := 0) hx hb dX0_areUnlike_23 (by decide) ?_
    subst hAe
    rw [hQ]
    exact W.zret (v := 0) hx hb hr (by decide) (fun t ht hW => ⟨⟨0, _, rfl, ⟨rfl, by first | assumption | omega | (intros; omega) | decide, by first | exact Or.inl ⟨by decide, by omega⟩ | exact Or.inr ⟨by decide, by omega⟩⟩, by rw [ht]; exact hP, va_K.moved hW.alike hK, hD⟩, hS.F ht⟩) hS.2.2 dX0_areUnlike_24
  · skip
    refine lv_iload_n hx hb dX0_areUnlike_5 rfl (lv_at hl 0 rfl) ?_
    refine call_iSP (As := [.int a9]) (rest := []) ⟨hx, hb, hml, hown, hts⟩ (tX0_ofNumbers (l := l) a9) (va_cwS 1 hts (gS (wr45 _ (List.mem_of_getElem? (i := 1) rfl)) (wr45 _ (List.mem_of_getElem? (i := 2) rfl)) (wr19 _ (List.mem_of_getElem? (i := 5) rfl)) (wr45 _ (List.mem_of_getElem? (i := 3) rfl))) rfl rfl rfl (by decide +kernel) ⟨Nat.le_of_ble_eq_true rfl, Nat.le_of_ble_eq_true rfl⟩) (hK.sub [] rfl) hP hD hE hS hA rfl hl.1 rfl (Nat.le_of_ble_eq_true rfl) dX0_areUnlike_6 ⟨Nat.le_of_ble_eq_true rfl, Nat.le_of_ble_eq_true rfl⟩ (fun r6 w9 H locs hw6 hP hD hS => ?_)
    obtain ⟨rfl, hw6_0⟩ := hw6
    have b_r6 := iB r6
    refine m_if_ne (X := r6.toInt) (tgt := 19) hx hb dX0_areUnlike_9 (by decide) rfl (fun c9 => ?_) (fun c9 => ?_)
    · skip
      refine lv_iconst (v := 1) hx hb dX0_areUnlike_19 (by decide) ?_
      refine lv_goto (tgt := 24) hx hb dX0_areUnlike_20 (by decide) ?_
      subst hAe
      rw [hQ]
      exact W.zret (v := 1) hx hb hr (by decide) (fun t ht hW => ⟨⟨1, _, rfl, ⟨rfl, by first | assumption | omega | (intros; omega) | decide, by first | exact Or.inl ⟨by decide, by omega⟩ | exact Or.inr ⟨by decide, by omega⟩⟩, by rw [ht]; exact hP, va_K.moved hW.alike hK, hD⟩, hS.F ht⟩) hS.2.2 dX0_areUnlike_24
    · skip
      refine lv_iload_n hx hb dX0_areUnlike_12 rfl (lv_at hl 1 rfl) ?_
      refine call_iSP (As := [.int b9]) (rest := []) ⟨hx, hb, hml, hown, hts⟩ (tX0_ofNumbers (l := l) b9) (va_cwS 1 hts (gS (wr45 _ (List.mem_of_getElem? (i := 1) rfl)) (wr45 _ (List.mem_of_getElem? (i := 2) rfl)) (wr19 _ (List.mem_of_getElem? (i := 5) rfl)) (wr45 _ (List.mem_of_getElem? (i := 3) rfl))) rfl rfl rfl (by decide +kernel) ⟨Nat.le_of_ble_eq_true rfl, Nat.le_of_ble_eq_true rfl⟩) (hK.sub [] rfl) hP hD hE hS hA rfl hl.1 rfl (Nat.le_of_ble_eq_true rfl) dX0_areUnlike_13 ⟨Nat.le_of_ble_eq_true rfl, Nat.le_of_ble_eq_true rfl⟩ (fun r13 w9 H locs hw13 hP hD hS => ?_)
      obtain ⟨rfl, hw13_0⟩ := hw13
      have b_r13 := iB r13
      refine m_if_eq (X := r13.toInt) (tgt := 23) hx hb dX0_areUnlike_16 (by decide) rfl (fun c16 => ?_) (fun c16 => ?_)
      · skip
        refine lv_iconst (v := 0) hx hb dX0_areUnlike_23 (by decide) ?_
        subst hAe
        rw [hQ]
        exact W.zret (v := 0) hx hb hr (by decide) (fun t ht hW => ⟨⟨0, _, rfl, ⟨rfl, by first | assumption | omega | (intros; omega) | decide, by first | exact Or.inl ⟨by decide, by omega⟩ | exact Or.inr ⟨by decide, by omega⟩⟩, by rw [ht]; exact hP, va_K.moved hW.alike hK, hD⟩, hS.F ht⟩) hS.2.2 dX0_areUnlike_24
      · skip
        refine lv_iconst (v := 1) hx hb dX0_areUnlike_19 (by decide) ?_
        refine lv_goto (tgt := 24) hx hb dX0_areUnlike_20 (by decide) ?_
        subst hAe
        rw [hQ]
        exact W.zret (v := 1) hx hb hr (by decide) (fun t ht hW => ⟨⟨1, _, rfl, ⟨rfl, by first | assumption | omega | (intros; omega) | decide, by first | exact Or.inl ⟨by decide, by omega⟩ | exact Or.inr ⟨by decide, by omega⟩⟩, by rw [ht]; exact hP, va_K.moved hW.alike hK, hD⟩, hS.F ht⟩) hS.2.2 dX0_areUnlike_24

def rmX0_nameBegin : Room := { frames := 100, cells := 0, slots := 0, locals := 2000 }
set_option maxHeartbeats 4000000 in
set_option maxRecDepth 100000 in
theorem tX0_nameBegin {l : Launch} {D : va_G} {K : Nat → Nat → Nat} (k9 : Int32) : CtI l yX0_nameBegin (wG yX0_nameBegin cX0_nameBegin 3 (some .int)) rmX0_nameBegin D [] K [.int k9] [] (fun r w1 => w1 = [] ∧ (0 ≤ r.toInt) ∧ (r.toInt ≤ 90) ∧ (0 ≤ k9.toInt → k9.toInt ≤ 16 → r.toInt = nmB k9.toInt.toNat)) 0 0 := by
  intro sz
  refine Met.ofW (cc := cX0_nameBegin) (maxL := 3) (ret := (some .int)) (by decide) rfl ?_
  intro p e s m args below meth c s₁ B hml hv
  obtain ⟨rfl, hsz, hP, hK, hD0, hE⟩ := hv
  have hx := B.exec
  have hb := B.bytes
  have hr := B.returns
  have hts := atoms_spec (ws := (wG yX0_nameBegin cX0_nameBegin 3 (some .int))) B.pre
  have hown : s.vm.findClass RX0 = some m.cls := findClass_of_methodNamed B.named
  have hlocks := B.notSynchronized
  subst hsz
  have hD := hD0.self (sz := s.heap.size)
  obtain ⟨A, hAe⟩ : ∃ A : Nat → Prop, A = va_A [] s.heap.size := ⟨_, rfl⟩
  rw [← hAe] at hD hE
  have hA : ∀ q : Nat, s.heap.size ≤ q → A q := fun q h => by rw [hAe]; exact Or.inr h
  have hS : va_S A s.heap s.heap [] := va_S.rf
  have hl := lv_entry ([.int k9]) (n := 3) (Nat.le_of_ble_eq_true rfl)
  rw [lg_entry_eq]
  generalize (lg_sl ([.int k9]) ++ List.replicate (3 - (lg_sl ([.int k9])).length) Slot.unset).toArray = ls at hl ⊢
  have hl : lv_has ls 3 [(0, .int k9)] := hl
  refine wq (fun Q hQ => ?_)
  have kc0 : (0 : Int32).toInt = 0 := by decide
  have kc1 : (32 : Int32).toInt = 32 := by decide
  obtain ⟨H, hH⟩ : ∃ H : Heap, H = s.heap := ⟨_, rfl⟩
  obtain ⟨locs, hlc⟩ : ∃ L : List Loc, L = [] := ⟨_, rfl⟩
  have hP : va_P D vwCl [] H := by rw [hH]; exact hP
  have hS : va_S A s.heap H locs := by rw [hH, hlc]; exact hS
  refine wHL hH hlc ?_
  have b_k9 := iB k9
  have hN : ([116, 114, 117, 116, 104, 32, 98, 121, 116, 101, 32, 115, 104, 111, 114, 116, 32, 99, 104, 97, 114, 32, 105, 110, 116, 32, 108, 111, 110, 103, 32, 102, 108, 111, 97, 116, 32, 100, 111, 117, 98, 108, 101, 32, 98, 101, 97, 115, 116, 32, 99, 97, 116, 32, 108, 105, 111, 110, 32, 100, 111, 103, 32, 98, 105, 114, 100, 32, 100, 117, 99, 107, 32, 98, 97, 116, 32, 102, 108, 105, 101, 114, 32, 115, 119, 105, 109, 109, 101, 114] : List Int32).length = 90 := rfl
  have hNT : nmT = ([116, 114, 117, 116, 104, 32, 98, 121, 116, 101, 32, 115, 104, 111, 114, 116, 32, 99, 104, 97, 114, 32, 105, 110, 116, 32, 108, 111, 110, 103, 32, 102, 108, 111, 97, 116, 32, 100, 111, 117, 98, 108, 101, 32, 98, 101, 97, 115, 116, 32, 99, 97, 116, 32, 108, 105, 111, 110, 32, 100, 111, 103, 32, 98, 105, 114, 100, 32, 100, 117, 99, 107, 32, 98, 97, 116, 32, 102, 108, 105, 101, 114, 32, 115, 119, 105, 109, 109, 101, 114] : List Int32) := rfl
  refine lv_iconst (v := 0) hx hb dX0_nameBegin_0 (by decide) ?_
  refine lv_istore_n (lv' := [(1, .int 0), (0, .int k9)]) hx hb dX0_nameBegin_1 rfl hl (by decide) rfl (fun ls hl => ?_)
  refine lv_iconst (v := 0) hx hb dX0_nameBegin_2 (by decide) ?_
  refine lv_istore_n (lv' := [(2, .int 0), (1, .int 0), (0, .int k9)]) hx hb dX0_nameBegin_3 rfl hl (by decide) rfl (fun ls hl => ?_)
  have J4 : ∀ (n4 : Nat) (l1_4 : Int32) (l2_4 : Int32) (H : Heap) (locs : List Loc) (ls : Array Slot), (0 ≤ l2_4.toInt) → (l2_4.toInt ≤ 90) → (0 ≤ l1_4.toInt) → (l1_4.toInt ≤ l2_4.toInt) → (l1_4.toInt = nmS l2_4.toInt.toNat) → (0 ≤ k9.toInt → k9.toInt ≤ 16 → l2_4.toInt ≤ nmB k9.toInt.toNat) → (90 - l2_4.toInt < (n4 : Int)) → va_P D vwCl [] H → va_D A [] → va_S A s.heap H locs → lv_has ls 3 [(0, .int k9), (1, .int l1_4), (2, .int l2_4)] → W p l e (headSpec (wG yX0_nameBegin cX0_nameBegin 3 (some .int)) rmX0_nameBegin).room s m ([.int k9] : List Value).toArray below meth c H locs 0 0 Q (F0 m 4 ls []) := by
    intro n4
    induction n4 with
    | zero =>
      intro l1_4 l2_4 H locs ls f4_0 f4_1 f4_2 f4_3 f4_4 f4_5 hm4
      exfalso
      omega
    | succ n4 ih4 =>
      intro l1_4 l2_4 H locs ls f4_0 f4_1 f4_2 f4_3 f4_4 f4_5 hm4 hP hD hS hl
      refine lv_iload_n hx hb dX0_nameBegin_4 rfl (lv_at hl 2 rfl) ?_
      refine va_ldcS hx hb hown (ld_28 hE) dX0_nameBegin_5 ?_
      refine call_iP (As := []) (rest := [.int l2_4]) ⟨hx, hb, hml, hown, hts⟩ (tJ0_length_8abf5 (l := l) 28 so_28 ) (cwV 0 hts (gV (wr57 _ (List.mem_of_getElem? (i := 23) rfl)) (wr11 _ (List.mem_of_getElem? (i := 0) rfl)) (wr11 _ (List.mem_of_getElem? (i := 1) rfl)) (wr10 _ (List.mem_of_getElem? (i := 10) rfl)) (wr11 _ (List.mem_of_getElem? (i := 2) rfl))) rfl rfl rfl (by decide +kernel) ⟨Nat.le_of_ble_eq_true rfl, Nat.le_of_ble_eq_true rfl⟩) (sRecv (hE.str so_28) hS) (hK.sub [] rfl) hP hD hE hS hA rfl hl.1 rfl (Nat.le_of_ble_eq_true rfl) dX0_nameBegin_7 ⟨Nat.le_of_ble_eq_true rfl, Nat.le_of_ble_eq_true rfl⟩ (fun r7 w9 H locs hw7 hP hD hS => ?_)
      obtain ⟨rfl, hw7_0⟩ := hw7
      have b_r7 := iB r7
      refine m_icmp_ge (X := l2_4.toInt) (Y := r7.toInt) (tgt := 40) hx hb dX0_nameBegin_10 (by decide) rfl rfl (fun c10 => ?_) (fun c10 => ?_)
      · skip
        refine va_ldcS hx hb hown (ld_28 hE) dX0_nameBegin_40 ?_
        refine call_iP (As := []) (rest := []) ⟨hx, hb, hml, hown, hts⟩ (tJ0_length_8abf5 (l := l) 28 so_28 ) (cwV 0 hts (gV (wr57 _ (List.mem_of_getElem? (i := 23) rfl)) (wr11 _ (List.mem_of_getElem? (i := 0) rfl)) (wr11 _ (List.mem_of_getElem? (i := 1) rfl)) (wr10 _ (List.mem_of_getElem? (i := 10) rfl)) (wr11 _ (List.mem_of_getElem? (i := 2) rfl))) rfl rfl rfl (by decide +kernel) ⟨Nat.le_of_ble_eq_true rfl, Nat.le_of_ble_eq_true rfl⟩) (sRecv (hE.str so_28) hS) (hK.sub [] rfl) hP hD hE hS hA rfl hl.1 rfl (Nat.le_of_ble_eq_true rfl) dX0_nameBegin_42 ⟨Nat.le_of_ble_eq_true rfl, Nat.le_of_ble_eq_true rfl⟩ (fun r42 w9 H locs hw42 hP hD hS => ?_)
        obtain ⟨rfl, hw42_0⟩ := hw42
        have b_r42 := iB r42
        subst hAe
        rw [hQ]
        exact W.iret (v := r42) hx hb hr (fun t ht hW => ⟨⟨r42, _, rfl, ⟨rfl, by first | assumption | omega | (intros; omega) | decide, by first | assumption | omega | (intros; omega) | decide, by (intro h1 h2; have h9 := nmB_all k9.toInt.toNat (by omega); have h8 := f4_5 h1 h2; first | (have h7 := nmB_one k9.toInt.toNat (by omega) l2_4.toInt.toNat (by omega) (by omega) (by omega); omega) | (exfalso; omega))⟩, by rw [ht]; exact hP, va_K.moved hW.alike hK, hD⟩, hS.F ht⟩) hS.2.2 dX0_nameBegin_45
      · skip
        refine lv_iload_n hx hb dX0_nameBegin_13 rfl (lv_at hl 1 rfl) ?_
        refine lv_iload_n hx hb dX0_nameBegin_14 rfl (lv_at hl 0 rfl) ?_
        refine m_icmp_ne (X := l1_4.toInt) (Y := k9.toInt) (tgt := 20) hx hb dX0_nameBegin_15 (by decide) rfl rfl (fun c15 => ?_) (fun c15 => ?_)
        · skip
          refine va_ldcS hx hb hown (ld_28 hE) dX0_nameBegin_20 ?_
          refine lv_iload_n hx hb dX0_nameBegin_22 rfl (lv_at hl 2 rfl) ?_
          refine call_iP (As := [.int l2_4]) (rest := []) ⟨hx, hb, hml, hown, hts⟩ (tJ0_charAt_5068e (l := l) 28 so_28 l2_4 (by first | assumption | omega | (intros; omega) | decide) (by first | assumption | omega | (intros; omega) | decide)) (cwV 1 hts (gV (wr58 _ (List.mem_of_getElem? (i := 0) rfl)) (wr14 _ (List.mem_of_getElem? (i := 17) rfl)) (wr14 _ (List.mem_of_getElem? (i := 18) rfl)) (wr10 _ (List.mem_of_getElem? (i := 10) rfl)) (wr14 _ (List.mem_of_getElem? (i := 19) rfl))) rfl rfl rfl (by decide +kernel) ⟨Nat.le_of_ble_eq_true rfl, Nat.le_of_ble_eq_true rfl⟩) (sRecv (hE.str so_28) hS) (hK.sub [] rfl) hP hD hE hS hA rfl hl.1 rfl (Nat.le_of_ble_eq_true rfl) dX0_nameBegin_23 ⟨Nat.le_of_ble_eq_true rfl, Nat.le_of_ble_eq_true rfl⟩ (fun r23 w9 H locs hw23 hP hD hS => ?_)
          obtain ⟨rfl, hw23_0⟩ := hw23
          have b_r23 := iB r23
          have hL9 := tnN (i := l2_4) (by omega)
          have hc9 : r23.toInt = (nmT.getD l2_4.toInt.toNat 0).toInt := by rw [hw23_0, hNT, hL9]
          have hs9 := nmS_all l2_4.toInt.toNat (by omega)
          rw [← hc9] at hs9
          refine lv_bipush (v := 32) hx hb dX0_nameBegin_26 (by decide) ?_
          have J34 : ∀ (l1_34 : Int32) (H : Heap) (locs : List Loc) (ls : Array Slot), (0 ≤ l1_34.toInt) → (l1_34.toInt ≤ l2_4.toInt + 1) → (l1_34.toInt = nmS (l2_4.toInt.toNat + 1)) → (0 ≤ k9.toInt → k9.toInt ≤ 16 → l2_4.toInt + 1 ≤ nmB k9.toInt.toNat) → va_P D vwCl [] H → va_D A [] → va_S A s.heap H locs → lv_has ls 3 [(0, .int k9), (1, .int l1_34), (2, .int l2_4)] → W p l e (headSpec (wG yX0_nameBegin cX0_nameBegin 3 (some .int)) rmX0_nameBegin).room s m ([.int k9] : List Value).toArray below meth c H locs 0 0 Q (F0 m 34 ls []) := by
            intro l1_34 H locs ls f34_0 f34_1 f34_2 f34_3 hP hD hS hl
            obtain ⟨x34, e_x34⟩ : ∃ z : Int32, z = l2_4 + (1 : Int32) := ⟨_, rfl⟩
            obtain ⟨k_x34, g_x34⟩ : ∃ k : Int, x34.toInt = l2_4.toInt + (1) + k * 4294967296 := by rw [e_x34]; exact iAdd l2_4 (1)
            have b_x34 := iB x34
            try (have q_x34 : x34.toInt = l2_4.toInt + (1) := (by omega); clear g_x34 k_x34)
            refine lv_iinc (v := x34) (lv' := [(2, .int x34), (0, .int k9), (1, .int l1_34)]) hx hb dX0_nameBegin_34 hl (k := 2) rfl (by rw [e_x34]; rfl) (by decide) rfl (fun ls hl => ?_)
            refine lv_goto (tgt := 4) hx hb dX0_nameBegin_37 (by decide) ?_
            exact ih4 l1_34 x34 H locs ls (by first | assumption | omega | (intros; omega) | decide) (by first | assumption | omega | (intros; omega) | decide) (by first | assumption | omega | (intros; omega) | decide) (by first | assumption | omega | (intros; omega) | decide) (by first | rfl | (rw [show x34.toInt.toNat = l2_4.toInt.toNat + 1 by omega]; exact f34_2)) (by first | (intro h1 h2; have h9 := f34_3 h1 h2; omega) | (intro h1 h2; have h9 := (nmB_all k9.toInt.toNat (by omega)).1; have z9 : (0 : Int32).toInt = 0 := rfl; omega)) (by omega) hP hD hS (lv_sub hl [1, 2, 0] rfl)
          refine m_icmp_ne (X := r23.toInt) (Y := 32) (tgt := 34) hx hb dX0_nameBegin_28 (by decide) rfl (by decide) (fun c28 => ?_) (fun c28 => ?_)
          · skip
            exact J34 l1_4 H locs ls (by first | assumption | omega | (intros; omega) | decide) (by first | assumption | omega | (intros; omega) | decide) (by first | (have h9 := hs9.2 (by omega); omega) | (have h9 := hs9.1 (by omega); omega)) (by (intro h1 h2; have h9 := nmB_all k9.toInt.toNat (by omega); have h8 := f4_5 h1 h2; rcases Int.lt_or_le l2_4.toInt (nmB k9.toInt.toNat) with h7 | h7 <;> first | omega | (exfalso; have h6 := h9.2.2.1; rw [show (nmB k9.toInt.toNat).toNat = l2_4.toInt.toNat by omega] at h6; omega))) hP hD hS (lv_sub hl [0, 1, 2] rfl)
          · skip
            obtain ⟨x31, e_x31⟩ : ∃ z : Int32, z = l1_4 + (1 : Int32) := ⟨_, rfl⟩
            obtain ⟨k_x31, g_x31⟩ : ∃ k : Int, x31.toInt = l1_4.toInt + (1) + k * 4294967296 := by rw [e_x31]; exact iAdd l1_4 (1)
            have b_x31 := iB x31
            try (have q_x31 : x31.toInt = l1_4.toInt + (1) := (by omega); clear g_x31 k_x31)
            refine lv_iinc (v := x31) (lv' := [(1, .int x31), (0, .int k9), (2, .int l2_4)]) hx hb dX0_nameBegin_31 hl (k := 1) rfl (by rw [e_x31]; rfl) (by decide) rfl (fun ls hl => ?_)
            exact J34 x31 H locs ls (by first | assumption | omega | (intros; omega) | decide) (by first | assumption | omega | (intros; omega) | decide) (by first | (have h9 := hs9.2 (by omega); omega) | (have h9 := hs9.1 (by omega); omega)) (by (intro h1 h2; have h9 := nmB_all k9.toInt.toNat (by omega); have h8 := f4_5 h1 h2; rcases Int.lt_or_le l2_4.toInt (nmB k9.toInt.toNat) with h7 | h7 <;> first | omega | (exfalso; have h6 := h9.2.2.1; rw [show (nmB k9.toInt.toNat).toNat = l2_4.toInt.toNat by omega] at h6; omega))) hP hD hS (lv_sub hl [1, 0, 2] rfl)
        · skip
          refine lv_iload_n hx hb dX0_nameBegin_18 rfl (lv_at hl 2 rfl) ?_
          subst hAe
          rw [hQ]
          exact W.iret (v := l2_4) hx hb hr (fun t ht hW => ⟨⟨l2_4, _, rfl, ⟨rfl, by first | assumption | omega | (intros; omega) | decide, by first | assumption | omega | (intros; omega) | decide, by (intro h1 h2; have h9 := nmB_all k9.toInt.toNat (by omega); have h8 := f4_5 h1 h2; first | (have h7 := nmB_one k9.toInt.toNat (by omega) l2_4.toInt.toNat (by omega) (by omega) (by omega); omega) | (exfalso; omega))⟩, by rw [ht]; exact hP, va_K.moved hW.alike hK, hD⟩, hS.F ht⟩) hS.2.2 dX0_nameBegin_19
  exact J4 ((90 - (0 : Int32).toInt).toNat + 1) (0 : Int32) (0 : Int32) H locs ls (by first | assumption | omega | (intros; omega) | decide) (by first | assumption | omega | (intros; omega) | decide) (by first | assumption | omega | (intros; omega) | decide) (by first | assumption | omega | (intros; omega) | decide) (by first | rfl | (rw [show (0 : Int32).toInt.toNat = l2_4.toInt.toNat + 1 by omega]; exact f34_2)) (by first | (intro h1 h2; have h9 := f34_3 h1 h2; omega) | (intro h1 h2; have h9 := (nmB_all k9.toInt.toNat (by omega)).1; have z9 : (0 : Int32).toInt = 0 := rfl; omega)) (by omega) hP hD hS (lv_sub hl [2, 1, 0] rfl)

def rmX0_nameLength : Room := { frames := 100, cells := 0, slots := 0, locals := 2000 }
set_option maxHeartbeats 4000000 in
set_option maxRecDepth 100000 in
theorem tX0_nameLength {l : Launch} {D : va_G} {K : Nat → Nat → Nat} (b9 : Int32) (p_0 : 0 ≤ b9.toInt) (p_1 : b9.toInt ≤ 90) : CtI l yX0_nameLength (wG yX0_nameLength cX0_nameLength 2 (some .int)) rmX0_nameLength D [] K [.int b9] [] (fun r w1 => w1 = [] ∧ (0 ≤ r.toInt) ∧ (b9.toInt + r.toInt ≤ 90) ∧ (b9.toInt + r.toInt = nmE b9.toInt.toNat)) 0 0 := by
  intro sz
  refine Met.ofW (cc := cX0_nameLength) (maxL := 2) (ret := (some .int)) (by decide) rfl ?_
  intro p e s m args below meth c s₁ B hml hv
  obtain ⟨rfl, hsz, hP, hK, hD0, hE⟩ := hv
  have hx := B.exec
  have hb := B.bytes
  have hr := B.returns
  have hts := atoms_spec (ws := (wG yX0_nameLength cX0_nameLength 2 (some .int))) B.pre
  have hown : s.vm.findClass RX0 = some m.cls := findClass_of_methodNamed B.named
  have hlocks := B.notSynchronized
  subst hsz
  have hD := hD0.self (sz := s.heap.size)
  obtain ⟨A, hAe⟩ : ∃ A : Nat → Prop, A = va_A [] s.heap.size := ⟨_, rfl⟩
  rw [← hAe] at hD hE
  have hA : ∀ q : Nat, s.heap.size ≤ q → A q := fun q h => by rw [hAe]; exact Or.inr h
  have hS : va_S A s.heap s.heap [] := va_S.rf
  have hl := lv_entry ([.int b9]) (n := 2) (Nat.le_of_ble_eq_true rfl)
  rw [lg_entry_eq]
  generalize (lg_sl ([.int b9]) ++ List.replicate (2 - (lg_sl ([.int b9])).length) Slot.unset).toArray = ls at hl ⊢
  have hl : lv_has ls 2 [(0, .int b9)] := hl
  refine wq (fun Q hQ => ?_)
  have kc0 : (0 : Int32).toInt = 0 := by decide
  have kc1 : (32 : Int32).toInt = 32 := by decide
  obtain ⟨H, hH⟩ : ∃ H : Heap, H = s.heap := ⟨_, rfl⟩
  obtain ⟨locs, hlc⟩ : ∃ L : List Loc, L = [] := ⟨_, rfl⟩
  have hP : va_P D vwCl [] H := by rw [hH]; exact hP
  have hS : va_S A s.heap H locs := by rw [hH, hlc]; exact hS
  refine wHL hH hlc ?_
  have b_b9 := iB b9
  have hN : ([116, 114, 117, 116, 104, 32, 98, 121, 116, 101, 32, 115, 104, 111, 114, 116, 32, 99, 104, 97, 114, 32, 105, 110, 116, 32, 108, 111, 110, 103, 32, 102, 108, 111, 97, 116, 32, 100, 111, 117, 98, 108, 101, 32, 98, 101, 97, 115, 116, 32, 99, 97, 116, 32, 108, 105, 111, 110, 32, 100, 111, 103, 32, 98, 105, 114, 100, 32, 100, 117, 99, 107, 32, 98, 97, 116, 32, 102, 108, 105, 101, 114, 32, 115, 119, 105, 109, 109, 101, 114] : List Int32).length = 90 := rfl
  have hNT : nmT = ([116, 114, 117, 116, 104, 32, 98, 121, 116, 101, 32, 115, 104, 111, 114, 116, 32, 99, 104, 97, 114, 32, 105, 110, 116, 32, 108, 111, 110, 103, 32, 102, 108, 111, 97, 116, 32, 100, 111, 117, 98, 108, 101, 32, 98, 101, 97, 115, 116, 32, 99, 97, 116, 32, 108, 105, 111, 110, 32, 100, 111, 103, 32, 98, 105, 114, 100, 32, 100, 117, 99, 107, 32, 98, 97, 116, 32, 102, 108, 105, 101, 114, 32, 115, 119, 105, 109, 109, 101, 114] : List Int32) := rfl
  refine lv_iconst (v := 0) hx hb dX0_nameLength_0 (by decide) ?_
  refine lv_istore_n (lv' := [(1, .int 0), (0, .int b9)]) hx hb dX0_nameLength_1 rfl hl (by decide) rfl (fun ls hl => ?_)
  have J2 : ∀ (n2 : Nat) (l1_2 : Int32) (H : Heap) (locs : List Loc) (ls : Array Slot), (0 ≤ l1_2.toInt) → (b9.toInt + l1_2.toInt ≤ 90) → (b9.toInt + l1_2.toInt ≤ nmE b9.toInt.toNat) → (90 - l1_2.toInt < (n2 : Int)) → va_P D vwCl [] H → va_D A [] → va_S A s.heap H locs → lv_has ls 2 [(0, .int b9), (1, .int l1_2)] → W p l e (headSpec (wG yX0_nameLength cX0_nameLength 2 (some .int)) rmX0_nameLength).room s m ([.int b9] : List Value).toArray below meth c H locs 0 0 Q (F0 m 2 ls []) := by
    intro n2
    induction n2 with
    | zero =>
      intro l1_2 H locs ls f2_0 f2_1 f2_2 hm2
      exfalso
      omega
    | succ n2 ih2 =>
      intro l1_2 H locs ls f2_0 f2_1 f2_2 hm2 hP hD hS hl
      refine lv_iload_n hx hb dX0_nameLength_2 rfl (lv_at hl 0 rfl) ?_
      refine lv_iload_n hx hb dX0_nameLength_3 rfl (lv_at hl 1 rfl) ?_
      refine m_iadd (X := b9.toInt) (Y := l1_2.toInt) hx hb dX0_nameLength_4 rfl rfl (fun x4 e_x4 g9 => ?_)
      obtain ⟨k_x4, g_x4⟩ := g9
      have b_x4 := iB x4
      try (have q_x4 : x4.toInt = b9.toInt + l1_2.toInt := (by omega); clear g_x4 k_x4)
      refine va_ldcS hx hb hown (ld_28 hE) dX0_nameLength_5 ?_
      refine call_iP (As := []) (rest := [.int x4]) ⟨hx, hb, hml, hown, hts⟩ (tJ0_length_8abf5 (l := l) 28 so_28 ) (cwV 0 hts (gV (wr57 _ (List.mem_of_getElem? (i := 23) rfl)) (wr11 _ (List.mem_of_getElem? (i := 0) rfl)) (wr11 _ (List.mem_of_getElem? (i := 1) rfl)) (wr10 _ (List.mem_of_getElem? (i := 10) rfl)) (wr11 _ (List.mem_of_getElem? (i := 2) rfl))) rfl rfl rfl (by decide +kernel) ⟨Nat.le_of_ble_eq_true rfl, Nat.le_of_ble_eq_true rfl⟩) (sRecv (hE.str so_28) hS) (hK.sub [] rfl) hP hD hE hS hA rfl hl.1 rfl (Nat.le_of_ble_eq_true rfl) dX0_nameLength_7 ⟨Nat.le_of_ble_eq_true rfl, Nat.le_of_ble_eq_true rfl⟩ (fun r7 w9 H locs hw7 hP hD hS => ?_)
      obtain ⟨rfl, hw7_0⟩ := hw7
      have b_r7 := iB r7
      refine m_icmp_ge (X := x4.toInt) (Y := r7.toInt) (tgt := 32) hx hb dX0_nameLength_10 (by decide) rfl rfl (fun c10 => ?_) (fun c10 => ?_)
      · skip
        refine lv_iload_n hx hb dX0_nameLength_32 rfl (lv_at hl 1 rfl) ?_
        subst hAe
        rw [hQ]
        exact W.iret (v := l1_2) hx hb hr (fun t ht hW => ⟨⟨l1_2, _, rfl, ⟨rfl, by first | assumption | omega | (intros; omega) | decide, by first | assumption | omega | (intros; omega) | decide, by first | (have h9 := nmE_all b9.toInt.toNat (by omega); omega) | (have h9 := he9.2 (Or.inr (by omega)); omega)⟩, by rw [ht]; exact hP, va_K.moved hW.alike hK, hD⟩, hS.F ht⟩) hS.2.2 dX0_nameLength_33
      · skip
        refine va_ldcS hx hb hown (ld_28 hE) dX0_nameLength_13 ?_
        refine lv_iload_n hx hb dX0_nameLength_15 rfl (lv_at hl 0 rfl) ?_
        refine lv_iload_n hx hb dX0_nameLength_16 rfl (lv_at hl 1 rfl) ?_
        refine m_iadd (X := b9.toInt) (Y := l1_2.toInt) hx hb dX0_nameLength_17 rfl rfl (fun x17 e_x17 g9 => ?_)
        obtain ⟨k_x17, g_x17⟩ := g9
        have b_x17 := iB x17
        try (have q_x17 : x17.toInt = b9.toInt + l1_2.toInt := (by omega); clear g_x17 k_x17)
        refine call_iP (As := [.int x17]) (rest := []) ⟨hx, hb, hml, hown, hts⟩ (tJ0_charAt_5068e (l := l) 28 so_28 x17 (by first | assumption | omega | (intros; omega) | decide) (by first | assumption | omega | (intros; omega) | decide)) (cwV 1 hts (gV (wr58 _ (List.mem_of_getElem? (i := 0) rfl)) (wr14 _ (List.mem_of_getElem? (i := 17) rfl)) (wr14 _ (List.mem_of_getElem? (i := 18) rfl)) (wr10 _ (List.mem_of_getElem? (i := 10) rfl)) (wr14 _ (List.mem_of_getElem? (i := 19) rfl))) rfl rfl rfl (by decide +kernel) ⟨Nat.le_of_ble_eq_true rfl, Nat.le_of_ble_eq_true rfl⟩) (sRecv (hE.str so_28) hS) (hK.sub [] rfl) hP hD hE hS hA rfl hl.1 rfl (Nat.le_of_ble_eq_true rfl) dX0_nameLength_18 ⟨Nat.le_of_ble_eq_true rfl, Nat.le_of_ble_eq_true rfl⟩ (fun r18 w9 H locs hw18 hP hD hS => ?_)
        obtain ⟨rfl, hw18_0⟩ := hw18
        have b_r18 := iB r18
        have hc9 : r18.toInt = (nmT.getD (b9.toInt + l1_2.toInt).toNat 0).toInt := by rw [hw18_0, hNT, tnN (i := x17) (by omega), show x17.toInt = b9.toInt + l1_2.toInt by omega]
        have he9 := nmE_one b9.toInt.toNat (by omega) (b9.toInt + l1_2.toInt).toNat (by omega) (by omega) (by omega)
        rw [← hc9] at he9
        refine lv_bipush (v := 32) hx hb dX0_nameLength_21 (by decide) ?_
        refine m_icmp_eq (X := r18.toInt) (Y := 32) (tgt := 32) hx hb dX0_nameLength_23 (by decide) rfl (by decide) (fun c23 => ?_) (fun c23 => ?_)
        · skip
          refine lv_iload_n hx hb dX0_nameLength_32 rfl (lv_at hl 1 rfl) ?_
          subst hAe
          rw [hQ]
          exact W.iret (v := l1_2) hx hb hr (fun t ht hW => ⟨⟨l1_2, _, rfl, ⟨rfl, by first | assumption | omega | (intros; omega) | decide, by first | assumption | omega | (intros; omega) | decide, by first | (have h9 := nmE_all b9.toInt.toNat (by omega); omega) | (have h9 := he9.2 (Or.inr (by omega)); omega)⟩, by rw [ht]; exact hP, va_K.moved hW.alike hK, hD⟩, hS.F ht⟩) hS.2.2 dX0_nameLength_33
        · skip
          obtain ⟨x26, e_x26⟩ : ∃ z : Int32, z = l1_2 + (1 : Int32) := ⟨_, rfl⟩
          obtain ⟨k_x26, g_x26⟩ : ∃ k : Int, x26.toInt = l1_2.toInt + (1) + k * 4294967296 := by rw [e_x26]; exact iAdd l1_2 (1)
          have b_x26 := iB x26
          try (have q_x26 : x26.toInt = l1_2.toInt + (1) := (by omega); clear g_x26 k_x26)
          refine lv_iinc (v := x26) (lv' := [(1, .int x26), (0, .int b9)]) hx hb dX0_nameLength_26 hl (k := 1) rfl (by rw [e_x26]; rfl) (by decide) rfl (fun ls hl => ?_)
          refine lv_goto (tgt := 2) hx hb dX0_nameLength_29 (by decide) ?_
          exact ih2 x26 H locs ls (by first | assumption | omega | (intros; omega) | decide) (by first | assumption | omega | (intros; omega) | decide) (by first | (have h9 : ¬ (((b9.toInt + l1_2.toInt).toNat : Nat) : Int) = nmE b9.toInt.toNat := fun q => (by have h8 := he9.1 q; omega); omega) | (have h9 := nmE_all b9.toInt.toNat (by omega); have z9 : (0 : Int32).toInt = 0 := rfl; omega)) (by omega) hP hD hS (lv_sub hl [1, 0] rfl)
  exact J2 ((90 - (0 : Int32).toInt).toNat + 1) (0 : Int32) H locs ls (by first | assumption | omega | (intros; omega) | decide) (by first | assumption | omega | (intros; omega) | decide) (by first | (have h9 : ¬ (((b9.toInt + l1_2.toInt).toNat : Nat) : Int) = nmE b9.toInt.toNat := fun q => (by have h8 := he9.1 q; omega); omega) | (have h9 := nmE_all b9.toInt.toNat (by omega); have z9 : (0 : Int32).toInt = 0 := rfl; omega)) (by omega) hP hD hS (lv_sub hl [1, 0] rfl)

def rmX0_nameByte : Room := { frames := 120, cells := 0, slots := 0, locals := 2400 }
set_option maxHeartbeats 4000000 in
set_option maxRecDepth 100000 in
theorem tX0_nameByte {l : Launch} {D : va_G} {K : Nat → Nat → Nat} (c9 : Int32) (i9 : Int32) : CtI l yX0_nameByte (wG yX0_nameByte cX0_nameByte 4 (some .int)) rmX0_nameByte D [] K [.int c9, .int i9] [] (fun r w1 => w1 = [] ∧ (ICp c9.toInt → NMq c9.toInt i9.toInt r.toInt)) 0 0 := by
  intro sz
  refine Met.ofW (cc := cX0_nameByte) (maxL := 4) (ret := (some .int)) (by decide) rfl ?_
  intro p e s m args below meth c s₁ B hml hv
  obtain ⟨rfl, hsz, hP, hK, hD0, hE⟩ := hv
  have hx := B.exec
  have hb := B.bytes
  have hr := B.returns
  have hts := atoms_spec (ws := (wG yX0_nameByte cX0_nameByte 4 (some .int))) B.pre
  have hown : s.vm.findClass RX0 = some m.cls := findClass_of_methodNamed B.named
  have hlocks := B.notSynchronized
  subst hsz
  have hD := hD0.self (sz := s.heap.size)
  obtain ⟨A, hAe⟩ : ∃ A : Nat → Prop, A = va_A [] s.heap.size := ⟨_, rfl⟩
  rw [← hAe] at hD hE
  have hA : ∀ q : Nat, s.heap.size ≤ q → A q := fun q h => by rw [hAe]; exact Or.inr h
  have hS : va_S A s.heap s.heap [] := va_S.rf
  have hl := lv_entry ([.int c9, .int i9]) (n := 4) (Nat.le_of_ble_eq_true rfl)
  rw [lg_entry_eq]
  generalize (lg_sl ([.int c9, .int i9]) ++ List.replicate (4 - (lg_sl ([.int c9, .int i9])).length) Slot.unset).toArray = ls at hl ⊢
  have hl : lv_has ls 4 [(0, .int c9), (1, .int i9)] := hl
  refine wq (fun Q hQ => ?_)
  have kc0 : (-1 : Int32).toInt = -1 := by decide
  have kc1 : (2 : Int32).toInt = 2 := by decide
  have kc2 : (20 : Int32).toInt = 20 := by decide
  have kc3 : (91 : Int32).toInt = 91 := by decide
  have kc4 : (93 : Int32).toInt = 93 := by decide
  obtain ⟨H, hH⟩ : ∃ H : Heap, H = s.heap := ⟨_, rfl⟩
  obtain ⟨locs, hlc⟩ : ∃ L : List Loc, L = [] := ⟨_, rfl⟩
  have hP : va_P D vwCl [] H := by rw [hH]; exact hP
  have hS : va_S A s.heap H locs := by rw [hH, hlc]; exact hS
  refine wHL hH hlc ?_
  have b_c9 := iB c9
  have b_i9 := iB i9
  have hN : ([116, 114, 117, 116, 104, 32, 98, 121, 116, 101, 32, 115, 104, 111, 114, 116, 32, 99, 104, 97, 114, 32, 105, 110, 116, 32, 108, 111, 110, 103, 32, 102, 108, 111, 97, 116, 32, 100, 111, 117, 98, 108, 101, 32, 98, 101, 97, 115, 116, 32, 99, 97, 116, 32, 108, 105, 111, 110, 32, 100, 111, 103, 32, 98, 105, 114, 100, 32, 100, 117, 99, 107, 32, 98, 97, 116, 32, 102, 108, 105, 101, 114, 32, 115, 119, 105, 109, 109, 101, 114] : List Int32).length = 90 := rfl
  have hNT : nmT = ([116, 114, 117, 116, 104, 32, 98, 121, 116, 101, 32, 115, 104, 111, 114, 116, 32, 99, 104, 97, 114, 32, 105, 110, 116, 32, 108, 111, 110, 103, 32, 102, 108, 111, 97, 116, 32, 100, 111, 117, 98, 108, 101, 32, 98, 101, 97, 115, 116, 32, 99, 97, 116, 32, 108, 105, 111, 110, 32, 100, 111, 103, 32, 98, 105, 114, 100, 32, 100, 117, 99, 107, 32, 98, 97, 116, 32, 102, 108, 105, 101, 114, 32, 115, 119, 105, 109, 109, 101, 114] : List Int32) := rfl
  refine lv_iload_n hx hb dX0_nameByte_0 rfl (lv_at hl 0 rfl) ?_
  refine lv_bipush (v := 20) hx hb dX0_nameByte_1 (by decide) ?_
  refine m_irem hx hb dX0_nameByte_3 (by decide) (fun x3 e_x3 => ?_)
  have b_x3 := iB x3
  obtain ⟨k_x3, g_x3⟩ := iRemL (x := c9) (y := (20 : Int32)) (z := x3) (Y := 20) (by decide) (by decide) e_x3
  refine call_iSP (As := [.int x3]) (rest := []) ⟨hx, hb, hml, hown, hts⟩ (tX0_nameBegin (l := l) x3) (va_cwS 1 hts (gS (wr57 _ (List.mem_of_getElem? (i := 20) rfl)) (wr57 _ (List.mem_of_getElem? (i := 21) rfl)) (wr19 _ (List.mem_of_getElem? (i := 5) rfl)) (wr57 _ (List.mem_of_getElem? (i := 22) rfl))) rfl rfl rfl (by decide +kernel) ⟨Nat.le_of_ble_eq_true rfl, Nat.le_of_ble_eq_true rfl⟩) (hK.sub [] rfl) hP hD hE hS hA rfl hl.1 rfl (Nat.le_of_ble_eq_true rfl) dX0_nameByte_4 ⟨Nat.le_of_ble_eq_true rfl, Nat.le_of_ble_eq_true rfl⟩ (fun r4 w9 H locs hw4 hP hD hS => ?_)
  obtain ⟨rfl, hw4_0, hw4_1, hw4_2⟩ := hw4
  have b_r4 := iB r4
  refine lv_istore_n (lv' := [(2, .int r4), (0, .int c9), (1, .int i9)]) hx hb dX0_nameByte_7 rfl hl (by decide) rfl (fun ls hl => ?_)
  refine lv_iload_n hx hb dX0_nameByte_8 rfl (lv_at hl 0 rfl) ?_
  refine call_iSP (As := [.int r4]) (rest := []) ⟨hx, hb, hml, hown, hts⟩ (tX0_nameLength (l := l) r4 (by first | assumption | omega | (intros; omega) | decide) (by first | assumption | omega | (intros; omega) | decide)) (va_cwS 1 hts (gS (wr58 _ (List.mem_of_getElem? (i := 1) rfl)) (wr58 _ (List.mem_of_getElem? (i := 2) rfl)) (wr19 _ (List.mem_of_getElem? (i := 5) rfl)) (wr58 _ (List.mem_of_getElem? (i := 3) rfl))) rfl rfl rfl (by decide +kernel) ⟨Nat.le_of_ble_eq_true rfl, Nat.le_of_ble_eq_true rfl⟩) (hK.sub [] rfl) hP hD hE hS hA rfl hl.1 rfl (Nat.le_of_ble_eq_true rfl) dX0_nameByte_9 ⟨Nat.le_of_ble_eq_true rfl, Nat.le_of_ble_eq_true rfl⟩ (fun r9 w9 H locs hw9 hP hD hS => ?_)
  obtain ⟨rfl, hw9_0, hw9_1, hw9_2⟩ := hw9
  have b_r9 := iB r9
  refine lv_istore_n (lv' := [(3, .int r9), (2, .int r4), (0, .int c9), (1, .int i9)]) hx hb dX0_nameByte_12 rfl hl (by decide) rfl (fun ls hl => ?_)
  refine lv_iload_n hx hb dX0_nameByte_13 rfl (lv_at hl 3 rfl) ?_
  refine m_if_lt (X := i9.toInt) (tgt := 29) hx hb dX0_nameByte_14 (by decide) rfl (fun c14 => ?_) (fun c14 => ?_)
  · skip
    refine lv_iconst (v := (-1)) hx hb dX0_nameByte_29 (by decide) ?_
    subst hAe
    rw [hQ]
    exact W.iret (v := (-1)) hx hb hr (fun t ht hW => ⟨⟨(-1), _, rfl, ⟨rfl, by (intro hc; have hi9 := id hc; unfold ICp at hi9; have hx3 : x3.toInt = c9.toInt % 20 := (by omega); have h4 := hw4_2 (by omega) (by omega); have hb9 := nmB_all x3.toInt.toNat (by omega); have hl9 := hw9_2; rw [h4] at hl9; have hn9 : r9.toInt = ((kwL.getD x3.toInt.toNat []).length : Int) := (by omega); have hk9 : kwL.getD x3.toInt.toNat [] = kwL.getD (c9.toInt % 20).toNat [] := (by rw [hx3]); first | exact NMq.bad (by decide) (fun q => by have z := q.2; omega) | exact NMq.out hc (by omega) hk9 (by omega) (by omega) (by decide) | exact NMq.opn hc (by omega) hk9 (by omega) (by omega) (by omega) (by decide) | exact NMq.cls hc (by omega) hk9 (by omega) (by omega) (by omega) (by decide) | exact NMq.chr hc (by omega) hk9 (by omega) (by rw [hw41_0, ← nm_chr x3.toInt.toNat (by omega) i9.toInt.toNat (by have := nm_len x3.toInt.toNat (by omega); omega) (by omega), hNT, tnN (i := x40) (by omega), show x40.toInt.toNat = (nmB x3.toInt.toNat).toNat + i9.toInt.toNat by omega]))⟩, by rw [ht]; exact hP, va_K.moved hW.alike hK, hD⟩, hS.F ht⟩) hS.2.2 dX0_nameByte_30
  · skip
    refine lv_iload_n hx hb dX0_nameByte_17 rfl (lv_at hl 3 rfl) ?_
    refine lv_iload_n hx hb dX0_nameByte_18 rfl (lv_at hl 0 rfl) ?_
    refine lv_iconst (v := 2) hx hb dX0_nameByte_19 (by decide) ?_
    refine lv_iload_n hx hb dX0_nameByte_20 rfl (lv_at hl 2 rfl) ?_
    refine lv_bipush (v := 20) hx hb dX0_nameByte_21 (by decide) ?_
    refine m_idiv hx hb dX0_nameByte_23 (by decide) (fun x23 e_x23 => ?_)
    have b_x23 := iB x23
    obtain ⟨k_x23, g_x23⟩ := iDivL (x := c9) (y := (20 : Int32)) (z := x23) (Y := 20) (by decide) (by decide) e_x23
    refine m_imul (X := 2) (Y := x23.toInt) hx hb dX0_nameByte_24 (by decide) rfl (fun x24 e_x24 g9 => ?_)
    obtain ⟨k_x24, g_x24⟩ := g9
    have b_x24 := iB x24
    try (have q_x24 : x24.toInt = 2 * x23.toInt := (by omega); clear g_x24 k_x24)
    refine m_iadd (X := r9.toInt) (Y := x24.toInt) hx hb dX0_nameByte_25 rfl rfl (fun x25 e_x25 g9 => ?_)
    obtain ⟨k_x25, g_x25⟩ := g9
    have b_x25 := iB x25
    try (have q_x25 : x25.toInt = r9.toInt + x24.toInt := (by omega); clear g_x25 k_x25)
    refine m_icmp_lt (X := i9.toInt) (Y := x25.toInt) (tgt := 31) hx hb dX0_nameByte_26 (by decide) rfl rfl (fun c26 => ?_) (fun c26 => ?_)
    · skip
      refine lv_iload_n hx hb dX0_nameByte_31 rfl (lv_at hl 3 rfl) ?_
      refine lv_iload_n hx hb dX0_nameByte_32 rfl (lv_at hl 0 rfl) ?_
      refine m_icmp_ge (X := i9.toInt) (Y := r9.toInt) (tgt := 45) hx hb dX0_nameByte_33 (by decide) rfl rfl (fun c33 => ?_) (fun c33 => ?_)
      · skip
        refine lv_iload_n hx hb dX0_nameByte_45 rfl (lv_at hl 3 rfl) ?_
        refine lv_iload_n hx hb dX0_nameByte_46 rfl (lv_at hl 0 rfl) ?_
        refine m_isub (X := i9.toInt) (Y := r9.toInt) hx hb dX0_nameByte_47 rfl rfl (fun x47 e_x47 g9 => ?_)
        obtain ⟨k_x47, g_x47⟩ := g9
        have b_x47 := iB x47
        try (have q_x47 : x47.toInt = i9.toInt - r9.toInt := (by omega); clear g_x47 k_x47)
        refine lv_iconst (v := 2) hx hb dX0_nameByte_48 (by decide) ?_
        refine m_irem hx hb dX0_nameByte_49 (by decide) (fun x49 e_x49 => ?_)
        have b_x49 := iB x49
        obtain ⟨k_x49, g_x49⟩ := iRemL (x := x47) (y := (2 : Int32)) (z := x49) (Y := 2) (by decide) (by decide) e_x49
        refine m_if_ne (X := x49.toInt) (tgt := 58) hx hb dX0_nameByte_50 (by decide) rfl (fun c50 => ?_) (fun c50 => ?_)
        · skip
          refine lv_bipush (v := 93) hx hb dX0_nameByte_58 (by decide) ?_
          subst hAe
          rw [hQ]
          exact W.iret (v := 93) hx hb hr (fun t ht hW => ⟨⟨93, _, rfl, ⟨rfl, by (intro hc; have hi9 := id hc; unfold ICp at hi9; have hx3 : x3.toInt = c9.toInt % 20 := (by omega); have h4 := hw4_2 (by omega) (by omega); have hb9 := nmB_all x3.toInt.toNat (by omega); have hl9 := hw9_2; rw [h4] at hl9; have hn9 : r9.toInt = ((kwL.getD x3.toInt.toNat []).length : Int) := (by omega); have hk9 : kwL.getD x3.toInt.toNat [] = kwL.getD (c9.toInt % 20).toNat [] := (by rw [hx3]); first | exact NMq.bad (by decide) (fun q => by have z := q.2; omega) | exact NMq.out hc (by omega) hk9 (by omega) (by omega) (by decide) | exact NMq.opn hc (by omega) hk9 (by omega) (by omega) (by omega) (by decide) | exact NMq.cls hc (by omega) hk9 (by omega) (by omega) (by omega) (by decide) | exact NMq.chr hc (by omega) hk9 (by omega) (by rw [hw41_0, ← nm_chr x3.toInt.toNat (by omega) i9.toInt.toNat (by have := nm_len x3.toInt.toNat (by omega); omega) (by omega), hNT, tnN (i := x40) (by omega), show x40.toInt.toNat = (nmB x3.toInt.toNat).toNat + i9.toInt.toNat by omega]))⟩, by rw [ht]; exact hP, va_K.moved hW.alike hK, hD⟩, hS.F ht⟩) hS.2.2 dX0_nameByte_60
        · skip
          refine lv_bipush (v := 91) hx hb dX0_nameByte_53 (by decide) ?_
          refine lv_goto (tgt := 60) hx hb dX0_nameByte_55 (by decide) ?_
          subst hAe
          rw [hQ]
          exact W.iret (v := 91) hx hb hr (fun t ht hW => ⟨⟨91, _, rfl, ⟨rfl, by (intro hc; have hi9 := id hc; unfold ICp at hi9; have hx3 : x3.toInt = c9.toInt % 20 := (by omega); have h4 := hw4_2 (by omega) (by omega); have hb9 := nmB_all x3.toInt.toNat (by omega); have hl9 := hw9_2; rw [h4] at hl9; have hn9 : r9.toInt = ((kwL.getD x3.toInt.toNat []).length : Int) := (by omega); have hk9 : kwL.getD x3.toInt.toNat [] = kwL.getD (c9.toInt % 20).toNat [] := (by rw [hx3]); first | exact NMq.bad (by decide) (fun q => by have z := q.2; omega) | exact NMq.out hc (by omega) hk9 (by omega) (by omega) (by decide) | exact NMq.opn hc (by omega) hk9 (by omega) (by omega) (by omega) (by decide) | exact NMq.cls hc (by omega) hk9 (by omega) (by omega) (by omega) (by decide) | exact NMq.chr hc (by omega) hk9 (by omega) (by rw [hw41_0, ← nm_chr x3.toInt.toNat (by omega) i9.toInt.toNat (by have := nm_len x3.toInt.toNat (by omega); omega) (by omega), hNT, tnN (i := x40) (by omega), show x40.toInt.toNat = (nmB x3.toInt.toNat).toNat + i9.toInt.toNat by omega]))⟩, by rw [ht]; exact hP, va_K.moved hW.alike hK, hD⟩, hS.F ht⟩) hS.2.2 dX0_nameByte_60
      · skip
        refine va_ldcS hx hb hown (ld_28 hE) dX0_nameByte_36 ?_
        refine lv_iload_n hx hb dX0_nameByte_38 rfl (lv_at hl 1 rfl) ?_
        refine lv_iload_n hx hb dX0_nameByte_39 rfl (lv_at hl 3 rfl) ?_
        refine m_iadd (X := r4.toInt) (Y := i9.toInt) hx hb dX0_nameByte_40 rfl rfl (fun x40 e_x40 g9 => ?_)
        obtain ⟨k_x40, g_x40⟩ := g9
        have b_x40 := iB x40
        try (have q_x40 : x40.toInt = r4.toInt + i9.toInt := (by omega); clear g_x40 k_x40)
        refine call_iP (As := [.int x40]) (rest := []) ⟨hx, hb, hml, hown, hts⟩ (tJ0_charAt_5068e (l := l) 28 so_28 x40 (by first | assumption | omega | (intros; omega) | decide) (by first | assumption | omega | (intros; omega) | decide)) (cwV 1 hts (gV (wr58 _ (List.mem_of_getElem? (i := 0) rfl)) (wr14 _ (List.mem_of_getElem? (i := 17) rfl)) (wr14 _ (List.mem_of_getElem? (i := 18) rfl)) (wr10 _ (List.mem_of_getElem? (i := 10) rfl)) (wr14 _ (List.mem_of_getElem? (i := 19) rfl))) rfl rfl rfl (by decide +kernel) ⟨Nat.le_of_ble_eq_true rfl, Nat.le_of_ble_eq_true rfl⟩) (sRecv (hE.str so_28) hS) (hK.sub [] rfl) hP hD hE hS hA rfl hl.1 rfl (Nat.le_of_ble_eq_true rfl) dX0_nameByte_41 ⟨Nat.le_of_ble_eq_true rfl, Nat.le_of_ble_eq_true rfl⟩ (fun r41 w9 H locs hw41 hP hD hS => ?_)
        obtain ⟨rfl, hw41_0⟩ := hw41
        have b_r41 := iB r41
        subst hAe
        rw [hQ]
        exact W.iret (v := r41) hx hb hr (fun t ht hW => ⟨⟨r41, _, rfl, ⟨rfl, by (intro hc; have hi9 := id hc; unfold ICp at hi9; have hx3 : x3.toInt = c9.toInt % 20 := (by omega); have h4 := hw4_2 (by omega) (by omega); have hb9 := nmB_all x3.toInt.toNat (by omega); have hl9 := hw9_2; rw [h4] at hl9; have hn9 : r9.toInt = ((kwL.getD x3.toInt.toNat []).length : Int) := (by omega); have hk9 : kwL.getD x3.toInt.toNat [] = kwL.getD (c9.toInt % 20).toNat [] := (by rw [hx3]); first | exact NMq.bad (by decide) (fun q => by have z := q.2; omega) | exact NMq.out hc (by omega) hk9 (by omega) (by omega) (by decide) | exact NMq.opn hc (by omega) hk9 (by omega) (by omega) (by omega) (by decide) | exact NMq.cls hc (by omega) hk9 (by omega) (by omega) (by omega) (by decide) | exact NMq.chr hc (by omega) hk9 (by omega) (by rw [hw41_0, ← nm_chr x3.toInt.toNat (by omega) i9.toInt.toNat (by have := nm_len x3.toInt.toNat (by omega); omega) (by omega), hNT, tnN (i := x40) (by omega), show x40.toInt.toNat = (nmB x3.toInt.toNat).toNat + i9.toInt.toNat by omega]))⟩, by rw [ht]; exact hP, va_K.moved hW.alike hK, hD⟩, hS.F ht⟩) hS.2.2 dX0_nameByte_44
    · skip
      refine lv_iconst (v := (-1)) hx hb dX0_nameByte_29 (by decide) ?_
      subst hAe
      rw [hQ]
      exact W.iret (v := (-1)) hx hb hr (fun t ht hW => ⟨⟨(-1), _, rfl, ⟨rfl, by (intro hc; have hi9 := id hc; unfold ICp at hi9; have hx3 : x3.toInt = c9.toInt % 20 := (by omega); have h4 := hw4_2 (by omega) (by omega); have hb9 := nmB_all x3.toInt.toNat (by omega); have hl9 := hw9_2; rw [h4] at hl9; have hn9 : r9.toInt = ((kwL.getD x3.toInt.toNat []).length : Int) := (by omega); have hk9 : kwL.getD x3.toInt.toNat [] = kwL.getD (c9.toInt % 20).toNat [] := (by rw [hx3]); first | exact NMq.bad (by decide) (fun q => by have z := q.2; omega) | exact NMq.out hc (by omega) hk9 (by omega) (by omega) (by decide) | exact NMq.opn hc (by omega) hk9 (by omega) (by omega) (by omega) (by decide) | exact NMq.cls hc (by omega) hk9 (by omega) (by omega) (by omega) (by decide) | exact NMq.chr hc (by omega) hk9 (by omega) (by rw [hw41_0, ← nm_chr x3.toInt.toNat (by omega) i9.toInt.toNat (by have := nm_len x3.toInt.toNat (by omega); omega) (by omega), hNT, tnN (i := x40) (by omega), show x40.toInt.toNat = (nmB x3.toInt.toNat).toNat + i9.toInt.toNat by omega]))⟩, by rw [ht]; exact hP, va_K.moved hW.alike hK, hD⟩, hS.F ht⟩) hS.2.2 dX0_nameByte_30
