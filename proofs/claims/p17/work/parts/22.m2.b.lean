def rmX10_word : Room := { frames := 100, cells := 0, slots := 0, locals := 2000 }
set_option maxHeartbeats 4000000 in
set_option maxRecDepth 100000 in
theorem tX10_word {l : Launch} {D : va_G} {K : Nat → Nat → Nat} (s9 : Nat) {tx_s9 : List Int32} (hs_s9 : sOf s9 tx_s9) : CtJ l yX10_word (wG yX10_word cX10_word 4 (some .long)) rmX10_word D [] K [.ref (K 0 s9)] [] (fun r w1 => w1 = []) 0 0 := by
  intro sz
  refine Met.ofW (cc := cX10_word) (maxL := 4) (ret := (some .long)) (by decide) rfl ?_
  intro p e s m args below meth c s₁ B hml hv
  obtain ⟨rfl, hsz, hP, hK, hD0, hE⟩ := hv
  have hx := B.exec
  have hb := B.bytes
  have hr := B.returns
  have hts := atoms_spec (ws := (wG yX10_word cX10_word 4 (some .long))) B.pre
  have hown : s.vm.findClass RX10 = some m.cls := findClass_of_methodNamed B.named
  have hlocks := B.notSynchronized
  subst hsz
  have hD := hD0.self (sz := s.heap.size)
  obtain ⟨A, hAe⟩ : ∃ A : Nat → Prop, A = va_A [] s.heap.size := ⟨_, rfl⟩
  rw [← hAe] at hD hE
  have hA : ∀ q : Nat, s.heap.size ≤ q → A q := fun q h => by rw [hAe]; exact Or.inr h
  have hS : va_S A s.heap s.heap [] := va_S.rf
  have hl := lv_entry ([.ref (K 0 s9)]) (n := 4) (Nat.le_of_ble_eq_true rfl)
  rw [lg_entry_eq]
  generalize (lg_sl ([.ref (K 0 s9)]) ++ List.replicate (4 - (lg_sl ([.ref (K 0 s9)])).length) Slot.unset).toArray = ls at hl ⊢
  have hl : lv_has ls 4 [(0, .ref (K 0 s9))] := hl
  refine wq (fun Q hQ => ?_)
  have kc0 : (0 : Int32).toInt = 0 := by decide
  have kc1 : (0 : Int64).toInt = 0 := by decide
  have kc2 : (32 : Int64).toInt = 32 := by decide
  have kc3 : (96 : Int64).toInt = 96 := by decide
  have k_23_17 := hts (.constantLong RX10 139 (32)) (List.mem_cons_of_mem _ (wr23 _ (List.mem_of_getElem? (i := 17) rfl)))
  have k_23_18 := hts (.constantLong RX10 145 (96)) (List.mem_cons_of_mem _ (wr23 _ (List.mem_of_getElem? (i := 18) rfl)))
  obtain ⟨H, hH⟩ : ∃ H : Heap, H = s.heap := ⟨_, rfl⟩
  obtain ⟨locs, hlc⟩ : ∃ L : List Loc, L = [] := ⟨_, rfl⟩
  have hP : va_P D vwCl [] H := by rw [hH]; exact hP
  have hS : va_S A s.heap H locs := by rw [hH, hlc]; exact hS
  refine wHL hH hlc ?_
  have st_s9 := hE.str hs_s9
  have ln_s9 := sOf_len hs_s9
  refine lv_lconst (v := 0) hx hb dX10_word_0 (by decide) ?_
  refine lv_lstore_n (lv' := [(1, .long 0), (0, .ref (K 0 s9))]) hx hb dX10_word_1 rfl hl (by decide) rfl (fun ls hl => ?_)
  refine lv_iconst (v := 0) hx hb dX10_word_2 (by decide) ?_
  refine lv_istore_n (lv' := [(3, .int 0), (1, .long 0), (0, .ref (K 0 s9))]) hx hb dX10_word_3 rfl hl (by decide) rfl (fun ls hl => ?_)
  have J4 : ∀ (n4 : Nat) (l1_4 : Int64) (l3_4 : Int32) (H : Heap) (locs : List Loc) (ls : Array Slot), (0 ≤ l3_4.toInt) → (l3_4.toInt ≤ (tx_s9.length : Int)) → ((tx_s9.length : Int) - l3_4.toInt < (n4 : Int)) → va_P D vwCl [] H → va_D A [] → va_S A s.heap H locs → lv_has ls 4 [(0, .ref (K 0 s9)), (1, .long l1_4), (3, .int l3_4)] → W p l e (headSpec (wG yX10_word cX10_word 4 (some .long)) rmX10_word).room s m ([.ref (K 0 s9)] : List Value).toArray below meth c H locs 0 0 Q (F0 m 4 ls []) := by
    intro n4
    induction n4 with
    | zero =>
      intro l1_4 l3_4 H locs ls f4_0 f4_1 hm4
      exfalso
      omega
    | succ n4 ih4 =>
      intro l1_4 l3_4 H locs ls f4_0 f4_1 hm4 hP hD hS hl
      refine lv_iload_n hx hb dX10_word_4 rfl (lv_at hl 2 rfl) ?_
      refine lv_aload_n hx hb dX10_word_5 rfl (lv_at hl 0 rfl) ?_
      refine call_iP (As := []) (rest := [.int l3_4]) ⟨hx, hb, hml, hown, hts⟩ (tJ0_length_8abf5 (l := l) s9 hs_s9 ) (cwV 0 hts (gV (wr24 _ (List.mem_of_getElem? (i := 15) rfl)) (wr11 _ (List.mem_of_getElem? (i := 0) rfl)) (wr11 _ (List.mem_of_getElem? (i := 1) rfl)) (wr10 _ (List.mem_of_getElem? (i := 10) rfl)) (wr11 _ (List.mem_of_getElem? (i := 2) rfl))) rfl rfl rfl (by decide +kernel) ⟨Nat.le_of_ble_eq_true rfl, Nat.le_of_ble_eq_true rfl⟩) (sRecv st_s9 hS) (hK.sub [] rfl) hP hD hE hS hA rfl hl.1 rfl (Nat.le_of_ble_eq_true rfl) dX10_word_6 ⟨Nat.le_of_ble_eq_true rfl, Nat.le_of_ble_eq_true rfl⟩ (fun r6 w9 H locs hw6 hP hD hS => ?_)
      obtain ⟨rfl, hw6_0⟩ := hw6
      have b_r6 := iB r6
      refine m_icmp_ge (X := l3_4.toInt) (Y := r6.toInt) (tgt := 35) hx hb dX10_word_9 (by decide) rfl rfl (fun c9 => ?_) (fun c9 => ?_)
      · skip
        refine lv_lload_n hx hb dX10_word_35 rfl (lv_at hl 1 rfl) ?_
        subst hAe
        rw [hQ]
        exact W.lret (v := l1_4) hx hb hr (fun t ht hW => ⟨⟨l1_4, _, rfl, rfl, by rw [ht]; exact hP, va_K.moved hW.alike hK, hD⟩, hS.F ht⟩) hS.2.2 dX10_word_36
      · skip
        refine lv_lload_n hx hb dX10_word_12 rfl (lv_at hl 1 rfl) ?_
        refine lv_ldc2 (v := 32) hx hb hown k_23_17 dX10_word_13 ?_
        refine m_lmul (X := l1_4.toInt) (Y := 32) hx hb dX10_word_16 rfl (by decide) (fun x16 e_x16 g9 => ?_)
        obtain ⟨k_x16, g_x16⟩ := g9
        have b_x16 := jB x16
        try (have q_x16 : x16.toInt = l1_4.toInt * 32 := (by omega); clear g_x16 k_x16)
        refine lv_aload_n hx hb dX10_word_17 rfl (lv_at hl 0 rfl) ?_
        refine lv_iload_n hx hb dX10_word_18 rfl (lv_at hl 2 rfl) ?_
        refine call_iP (As := [.int l3_4]) (rest := [.long x16]) ⟨hx, hb, hml, hown, hts⟩ (tJ0_charAt_5068e (l := l) s9 hs_s9 l3_4 (by first | assumption | omega | (intros; omega) | decide) (by first | assumption | omega | (intros; omega) | decide)) (cwV 1 hts (gV (wr24 _ (List.mem_of_getElem? (i := 16) rfl)) (wr14 _ (List.mem_of_getElem? (i := 17) rfl)) (wr14 _ (List.mem_of_getElem? (i := 18) rfl)) (wr10 _ (List.mem_of_getElem? (i := 10) rfl)) (wr14 _ (List.mem_of_getElem? (i := 19) rfl))) rfl rfl rfl (by decide +kernel) ⟨Nat.le_of_ble_eq_true rfl, Nat.le_of_ble_eq_true rfl⟩) (sRecv st_s9 hS) (hK.sub [] rfl) hP hD hE hS hA rfl hl.1 rfl (Nat.le_of_ble_eq_true rfl) dX10_word_19 ⟨Nat.le_of_ble_eq_true rfl, Nat.le_of_ble_eq_true rfl⟩ (fun r19 w9 H locs hw19 hP hD hS => ?_)
        obtain ⟨rfl, hw19_0⟩ := hw19
        have b_r19 := iB r19
        refine m_i2l (X := r19.toInt) hx hb dX10_word_22 rfl (fun x22 e_x22 g_x22 => ?_)
        refine m_ladd (X := x16.toInt) (Y := x22.toInt) hx hb dX10_word_23 rfl rfl (fun x23 e_x23 g9 => ?_)
        obtain ⟨k_x23, g_x23⟩ := g9
        have b_x23 := jB x23
        try (have q_x23 : x23.toInt = x16.toInt + x22.toInt := (by omega); clear g_x23 k_x23)
        refine lv_ldc2 (v := 96) hx hb hown k_23_18 dX10_word_24 ?_
        refine m_lsub (X := x23.toInt) (Y := 96) hx hb dX10_word_27 rfl (by decide) (fun x27 e_x27 g9 => ?_)
        obtain ⟨k_x27, g_x27⟩ := g9
        have b_x27 := jB x27
        try (have q_x27 : x27.toInt = x23.toInt - 96 := (by omega); clear g_x27 k_x27)
        refine lv_lstore_n (lv' := [(1, .long x27), (0, .ref (K 0 s9)), (3, .int l3_4)]) hx hb dX10_word_28 rfl hl (by decide) rfl (fun ls hl => ?_)
        obtain ⟨x29, e_x29⟩ : ∃ z : Int32, z = l3_4 + (1 : Int32) := ⟨_, rfl⟩
        obtain ⟨k_x29, g_x29⟩ : ∃ k : Int, x29.toInt = l3_4.toInt + (1) + k * 4294967296 := by rw [e_x29]; exact iAdd l3_4 (1)
        have b_x29 := iB x29
        try (have q_x29 : x29.toInt = l3_4.toInt + (1) := (by omega); clear g_x29 k_x29)
        refine lv_iinc (v := x29) (lv' := [(3, .int x29), (1, .long x27), (0, .ref (K 0 s9))]) hx hb dX10_word_29 hl (k := 2) rfl (by rw [e_x29]; rfl) (by decide) rfl (fun ls hl => ?_)
        refine lv_goto (tgt := 4) hx hb dX10_word_32 (by decide) ?_
        exact ih4 x27 x29 H locs ls (by first | assumption | omega | (intros; omega) | decide) (by first | assumption | omega | (intros; omega) | decide) (by omega) hP hD hS (lv_sub hl [2, 1, 0] rfl)
  exact J4 (((tx_s9.length : Int) - (0 : Int32).toInt).toNat + 1) (0 : Int64) (0 : Int32) H locs ls (by first | assumption | omega | (intros; omega) | decide) (by first | assumption | omega | (intros; omega) | decide) (by omega) hP hD hS (lv_sub hl [2, 1, 0] rfl)

def rmX10_kindWord : Room := { frames := 20, cells := 0, slots := 0, locals := 400 }
set_option maxHeartbeats 4000000 in
set_option maxRecDepth 100000 in
theorem tX10_kindWord {l : Launch} {D : va_G} {K : Nat → Nat → Nat} (k9 : Int32) : CtR l yX10_kindWord (wG yX10_kindWord cX10_kindWord 1 (some (.object "java/lang/String"))) rmX10_kindWord D [] K [.int k9] [] (fun r w1 => w1 = [] ∧ ∃ (ri : Nat) (tx : List Int32), r = K 0 ri ∧ sOf ri tx ∧ (0 ≤ k9.toInt → k9.toInt ≤ 16 → tx = kwL.getD k9.toNatClampNeg [])) 0 0 := by
  intro sz
  refine Met.ofW (cc := cX10_kindWord) (maxL := 1) (ret := (some (.object "java/lang/String"))) (by decide) rfl ?_
  intro p e s m args below meth c s₁ B hml hv
  obtain ⟨rfl, hsz, hP, hK, hD0, hE⟩ := hv
  have hx := B.exec
  have hb := B.bytes
  have hr := B.returns
  have hts := atoms_spec (ws := (wG yX10_kindWord cX10_kindWord 1 (some (.object "java/lang/String")))) B.pre
  have hown : s.vm.findClass RX10 = some m.cls := findClass_of_methodNamed B.named
  have hlocks := B.notSynchronized
  subst hsz
  have hD := hD0.self (sz := s.heap.size)
  obtain ⟨A, hAe⟩ : ∃ A : Nat → Prop, A = va_A [] s.heap.size := ⟨_, rfl⟩
  rw [← hAe] at hD hE
  have hA : ∀ q : Nat, s.heap.size ≤ q → A q := fun q h => by rw [hAe]; exact Or.inr h
  have hS : va_S A s.heap s.heap [] := va_S.rf
  have hl := lv_entry ([.int k9]) (n := 1) (Nat.le_of_ble_eq_true rfl)
  rw [lg_entry_eq]
  generalize (lg_sl ([.int k9]) ++ List.replicate (1 - (lg_sl ([.int k9])).length) Slot.unset).toArray = ls at hl ⊢
  have hl : lv_has ls 1 [(0, .int k9)] := hl
  refine wq (fun Q hQ => ?_)
  obtain ⟨H, hH⟩ : ∃ H : Heap, H = s.heap := ⟨_, rfl⟩
  obtain ⟨locs, hlc⟩ : ∃ L : List Loc, L = [] := ⟨_, rfl⟩
  have hP : va_P D vwCl [] H := by rw [hH]; exact hP
  have hS : va_S A s.heap H locs := by rw [hH, hlc]; exact hS
  refine wHL hH hlc ?_
  have b_k9 := iB k9
  refine lv_iload_n hx hb dX10_kindWord_0 rfl (lv_at hl 0 rfl) ?_
  rcases (show (k9.toInt < 0 ∨ 15 < k9.toInt) ∨ k9.toInt = 0 ∨ k9.toInt = 1 ∨ k9.toInt = 2 ∨ k9.toInt = 3 ∨ k9.toInt = 4 ∨ k9.toInt = 5 ∨ k9.toInt = 6 ∨ k9.toInt = 7 ∨ k9.toInt = 8 ∨ k9.toInt = 9 ∨ k9.toInt = 10 ∨ k9.toInt = 11 ∨ k9.toInt = 12 ∨ k9.toInt = 13 ∨ k9.toInt = 14 ∨ k9.toInt = 15 by omega) with c1 | c1 | c1 | c1 | c1 | c1 | c1 | c1 | c1 | c1 | c1 | c1 | c1 | c1 | c1 | c1 | c1
  · skip
    refine lv_tableOut (tgt := 128) hx hb dX10_kindWord_1 c1 (by decide) ?_
    refine va_ldcS hx hb hown (ld_62 hE) dX10_kindWord_128 ?_
    subst hAe
    rw [hQ]
    exact W.aret (v := .ref (K 0 62)) hx hb hr (Or.inl ⟨_, rfl⟩) (Or.inr ⟨_, rfl⟩) (fun t ht hW => ⟨⟨_, _, rfl, trivial, ⟨⟨rfl, 62, [115, 119, 105, 109, 109, 101, 114], rfl, so_62, by (intro h1 h2; have h3 := tn (i := k9) h1; rw [show k9.toNatClampNeg = 16 by omega]; rfl)⟩, by rw [ht]; exact hP, va_K.moved hW.alike hK, hD⟩⟩, hS.F ht⟩) hS.2.2 dX10_kindWord_130
  · skip
    refine lv_tableIn (tgt := 80) (off := 79) hx hb dX10_kindWord_1 (by omega) (by omega) (by rw [c1]; rfl) (by decide) ?_
    refine va_ldcS hx hb hown (ld_46 hE) dX10_kindWord_80 ?_
    subst hAe
    rw [hQ]
    exact W.aret (v := .ref (K 0 46)) hx hb hr (Or.inl ⟨_, rfl⟩) (Or.inr ⟨_, rfl⟩) (fun t ht hW => ⟨⟨_, _, rfl, trivial, ⟨⟨rfl, 46, [116, 114, 117, 116, 104], rfl, so_46, by (intro h1 h2; have h3 := tn (i := k9) h1; rw [show k9.toNatClampNeg = 0 by omega]; rfl)⟩, by rw [ht]; exact hP, va_K.moved hW.alike hK, hD⟩⟩, hS.F ht⟩) hS.2.2 dX10_kindWord_82
  · skip
    refine lv_tableIn (tgt := 83) (off := 82) hx hb dX10_kindWord_1 (by omega) (by omega) (by rw [c1]; rfl) (by decide) ?_
    refine va_ldcS hx hb hown (ld_47 hE) dX10_kindWord_83 ?_
    subst hAe
    rw [hQ]
    exact W.aret (v := .ref (K 0 47)) hx hb hr (Or.inl ⟨_, rfl⟩) (Or.inr ⟨_, rfl⟩) (fun t ht hW => ⟨⟨_, _, rfl, trivial, ⟨⟨rfl, 47, [98, 121, 116, 101], rfl, so_47, by (intro h1 h2; have h3 := tn (i := k9) h1; rw [show k9.toNatClampNeg = 1 by omega]; rfl)⟩, by rw [ht]; exact hP, va_K.moved hW.alike hK, hD⟩⟩, hS.F ht⟩) hS.2.2 dX10_kindWord_85
  · skip
    refine lv_tableIn (tgt := 86) (off := 85) hx hb dX10_kindWord_1 (by omega) (by omega) (by rw [c1]; rfl) (by decide) ?_
    refine va_ldcS hx hb hown (ld_48 hE) dX10_kindWord_86 ?_
    subst hAe
    rw [hQ]
    exact W.aret (v := .ref (K 0 48)) hx hb hr (Or.inl ⟨_, rfl⟩) (Or.inr ⟨_, rfl⟩) (fun t ht hW => ⟨⟨_, _, rfl, trivial, ⟨⟨rfl, 48, [115, 104, 111, 114, 116], rfl, so_48, by (intro h1 h2; have h3 := tn (i := k9) h1; rw [show k9.toNatClampNeg = 2 by omega]; rfl)⟩, by rw [ht]; exact hP, va_K.moved hW.alike hK, hD⟩⟩, hS.F ht⟩) hS.2.2 dX10_kindWord_88
  · skip
    refine lv_tableIn (tgt := 89) (off := 88) hx hb dX10_kindWord_1 (by omega) (by omega) (by rw [c1]; rfl) (by decide) ?_
    refine va_ldcS hx hb hown (ld_49 hE) dX10_kindWord_89 ?_
    subst hAe
    rw [hQ]
    exact W.aret (v := .ref (K 0 49)) hx hb hr (Or.inl ⟨_, rfl⟩) (Or.inr ⟨_, rfl⟩) (fun t ht hW => ⟨⟨_, _, rfl, trivial, ⟨⟨rfl, 49, [99, 104, 97, 114], rfl, so_49, by (intro h1 h2; have h3 := tn (i := k9) h1; rw [show k9.toNatClampNeg = 3 by omega]; rfl)⟩, by rw [ht]; exact hP, va_K.moved hW.alike hK, hD⟩⟩, hS.F ht⟩) hS.2.2 dX10_kindWord_91
  · skip
    refine lv_tableIn (tgt := 92) (off := 91) hx hb dX10_kindWord_1 (by omega) (by omega) (by rw [c1]; rfl) (by decide) ?_
    refine va_ldcS hx hb hown (ld_50 hE) dX10_kindWord_92 ?_
    subst hAe
    rw [hQ]
    exact W.aret (v := .ref (K 0 50)) hx hb hr (Or.inl ⟨_, rfl⟩) (Or.inr ⟨_, rfl⟩) (fun t ht hW => ⟨⟨_, _, rfl, trivial, ⟨⟨rfl, 50, [105, 110, 116], rfl, so_50, by (intro h1 h2; have h3 := tn (i := k9) h1; rw [show k9.toNatClampNeg = 4 by omega]; rfl)⟩, by rw [ht]; exact hP, va_K.moved hW.alike hK, hD⟩⟩, hS.F ht⟩) hS.2.2 dX10_kindWord_94
  · skip
    refine lv_tableIn (tgt := 95) (off := 94) hx hb dX10_kindWord_1 (by omega) (by omega) (by rw [c1]; rfl) (by decide) ?_
    refine va_ldcS hx hb hown (ld_51 hE) dX10_kindWord_95 ?_
    subst hAe
    rw [hQ]
    exact W.aret (v := .ref (K 0 51)) hx hb hr (Or.inl ⟨_, rfl⟩) (Or.inr ⟨_, rfl⟩) (fun t ht hW => ⟨⟨_, _, rfl, trivial, ⟨⟨rfl, 51, [108, 111, 110, 103], rfl, so_51, by (intro h1 h2; have h3 := tn (i := k9) h1; rw [show k9.toNatClampNeg = 5 by omega]; rfl)⟩, by rw [ht]; exact hP, va_K.moved hW.alike hK, hD⟩⟩, hS.F ht⟩) hS.2.2 dX10_kindWord_97
  · skip
    refine lv_tableIn (tgt := 98) (off := 97) hx hb dX10_kindWord_1 (by omega) (by omega) (by rw [c1]; rfl) (by decide) ?_
    refine va_ldcS hx hb hown (ld_52 hE) dX10_kindWord_98 ?_
    subst hAe
    rw [hQ]
    exact W.aret (v := .ref (K 0 52)) hx hb hr (Or.inl ⟨_, rfl⟩) (Or.inr ⟨_, rfl⟩) (fun t ht hW => ⟨⟨_, _, rfl, trivial, ⟨⟨rfl, 52, [102, 108, 111, 97, 116], rfl, so_52, by (intro h1 h2; have h3 := tn (i := k9) h1; rw [show k9.toNatClampNeg = 6 by omega]; rfl)⟩, by rw [ht]; exact hP, va_K.moved hW.alike hK, hD⟩⟩, hS.F ht⟩) hS.2.2 dX10_kindWord_100
  · skip
    refine lv_tableIn (tgt := 101) (off := 100) hx hb dX10_kindWord_1 (by omega) (by omega) (by rw [c1]; rfl) (by decide) ?_
    refine va_ldcS hx hb hown (ld_53 hE) dX10_kindWord_101 ?_
    subst hAe
    rw [hQ]
    exact W.aret (v := .ref (K 0 53)) hx hb hr (Or.inl ⟨_, rfl⟩) (Or.inr ⟨_, rfl⟩) (fun t ht hW => ⟨⟨_, _, rfl, trivial, ⟨⟨rfl, 53, [100, 111, 117, 98, 108, 101], rfl, so_53, by (intro h1 h2; have h3 := tn (i := k9) h1; rw [show k9.toNatClampNeg = 7 by omega]; rfl)⟩, by rw [ht]; exact hP, va_K.moved hW.alike hK, hD⟩⟩, hS.F ht⟩) hS.2.2 dX10_kindWord_103
  · skip
    refine lv_tableIn (tgt := 104) (off := 103) hx hb dX10_kindWord_1 (by omega) (by omega) (by rw [c1]; rfl) (by decide) ?_
    refine va_ldcS hx hb hown (ld_54 hE) dX10_kindWord_104 ?_
    subst hAe
    rw [hQ]
    exact W.aret (v := .ref (K 0 54)) hx hb hr (Or.inl ⟨_, rfl⟩) (Or.inr ⟨_, rfl⟩) (fun t ht hW => ⟨⟨_, _, rfl, trivial, ⟨⟨rfl, 54, [98, 101, 97, 115, 116], rfl, so_54, by (intro h1 h2; have h3 := tn (i := k9) h1; rw [show k9.toNatClampNeg = 8 by omega]; rfl)⟩, by rw [ht]; exact hP, va_K.moved hW.alike hK, hD⟩⟩, hS.F ht⟩) hS.2.2 dX10_kindWord_106
  · skip
    refine lv_tableIn (tgt := 107) (off := 106) hx hb dX10_kindWord_1 (by omega) (by omega) (by rw [c1]; rfl) (by decide) ?_
    refine va_ldcS hx hb hown (ld_55 hE) dX10_kindWord_107 ?_
    subst hAe
    rw [hQ]
    exact W.aret (v := .ref (K 0 55)) hx hb hr (Or.inl ⟨_, rfl⟩) (Or.inr ⟨_, rfl⟩) (fun t ht hW => ⟨⟨_, _, rfl, trivial, ⟨⟨rfl, 55, [99, 97, 116], rfl, so_55, by (intro h1 h2; have h3 := tn (i := k9) h1; rw [show k9.toNatClampNeg = 9 by omega]; rfl)⟩, by rw [ht]; exact hP, va_K.moved hW.alike hK, hD⟩⟩, hS.F ht⟩) hS.2.2 dX10_kindWord_109
  · skip
    refine lv_tableIn (tgt := 110) (off := 109) hx hb dX10_kindWord_1 (by omega) (by omega) (by rw [c1]; rfl) (by decide) ?_
    refine va_ldcS hx hb hown (ld_56 hE) dX10_kindWord_110 ?_
    subst hAe
    rw [hQ]
    exact W.aret (v := .ref (K 0 56)) hx hb hr (Or.inl ⟨_, rfl⟩) (Or.inr ⟨_, rfl⟩) (fun t ht hW => ⟨⟨_, _, rfl, trivial, ⟨⟨rfl, 56, [108, 105, 111, 110], rfl, so_56, by (intro h1 h2; have h3 := tn (i := k9) h1; rw [show k9.toNatClampNeg = 10 by omega]; rfl)⟩, by rw [ht]; exact hP, va_K.moved hW.alike hK, hD⟩⟩, hS.F ht⟩) hS.2.2 dX10_kindWord_112
  · skip
    refine lv_tableIn (tgt := 113) (off := 112) hx hb dX10_kindWord_1 (by omega) (by omega) (by rw [c1]; rfl) (by decide) ?_
    refine va_ldcS hx hb hown (ld_57 hE) dX10_kindWord_113 ?_
    subst hAe
    rw [hQ]
    exact W.aret (v := .ref (K 0 57)) hx hb hr (Or.inl ⟨_, rfl⟩) (Or.inr ⟨_, rfl⟩) (fun t ht hW => ⟨⟨_, _, rfl, trivial, ⟨⟨rfl, 57, [100, 111, 103], rfl, so_57, by (intro h1 h2; have h3 := tn (i := k9) h1; rw [show k9.toNatClampNeg = 11 by omega]; rfl)⟩, by rw [ht]; exact hP, va_K.moved hW.alike hK, hD⟩⟩, hS.F ht⟩) hS.2.2 dX10_kindWord_115
  · skip
    refine lv_tableIn (tgt := 116) (off := 115) hx hb dX10_kindWord_1 (by omega) (by omega) (by rw [c1]; rfl) (by decide) ?_
    refine va_ldcS hx hb hown (ld_58 hE) dX10_kindWord_116 ?_
    subst hAe
    rw [hQ]
    exact W.aret (v := .ref (K 0 58)) hx hb hr (Or.inl ⟨_, rfl⟩) (Or.inr ⟨_, rfl⟩) (fun t ht hW => ⟨⟨_, _, rfl, trivial, ⟨⟨rfl, 58, [98, 105, 114, 100], rfl, so_58, by (intro h1 h2; have h3 := tn (i := k9) h1; rw [show k9.toNatClampNeg = 12 by omega]; rfl)⟩, by rw [ht]; exact hP, va_K.moved hW.alike hK, hD⟩⟩, hS.F ht⟩) hS.2.2 dX10_kindWord_118
  · skip
    refine lv_tableIn (tgt := 119) (off := 118) hx hb dX10_kindWord_1 (by omega) (by omega) (by rw [c1]; rfl) (by decide) ?_
    refine va_ldcS hx hb hown (ld_59 hE) dX10_kindWord_119 ?_
    subst hAe
    rw [hQ]
    exact W.aret (v := .ref (K 0 59)) hx hb hr (Or.inl ⟨_, rfl⟩) (Or.inr ⟨_, rfl⟩) (fun t ht hW => ⟨⟨_, _, rfl, trivial, ⟨⟨rfl, 59, [100, 117, 99, 107], rfl, so_59, by (intro h1 h2; have h3 := tn (i := k9) h1; rw [show k9.toNatClampNeg = 13 by omega]; rfl)⟩, by rw [ht]; exact hP, va_K.moved hW.alike hK, hD⟩⟩, hS.F ht⟩) hS.2.2 dX10_kindWord_121
  · skip
    refine lv_tableIn (tgt := 122) (off := 121) hx hb dX10_kindWord_1 (by omega) (by omega) (by rw [c1]; rfl) (by decide) ?_
    refine va_ldcS hx hb hown (ld_60 hE) dX10_kindWord_122 ?_
    subst hAe
    rw [hQ]
    exact W.aret (v := .ref (K 0 60)) hx hb hr (Or.inl ⟨_, rfl⟩) (Or.inr ⟨_, rfl⟩) (fun t ht hW => ⟨⟨_, _, rfl, trivial, ⟨⟨rfl, 60, [98, 97, 116], rfl, so_60, by (intro h1 h2; have h3 := tn (i := k9) h1; rw [show k9.toNatClampNeg = 14 by omega]; rfl)⟩, by rw [ht]; exact hP, va_K.moved hW.alike hK, hD⟩⟩, hS.F ht⟩) hS.2.2 dX10_kindWord_124
  · skip
    refine lv_tableIn (tgt := 125) (off := 124) hx hb dX10_kindWord_1 (by omega) (by omega) (by rw [c1]; rfl) (by decide) ?_
    refine va_ldcS hx hb hown (ld_61 hE) dX10_kindWord_125 ?_
    subst hAe
    rw [hQ]
    exact W.aret (v := .ref (K 0 61)) hx hb hr (Or.inl ⟨_, rfl⟩) (Or.inr ⟨_, rfl⟩) (fun t ht hW => ⟨⟨_, _, rfl, trivial, ⟨⟨rfl, 61, [102, 108, 105, 101, 114], rfl, so_61, by (intro h1 h2; have h3 := tn (i := k9) h1; rw [show k9.toNatClampNeg = 15 by omega]; rfl)⟩, by rw [ht]; exact hP, va_K.moved hW.alike hK, hD⟩⟩, hS.F ht⟩) hS.2.2 dX10_kindWord_127

def rmX10_kindOf : Room := { frames := 120, cells := 0, slots := 0, locals := 2400 }
set_option maxHeartbeats 4000000 in
set_option maxRecDepth 100000 in
theorem tX10_kindOf {l : Launch} {D : va_G} {K : Nat → Nat → Nat} (w9 : Int64) : CtI l yX10_kindOf (wG yX10_kindOf cX10_kindOf 3 (some .int)) rmX10_kindOf D [] K [.long w9] [] (fun r w1 => w1 = [] ∧ (-1 ≤ r.toInt) ∧ (r.toInt ≤ 16)) 0 0 := by
  intro sz
  refine Met.ofW (cc := cX10_kindOf) (maxL := 3) (ret := (some .int)) (by decide) rfl ?_
  intro p e s m args below meth c s₁ B hml hv
  obtain ⟨rfl, hsz, hP, hK, hD0, hE⟩ := hv
  have hx := B.exec
  have hb := B.bytes
  have hr := B.returns
  have hts := atoms_spec (ws := (wG yX10_kindOf cX10_kindOf 3 (some .int))) B.pre
  have hown : s.vm.findClass RX10 = some m.cls := findClass_of_methodNamed B.named
  have hlocks := B.notSynchronized
  subst hsz
  have hD := hD0.self (sz := s.heap.size)
  obtain ⟨A, hAe⟩ : ∃ A : Nat → Prop, A = va_A [] s.heap.size := ⟨_, rfl⟩
  rw [← hAe] at hD hE
  have hA : ∀ q : Nat, s.heap.size ≤ q → A q := fun q h => by rw [hAe]; exact Or.inr h
  have hS : va_S A s.heap s.heap [] := va_S.rf
  have hl := lv_entry ([.long w9]) (n := 3) (Nat.le_of_ble_eq_true rfl)
  rw [lg_entry_eq]
  generalize (lg_sl ([.long w9]) ++ List.replicate (3 - (lg_sl ([.long w9])).length) Slot.unset).toArray = ls at hl ⊢
  have hl : lv_has ls 3 [(0, .long w9)] := hl
  refine wq (fun Q hQ => ?_)
  have kc0 : (-1 : Int32).toInt = -1 := by decide
  have kc1 : (0 : Int32).toInt = 0 := by decide
  have kc2 : (17 : Int32).toInt = 17 := by decide
  obtain ⟨H, hH⟩ : ∃ H : Heap, H = s.heap := ⟨_, rfl⟩
  obtain ⟨locs, hlc⟩ : ∃ L : List Loc, L = [] := ⟨_, rfl⟩
  have hP : va_P D vwCl [] H := by rw [hH]; exact hP
  have hS : va_S A s.heap H locs := by rw [hH, hlc]; exact hS
  refine wHL hH hlc ?_
  have b_w9 := jB w9
  refine lv_iconst (v := 0) hx hb dX10_kindOf_0 (by decide) ?_
  refine lv_istore_n (lv' := [(2, .int 0), (0, .long w9)]) hx hb dX10_kindOf_1 rfl hl (by decide) rfl (fun ls hl => ?_)
  have J2 : ∀ (n2 : Nat) (l2_2 : Int32) (H : Heap) (locs : List Loc) (ls : Array Slot), (0 ≤ l2_2.toInt) → (l2_2.toInt ≤ 17) → (17 - l2_2.toInt < (n2 : Int)) → va_P D vwCl [] H → va_D A [] → va_S A s.heap H locs → lv_has ls 3 [(0, .long w9), (2, .int l2_2)] → W p l e (headSpec (wG yX10_kindOf cX10_kindOf 3 (some .int)) rmX10_kindOf).room s m ([.long w9] : List Value).toArray below meth c H locs 0 0 Q (F0 m 2 ls []) := by
    intro n2
    induction n2 with
    | zero =>
      intro l2_2 H locs ls f2_0 f2_1 hm2
      exfalso
      omega
    | succ n2 ih2 =>
      intro l2_2 H locs ls f2_0 f2_1 hm2 hP hD hS hl
      refine lv_iload_n hx hb dX10_kindOf_2 rfl (lv_at hl 1 rfl) ?_
      refine lv_bipush (v := 17) hx hb dX10_kindOf_3 (by decide) ?_
      refine m_icmp_ge (X := l2_2.toInt) (Y := 17) (tgt := 28) hx hb dX10_kindOf_5 (by decide) rfl (by decide) (fun c5 => ?_) (fun c5 => ?_)
      · skip
        refine lv_iconst (v := (-1)) hx hb dX10_kindOf_28 (by decide) ?_
        subst hAe
        rw [hQ]
        exact W.iret (v := (-1)) hx hb hr (fun t ht hW => ⟨⟨(-1), _, rfl, ⟨rfl, by first | assumption | omega | (intros; omega) | decide, by first | assumption | omega | (intros; omega) | decide⟩, by rw [ht]; exact hP, va_K.moved hW.alike hK, hD⟩, hS.F ht⟩) hS.2.2 dX10_kindOf_29
      · skip
        refine lv_iload_n hx hb dX10_kindOf_8 rfl (lv_at hl 1 rfl) ?_
        refine call_rSP (As := [.int l2_2]) (rest := []) ⟨hx, hb, hml, hown, hts⟩ (tX10_kindWord (l := l) l2_2) (va_cwS 1 hts (gS (wr29 _ (List.mem_of_getElem? (i := 1) rfl)) (wr29 _ (List.mem_of_getElem? (i := 2) rfl)) (wr1 _ (List.mem_of_getElem? (i := 5) rfl)) (wr29 _ (List.mem_of_getElem? (i := 3) rfl))) rfl rfl rfl (by decide +kernel) ⟨Nat.le_of_ble_eq_true rfl, Nat.le_of_ble_eq_true rfl⟩) (hK.sub [] rfl) hP hD hE hS hA rfl hl.1 rfl (Nat.le_of_ble_eq_true rfl) dX10_kindOf_9 ⟨Nat.le_of_ble_eq_true rfl, Nat.le_of_ble_eq_true rfl⟩ (fun r9 w9 H locs hw9 hP hD hS => ?_)
        obtain ⟨rfl, i_r9, tx_r9, rfl, so_r9, hw9_0⟩ := hw9
        have ln_r9 := sOf_len so_r9
        refine call_jSP (As := [.ref (K 0 i_r9)]) (rest := []) ⟨hx, hb, hml, hown, hts⟩ (tX10_word (l := l) i_r9 so_r9) (va_cwS 1 hts (gS (wr24 _ (List.mem_of_getElem? (i := 12) rfl)) (wr24 _ (List.mem_of_getElem? (i := 13) rfl)) (wr1 _ (List.mem_of_getElem? (i := 5) rfl)) (wr24 _ (List.mem_of_getElem? (i := 14) rfl))) rfl rfl rfl (by decide +kernel) ⟨Nat.le_of_ble_eq_true rfl, Nat.le_of_ble_eq_true rfl⟩) (hK.sub [] rfl) hP hD hE hS hA rfl hl.1 rfl (Nat.le_of_ble_eq_true rfl) dX10_kindOf_12 ⟨Nat.le_of_ble_eq_true rfl, Nat.le_of_ble_eq_true rfl⟩ (fun r12 w9 H locs hw12 hP hD hS => ?_)
        obtain ⟨rfl⟩ := hw12
        have b_r12 := jB r12
        refine lv_lload_n hx hb dX10_kindOf_15 rfl (lv_at hl 0 rfl) ?_
        refine m_lcmp (X := r12.toInt) (Y := w9.toInt) hx hb dX10_kindOf_16 rfl rfl (fun x16 g_x16 => ?_)
        refine m_if_ne (X := x16.toInt) (tgt := 22) hx hb dX10_kindOf_17 (by decide) rfl (fun c17 => ?_) (fun c17 => ?_)
        · skip
          obtain ⟨x22, e_x22⟩ : ∃ z : Int32, z = l2_2 + (1 : Int32) := ⟨_, rfl⟩
          obtain ⟨k_x22, g_x22⟩ : ∃ k : Int, x22.toInt = l2_2.toInt + (1) + k * 4294967296 := by rw [e_x22]; exact iAdd l2_2 (1)
          have b_x22 := iB x22
          try (have q_x22 : x22.toInt = l2_2.toInt + (1) := (by omega); clear g_x22 k_x22)
          refine lv_iinc (v := x22) (lv' := [(2, .int x22), (0, .long w9)]) hx hb dX10_kindOf_22 hl (k := 1) rfl (by rw [e_x22]; rfl) (by decide) rfl (fun ls hl => ?_)
          refine lv_goto (tgt := 2) hx hb dX10_kindOf_25 (by decide) ?_
          exact ih2 x22 H locs ls (by first | assumption | omega | (intros; omega) | decide) (by first | assumption | omega | (intros; omega) | decide) (by omega) hP hD hS (lv_sub hl [1, 0] rfl)
        · skip
          refine lv_iload_n hx hb dX10_kindOf_20 rfl (lv_at hl 1 rfl) ?_
          subst hAe
          rw [hQ]
          exact W.iret (v := l2_2) hx hb hr (fun t ht hW => ⟨⟨l2_2, _, rfl, ⟨rfl, by first | assumption | omega | (intros; omega) | decide, by first | assumption | omega | (intros; omega) | decide⟩, by rw [ht]; exact hP, va_K.moved hW.alike hK, hD⟩, hS.F ht⟩) hS.2.2 dX10_kindOf_21
  exact J2 ((17 - (0 : Int32).toInt).toNat + 1) (0 : Int32) H locs ls (by first | assumption | omega | (intros; omega) | decide) (by first | assumption | omega | (intros; omega) | decide) (by omega) hP hD hS (lv_sub hl [1, 0] rfl)

def rmX10_refusalWord : Room := { frames := 20, cells := 0, slots := 0, locals := 400 }
set_option maxHeartbeats 4000000 in
set_option maxRecDepth 100000 in
theorem tX10_refusalWord {l : Launch} {D : va_G} {K : Nat → Nat → Nat} (k9 : Int32) : CtR l yX10_refusalWord (wG yX10_refusalWord cX10_refusalWord 1 (some (.object "java/lang/String"))) rmX10_refusalWord D [] K [.int k9] [] (fun r w1 => w1 = [] ∧ ∃ (ri : Nat) (tx : List Int32), r = K 0 ri ∧ sOf ri tx) 0 0 := by
  intro sz
  refine Met.ofW (cc := cX10_refusalWord) (maxL := 1) (ret := (some (.object "java/lang/String"))) (by decide) rfl ?_
  intro p e s m args below meth c s₁ B hml hv
  obtain ⟨rfl, hsz, hP, hK, hD0, hE⟩ := hv
  have hx := B.exec
  have hb := B.bytes
  have hr := B.returns
  have hts := atoms_spec (ws := (wG yX10_refusalWord cX10_refusalWord 1 (some (.object "java/lang/String")))) B.pre
  have hown : s.vm.findClass RX10 = some m.cls := findClass_of_methodNamed B.named
  have hlocks := B.notSynchronized
  subst hsz
  have hD := hD0.self (sz := s.heap.size)
  obtain ⟨A, hAe⟩ : ∃ A : Nat → Prop, A = va_A [] s.heap.size := ⟨_, rfl⟩
  rw [← hAe] at hD hE
  have hA : ∀ q : Nat, s.heap.size ≤ q → A q := fun q h => by rw [hAe]; exact Or.inr h
  have hS : va_S A s.heap s.heap [] := va_S.rf
  have hl := lv_entry ([.int k9]) (n := 1) (Nat.le_of_ble_eq_true rfl)
  rw [lg_entry_eq]
  generalize (lg_sl ([.int k9]) ++ List.replicate (1 - (lg_sl ([.int k9])).length) Slot.unset).toArray = ls at hl ⊢
  have hl : lv_has ls 1 [(0, .int k9)] := hl
  refine wq (fun Q hQ => ?_)
  obtain ⟨H, hH⟩ : ∃ H : Heap, H = s.heap := ⟨_, rfl⟩
  obtain ⟨locs, hlc⟩ : ∃ L : List Loc, L = [] := ⟨_, rfl⟩
  have hP : va_P D vwCl [] H := by rw [hH]; exact hP
  have hS : va_S A s.heap H locs := by rw [hH, hlc]; exact hS
  refine wHL hH hlc ?_
  have b_k9 := iB k9
  refine lv_iload_n hx hb dX10_refusalWord_0 rfl (lv_at hl 0 rfl) ?_
  rcases (show (k9.toInt < 1 ∨ 6 < k9.toInt) ∨ k9.toInt = 1 ∨ k9.toInt = 2 ∨ k9.toInt = 3 ∨ k9.toInt = 4 ∨ k9.toInt = 5 ∨ k9.toInt = 6 by omega) with c1 | c1 | c1 | c1 | c1 | c1 | c1
  · skip
    refine lv_tableOut (tgt := 58) hx hb dX10_refusalWord_1 c1 (by decide) ?_
    refine va_ldcS hx hb hown (ld_45 hE) dX10_refusalWord_58 ?_
    subst hAe
    rw [hQ]
    exact W.aret (v := .ref (K 0 45)) hx hb hr (Or.inl ⟨_, rfl⟩) (Or.inr ⟨_, rfl⟩) (fun t ht hW => ⟨⟨_, _, rfl, trivial, ⟨⟨rfl, 45, [108, 97, 114, 103, 101], rfl, so_45⟩, by rw [ht]; exact hP, va_K.moved hW.alike hK, hD⟩⟩, hS.F ht⟩) hS.2.2 dX10_refusalWord_60
  · skip
    refine lv_tableIn (tgt := 40) (off := 39) hx hb dX10_refusalWord_1 (by omega) (by omega) (by rw [c1]; rfl) (by decide) ?_
    refine va_ldcS hx hb hown (ld_39 hE) dX10_refusalWord_40 ?_
    subst hAe
    rw [hQ]
    exact W.aret (v := .ref (K 0 39)) hx hb hr (Or.inl ⟨_, rfl⟩) (Or.inr ⟨_, rfl⟩) (fun t ht hW => ⟨⟨_, _, rfl, trivial, ⟨⟨rfl, 39, [109, 105, 115, 115, 105, 110, 103], rfl, so_39⟩, by rw [ht]; exact hP, va_K.moved hW.alike hK, hD⟩⟩, hS.F ht⟩) hS.2.2 dX10_refusalWord_42
  · skip
    refine lv_tableIn (tgt := 43) (off := 42) hx hb dX10_refusalWord_1 (by omega) (by omega) (by rw [c1]; rfl) (by decide) ?_
    refine va_ldcS hx hb hown (ld_40 hE) dX10_refusalWord_43 ?_
    subst hAe
    rw [hQ]
    exact W.aret (v := .ref (K 0 40)) hx hb hr (Or.inl ⟨_, rfl⟩) (Or.inr ⟨_, rfl⟩) (fun t ht hW => ⟨⟨_, _, rfl, trivial, ⟨⟨rfl, 40, [105, 110, 100, 101, 120], rfl, so_40⟩, by rw [ht]; exact hP, va_K.moved hW.alike hK, hD⟩⟩, hS.F ht⟩) hS.2.2 dX10_refusalWord_45
  · skip
    refine lv_tableIn (tgt := 46) (off := 45) hx hb dX10_refusalWord_1 (by omega) (by omega) (by rw [c1]; rfl) (by decide) ?_
    refine va_ldcS hx hb hown (ld_41 hE) dX10_refusalWord_46 ?_
    subst hAe
    rw [hQ]
    exact W.aret (v := .ref (K 0 41)) hx hb hr (Or.inl ⟨_, rfl⟩) (Or.inr ⟨_, rfl⟩) (fun t ht hW => ⟨⟨_, _, rfl, trivial, ⟨⟨rfl, 41, [115, 105, 122, 101], rfl, so_41⟩, by rw [ht]; exact hP, va_K.moved hW.alike hK, hD⟩⟩, hS.F ht⟩) hS.2.2 dX10_refusalWord_48
  · skip
    refine lv_tableIn (tgt := 49) (off := 48) hx hb dX10_refusalWord_1 (by omega) (by omega) (by rw [c1]; rfl) (by decide) ?_
    refine va_ldcS hx hb hown (ld_42 hE) dX10_refusalWord_49 ?_
    subst hAe
    rw [hQ]
    exact W.aret (v := .ref (K 0 42)) hx hb hr (Or.inl ⟨_, rfl⟩) (Or.inr ⟨_, rfl⟩) (fun t ht hW => ⟨⟨_, _, rfl, trivial, ⟨⟨rfl, 42, [115, 116, 111, 114, 101], rfl, so_42⟩, by rw [ht]; exact hP, va_K.moved hW.alike hK, hD⟩⟩, hS.F ht⟩) hS.2.2 dX10_refusalWord_51
  · skip
    refine lv_tableIn (tgt := 52) (off := 51) hx hb dX10_refusalWord_1 (by omega) (by omega) (by rw [c1]; rfl) (by decide) ?_
    refine va_ldcS hx hb hown (ld_43 hE) dX10_refusalWord_52 ?_
    subst hAe
    rw [hQ]
    exact W.aret (v := .ref (K 0 43)) hx hb hr (Or.inl ⟨_, rfl⟩) (Or.inr ⟨_, rfl⟩) (fun t ht hW => ⟨⟨_, _, rfl, trivial, ⟨⟨rfl, 43, [99, 97, 115, 116], rfl, so_43⟩, by rw [ht]; exact hP, va_K.moved hW.alike hK, hD⟩⟩, hS.F ht⟩) hS.2.2 dX10_refusalWord_54
  · skip
    refine lv_tableIn (tgt := 55) (off := 54) hx hb dX10_refusalWord_1 (by omega) (by omega) (by rw [c1]; rfl) (by decide) ?_
    refine va_ldcS hx hb hown (ld_44 hE) dX10_refusalWord_55 ?_
    subst hAe
    rw [hQ]
    exact W.aret (v := .ref (K 0 44)) hx hb hr (Or.inl ⟨_, rfl⟩) (Or.inr ⟨_, rfl⟩) (fun t ht hW => ⟨⟨_, _, rfl, trivial, ⟨⟨rfl, 44, [117, 110, 108, 105, 107, 101], rfl, so_44⟩, by rw [ht]; exact hP, va_K.moved hW.alike hK, hD⟩⟩, hS.F ht⟩) hS.2.2 dX10_refusalWord_57

def rmX10_refusalOf : Room := { frames := 120, cells := 0, slots := 0, locals := 2400 }
set_option maxHeartbeats 4000000 in
set_option maxRecDepth 100000 in
theorem tX10_refusalOf {l : Launch} {D : va_G} {K : Nat → Nat → Nat} (w9 : Int64) : CtI l yX10_refusalOf (wG yX10_refusalOf cX10_refusalOf 3 (some .int)) rmX10_refusalOf D [] K [.long w9] [] (fun r w1 => w1 = [] ∧ (0 ≤ r.toInt) ∧ (r.toInt ≤ 7)) 0 0 := by
  intro sz
  refine Met.ofW (cc := cX10_refusalOf) (maxL := 3) (ret := (some .int)) (by decide) rfl ?_
  intro p e s m args below meth c s₁ B hml hv
  obtain ⟨rfl, hsz, hP, hK, hD0, hE⟩ := hv
  have hx := B.exec
  have hb := B.bytes
  have hr := B.returns
  have hts := atoms_spec (ws := (wG yX10_refusalOf cX10_refusalOf 3 (some .int))) B.pre
  have hown : s.vm.findClass RX10 = some m.cls := findClass_of_methodNamed B.named
  have hlocks := B.notSynchronized
  subst hsz
  have hD := hD0.self (sz := s.heap.size)
  obtain ⟨A, hAe⟩ : ∃ A : Nat → Prop, A = va_A [] s.heap.size := ⟨_, rfl⟩
  rw [← hAe] at hD hE
  have hA : ∀ q : Nat, s.heap.size ≤ q → A q := fun q h => by rw [hAe]; exact Or.inr h
  have hS : va_S A s.heap s.heap [] := va_S.rf
  have hl := lv_entry ([.long w9]) (n := 3) (Nat.le_of_ble_eq_true rfl)
  rw [lg_entry_eq]
  generalize (lg_sl ([.long w9]) ++ List.replicate (3 - (lg_sl ([.long w9])).length) Slot.unset).toArray = ls at hl ⊢
  have hl : lv_has ls 3 [(0, .long w9)] := hl
  refine wq (fun Q hQ => ?_)
  have kc0 : (0 : Int32).toInt = 0 := by decide
  have kc1 : (1 : Int32).toInt = 1 := by decide
  have kc2 : (7 : Int32).toInt = 7 := by decide
  obtain ⟨H, hH⟩ : ∃ H : Heap, H = s.heap := ⟨_, rfl⟩
  obtain ⟨locs, hlc⟩ : ∃ L : List Loc, L = [] := ⟨_, rfl⟩
  have hP : va_P D vwCl [] H := by rw [hH]; exact hP
  have hS : va_S A s.heap H locs := by rw [hH, hlc]; exact hS
  refine wHL hH hlc ?_
  have b_w9 := jB w9
  refine lv_iconst (v := 1) hx hb dX10_refusalOf_0 (by decide) ?_
  refine lv_istore_n (lv' := [(2, .int 1), (0, .long w9)]) hx hb dX10_refusalOf_1 rfl hl (by decide) rfl (fun ls hl => ?_)
  have J2 : ∀ (n2 : Nat) (l2_2 : Int32) (H : Heap) (locs : List Loc) (ls : Array Slot), (1 ≤ l2_2.toInt) → (l2_2.toInt ≤ 8) → (8 - l2_2.toInt < (n2 : Int)) → va_P D vwCl [] H → va_D A [] → va_S A s.heap H locs → lv_has ls 3 [(0, .long w9), (2, .int l2_2)] → W p l e (headSpec (wG yX10_refusalOf cX10_refusalOf 3 (some .int)) rmX10_refusalOf).room s m ([.long w9] : List Value).toArray below meth c H locs 0 0 Q (F0 m 2 ls []) := by
    intro n2
    induction n2 with
    | zero =>
      intro l2_2 H locs ls f2_0 f2_1 hm2
      exfalso
      omega
    | succ n2 ih2 =>
      intro l2_2 H locs ls f2_0 f2_1 hm2 hP hD hS hl
      refine lv_iload_n hx hb dX10_refusalOf_2 rfl (lv_at hl 1 rfl) ?_
      refine lv_bipush (v := 7) hx hb dX10_refusalOf_3 (by decide) ?_
      refine m_icmp_gt (X := l2_2.toInt) (Y := 7) (tgt := 28) hx hb dX10_refusalOf_5 (by decide) rfl (by decide) (fun c5 => ?_) (fun c5 => ?_)
      · skip
        refine lv_iconst (v := 0) hx hb dX10_refusalOf_28 (by decide) ?_
        subst hAe
        rw [hQ]
        exact W.iret (v := 0) hx hb hr (fun t ht hW => ⟨⟨0, _, rfl, ⟨rfl, by first | assumption | omega | (intros; omega) | decide, by first | assumption | omega | (intros; omega) | decide⟩, by rw [ht]; exact hP, va_K.moved hW.alike hK, hD⟩, hS.F ht⟩) hS.2.2 dX10_refusalOf_29
      · skip
        refine lv_iload_n hx hb dX10_refusalOf_8 rfl (lv_at hl 1 rfl) ?_
        refine call_rSP (As := [.int l2_2]) (rest := []) ⟨hx, hb, hml, hown, hts⟩ (tX10_refusalWord (l := l) l2_2) (va_cwS 1 hts (gS (wr25 _ (List.mem_of_getElem? (i := 15) rfl)) (wr25 _ (List.mem_of_getElem? (i := 16) rfl)) (wr1 _ (List.mem_of_getElem? (i := 5) rfl)) (wr25 _ (List.mem_of_getElem? (i := 17) rfl))) rfl rfl rfl (by decide +kernel) ⟨Nat.le_of_ble_eq_true rfl, Nat.le_of_ble_eq_true rfl⟩) (hK.sub [] rfl) hP hD hE hS hA rfl hl.1 rfl (Nat.le_of_ble_eq_true rfl) dX10_refusalOf_9 ⟨Nat.le_of_ble_eq_true rfl, Nat.le_of_ble_eq_true rfl⟩ (fun r9 w9 H locs hw9 hP hD hS => ?_)
        obtain ⟨rfl, i_r9, tx_r9, rfl, so_r9⟩ := hw9
        have ln_r9 := sOf_len so_r9
        refine call_jSP (As := [.ref (K 0 i_r9)]) (rest := []) ⟨hx, hb, hml, hown, hts⟩ (tX10_word (l := l) i_r9 so_r9) (va_cwS 1 hts (gS (wr24 _ (List.mem_of_getElem? (i := 12) rfl)) (wr24 _ (List.mem_of_getElem? (i := 13) rfl)) (wr1 _ (List.mem_of_getElem? (i := 5) rfl)) (wr24 _ (List.mem_of_getElem? (i := 14) rfl))) rfl rfl rfl (by decide +kernel) ⟨Nat.le_of_ble_eq_true rfl, Nat.le_of_ble_eq_true rfl⟩) (hK.sub [] rfl) hP hD hE hS hA rfl hl.1 rfl (Nat.le_of_ble_eq_true rfl) dX10_refusalOf_12 ⟨Nat.le_of_ble_eq_true rfl, Nat.le_of_ble_eq_true rfl⟩ (fun r12 w9 H locs hw12 hP hD hS => ?_)
        obtain ⟨rfl⟩ := hw12
        have b_r12 := jB r12
        refine lv_lload_n hx hb dX10_refusalOf_15 rfl (lv_at hl 0 rfl) ?_
        refine m_lcmp (X := r12.toInt) (Y := w9.toInt) hx hb dX10_refusalOf_16 rfl rfl (fun x16 g_x16 => ?_)
        refine m_if_ne (X := x16.toInt) (tgt := 22) hx hb dX10_refusalOf_17 (by decide) rfl (fun c17 => ?_) (fun c17 => ?_)
        · skip
          obtain ⟨x22, e_x22⟩ : ∃ z : Int32, z = l2_2 + (1 : Int32) := ⟨_, rfl⟩
          obtain ⟨k_x22, g_x22⟩ : ∃ k : Int, x22.toInt = l2_2.toInt + (1) + k * 4294967296 := by rw [e_x22]; exact iAdd l2_2 (1)
          have b_x22 := iB x22
          try (have q_x22 : x22.toInt = l2_2.toInt + (1) := (by omega); clear g_x22 k_x22)
          refine lv_iinc (v := x22) (lv' := [(2, .int x22), (0, .long w9)]) hx hb dX10_refusalOf_22 hl (k := 1) rfl (by rw [e_x22]; rfl) (by decide) rfl (fun ls hl => ?_)
          refine lv_goto (tgt := 2) hx hb dX10_refusalOf_25 (by decide) ?_
          exact ih2 x22 H locs ls (by first | assumption | omega | (intros; omega) | decide) (by first | assumption | omega | (intros; omega) | decide) (by omega) hP hD hS (lv_sub hl [1, 0] rfl)
        · skip
          refine lv_iload_n hx hb dX10_refusalOf_20 rfl (lv_at hl 1 rfl) ?_
          subst hAe
          rw [hQ]
          exact W.iret (v := l2_2) hx hb hr (fun t ht hW => ⟨⟨l2_2, _, rfl, ⟨rfl, by first | assumption | omega | (intros; omega) | decide, by first | assumption | omega | (intros; omega) | decide⟩, by rw [ht]; exact hP, va_K.moved hW.alike hK, hD⟩, hS.F ht⟩) hS.2.2 dX10_refusalOf_21
  exact J2 ((8 - (1 : Int32).toInt).toNat + 1) (1 : Int32) H locs ls (by first | assumption | omega | (intros; omega) | decide) (by first | assumption | omega | (intros; omega) | decide) (by omega) hP hD hS (lv_sub hl [1, 0] rfl)

def rmX10_actOf : Room := { frames := 120, cells := 0, slots := 0, locals := 2400 }
set_option maxHeartbeats 4000000 in
set_option maxRecDepth 100000 in
theorem tX10_actOf {l : Launch} {D : va_G} {K : Nat → Nat → Nat} (w9 : Int64) : CtI l yX10_actOf (wG yX10_actOf cX10_actOf 2 (some .int)) rmX10_actOf D [] K [.long w9] [] (fun r w1 => w1 = [] ∧ (r.toInt = 0 ∨ r.toInt = 4 ∨ r.toInt = 6 ∨ (8 ≤ r.toInt ∧ r.toInt ≤ 16))) 0 0 := by
  intro sz
  refine Met.ofW (cc := cX10_actOf) (maxL := 2) (ret := (some .int)) (by decide) rfl ?_
  intro p e s m args below meth c s₁ B hml hv
  obtain ⟨rfl, hsz, hP, hK, hD0, hE⟩ := hv
  have hx := B.exec
  have hb := B.bytes
  have hr := B.returns
  have hts := atoms_spec (ws := (wG yX10_actOf cX10_actOf 2 (some .int))) B.pre
  have hown : s.vm.findClass RX10 = some m.cls := findClass_of_methodNamed B.named
  have hlocks := B.notSynchronized
  subst hsz
  have hD := hD0.self (sz := s.heap.size)
  obtain ⟨A, hAe⟩ : ∃ A : Nat → Prop, A = va_A [] s.heap.size := ⟨_, rfl⟩
  rw [← hAe] at hD hE
  have hA : ∀ q : Nat, s.heap.size ≤ q → A q := fun q h => by rw [hAe]; exact Or.inr h
  have hS : va_S A s.heap s.heap [] := va_S.rf
  have hl := lv_entry ([.long w9]) (n := 2) (Nat.le_of_ble_eq_true rfl)
  rw [lg_entry_eq]
  generalize (lg_sl ([.long w9]) ++ List.replicate (2 - (lg_sl ([.long w9])).length) Slot.unset).toArray = ls at hl ⊢
  have hl : lv_has ls 2 [(0, .long w9)] := hl
  refine wq (fun Q hQ => ?_)
  have kc0 : (0 : Int32).toInt = 0 := by decide
  have kc1 : (4 : Int32).toInt = 4 := by decide
  have kc2 : (6 : Int32).toInt = 6 := by decide
  have kc3 : (8 : Int32).toInt = 8 := by decide
  have kc4 : (9 : Int32).toInt = 9 := by decide
  have kc5 : (10 : Int32).toInt = 10 := by decide
  have kc6 : (11 : Int32).toInt = 11 := by decide
  have kc7 : (12 : Int32).toInt = 12 := by decide
  have kc8 : (13 : Int32).toInt = 13 := by decide
  have kc9 : (14 : Int32).toInt = 14 := by decide
  have kc10 : (15 : Int32).toInt = 15 := by decide
  have kc11 : (16 : Int32).toInt = 16 := by decide
  obtain ⟨H, hH⟩ : ∃ H : Heap, H = s.heap := ⟨_, rfl⟩
  obtain ⟨locs, hlc⟩ : ∃ L : List Loc, L = [] := ⟨_, rfl⟩
  have hP : va_P D vwCl [] H := by rw [hH]; exact hP
  have hS : va_S A s.heap H locs := by rw [hH, hlc]; exact hS
  refine wHL hH hlc ?_
  have b_w9 := jB w9
  refine lv_lload_n hx hb dX10_actOf_0 rfl (lv_at hl 0 rfl) ?_
  refine va_ldcS hx hb hown (ld_65 hE) dX10_actOf_1 ?_
  refine call_jSP (As := [.ref (K 0 65)]) (rest := [.long w9]) ⟨hx, hb, hml, hown, hts⟩ (tX10_word (l := l) 65 so_65) (va_cwS 1 hts (gS (wr24 _ (List.mem_of_getElem? (i := 12) rfl)) (wr24 _ (List.mem_of_getElem? (i := 13) rfl)) (wr1 _ (List.mem_of_getElem? (i := 5) rfl)) (wr24 _ (List.mem_of_getElem? (i := 14) rfl))) rfl rfl rfl (by decide +kernel) ⟨Nat.le_of_ble_eq_true rfl, Nat.le_of_ble_eq_true rfl⟩) (hK.sub [] rfl) hP hD hE hS hA rfl hl.1 rfl (Nat.le_of_ble_eq_true rfl) dX10_actOf_3 ⟨Nat.le_of_ble_eq_true rfl, Nat.le_of_ble_eq_true rfl⟩ (fun r3 w9 H locs hw3 hP hD hS => ?_)
  obtain ⟨rfl⟩ := hw3
  have b_r3 := jB r3
  refine m_lcmp (X := w9.toInt) (Y := r3.toInt) hx hb dX10_actOf_6 rfl rfl (fun x6 g_x6 => ?_)
  refine m_if_ne (X := x6.toInt) (tgt := 12) hx hb dX10_actOf_7 (by decide) rfl (fun c7 => ?_) (fun c7 => ?_)
  · skip
    refine lv_lload_n hx hb dX10_actOf_12 rfl (lv_at hl 0 rfl) ?_
    refine va_ldcS hx hb hown (ld_66 hE) dX10_actOf_13 ?_
    refine call_jSP (As := [.ref (K 0 66)]) (rest := [.long w9]) ⟨hx, hb, hml, hown, hts⟩ (tX10_word (l := l) 66 so_66) (va_cwS 1 hts (gS (wr24 _ (List.mem_of_getElem? (i := 12) rfl)) (wr24 _ (List.mem_of_getElem? (i := 13) rfl)) (wr1 _ (List.mem_of_getElem? (i := 5) rfl)) (wr24 _ (List.mem_of_getElem? (i := 14) rfl))) rfl rfl rfl (by decide +kernel) ⟨Nat.le_of_ble_eq_true rfl, Nat.le_of_ble_eq_true rfl⟩) (hK.sub [] rfl) hP hD hE hS hA rfl hl.1 rfl (Nat.le_of_ble_eq_true rfl) dX10_actOf_15 ⟨Nat.le_of_ble_eq_true rfl, Nat.le_of_ble_eq_true rfl⟩ (fun r15 w9 H locs hw15 hP hD hS => ?_)
    obtain ⟨rfl⟩ := hw15
    have b_r15 := jB r15
    refine m_lcmp (X := w9.toInt) (Y := r15.toInt) hx hb dX10_actOf_18 rfl rfl (fun x18 g_x18 => ?_)
    refine m_if_ne (X := x18.toInt) (tgt := 25) hx hb dX10_actOf_19 (by decide) rfl (fun c19 => ?_) (fun c19 => ?_)
    · skip
      refine lv_lload_n hx hb dX10_actOf_25 rfl (lv_at hl 0 rfl) ?_
      refine va_ldcS hx hb hown (ld_67 hE) dX10_actOf_26 ?_
      refine call_jSP (As := [.ref (K 0 67)]) (rest := [.long w9]) ⟨hx, hb, hml, hown, hts⟩ (tX10_word (l := l) 67 so_67) (va_cwS 1 hts (gS (wr24 _ (List.mem_of_getElem? (i := 12) rfl)) (wr24 _ (List.mem_of_getElem? (i := 13) rfl)) (wr1 _ (List.mem_of_getElem? (i := 5) rfl)) (wr24 _ (List.mem_of_getElem? (i := 14) rfl))) rfl rfl rfl (by decide +kernel) ⟨Nat.le_of_ble_eq_true rfl, Nat.le_of_ble_eq_true rfl⟩) (hK.sub [] rfl) hP hD hE hS hA rfl hl.1 rfl (Nat.le_of_ble_eq_true rfl) dX10_actOf_28 ⟨Nat.le_of_ble_eq_true rfl, Nat.le_of_ble_eq_true rfl⟩ (fun r28 w9 H locs hw28 hP hD hS => ?_)
      obtain ⟨rfl⟩ := hw28
      have b_r28 := jB r28
      refine m_lcmp (X := w9.toInt) (Y := r28.toInt) hx hb dX10_actOf_31 rfl rfl (fun x31 g_x31 => ?_)
      refine m_if_ne (X := x31.toInt) (tgt := 38) hx hb dX10_actOf_32 (by decide) rfl (fun c32 => ?_) (fun c32 => ?_)
      · skip
        refine lv_lload_n hx hb dX10_actOf_38 rfl (lv_at hl 0 rfl) ?_
        refine va_ldcS hx hb hown (ld_68 hE) dX10_actOf_39 ?_
        refine call_jSP (As := [.ref (K 0 68)]) (rest := [.long w9]) ⟨hx, hb, hml, hown, hts⟩ (tX10_word (l := l) 68 so_68) (va_cwS 1 hts (gS (wr24 _ (List.mem_of_getElem? (i := 12) rfl)) (wr24 _ (List.mem_of_getElem? (i := 13) rfl)) (wr1 _ (List.mem_of_getElem? (i := 5) rfl)) (wr24 _ (List.mem_of_getElem? (i := 14) rfl))) rfl rfl rfl (by decide +kernel) ⟨Nat.le_of_ble_eq_true rfl, Nat.le_of_ble_eq_true rfl⟩) (hK.sub [] rfl) hP hD hE hS hA rfl hl.1 rfl (Nat.le_of_ble_eq_true rfl) dX10_actOf_41 ⟨Nat.le_of_ble_eq_true rfl, Nat.le_of_ble_eq_true rfl⟩ (fun r41 w9 H locs hw41 hP hD hS => ?_)
        obtain ⟨rfl⟩ := hw41
        have b_r41 := jB r41
        refine m_lcmp (X := w9.toInt) (Y := r41.toInt) hx hb dX10_actOf_44 rfl rfl (fun x44 g_x44 => ?_)
        refine m_if_ne (X := x44.toInt) (tgt := 51) hx hb dX10_actOf_45 (by decide) rfl (fun c45 => ?_) (fun c45 => ?_)
        · skip
          refine lv_lload_n hx hb dX10_actOf_51 rfl (lv_at hl 0 rfl) ?_
          refine va_ldcS hx hb hown (ld_43 hE) dX10_actOf_52 ?_
          refine call_jSP (As := [.ref (K 0 43)]) (rest := [.long w9]) ⟨hx, hb, hml, hown, hts⟩ (tX10_word (l := l) 43 so_43) (va_cwS 1 hts (gS (wr24 _ (List.mem_of_getElem? (i := 12) rfl)) (wr24 _ (List.mem_of_getElem? (i := 13) rfl)) (wr1 _ (List.mem_of_getElem? (i := 5) rfl)) (wr24 _ (List.mem_of_getElem? (i := 14) rfl))) rfl rfl rfl (by decide +kernel) ⟨Nat.le_of_ble_eq_true rfl, Nat.le_of_ble_eq_true rfl⟩) (hK.sub [] rfl) hP hD hE hS hA rfl hl.1 rfl (Nat.le_of_ble_eq_true rfl) dX10_actOf_54 ⟨Nat.le_of_ble_eq_true rfl, Nat.le_of_ble_eq_true rfl⟩ (fun r54 w9 H locs hw54 hP hD hS => ?_)
          obtain ⟨rfl⟩ := hw54
          have b_r54 := jB r54
          refine m_lcmp (X := w9.toInt) (Y := r54.toInt) hx hb dX10_actOf_57 rfl rfl (fun x57 g_x57 => ?_)
          refine m_if_ne (X := x57.toInt) (tgt := 64) hx hb dX10_actOf_58 (by decide) rfl (fun c58 => ?_) (fun c58 => ?_)
          · skip
            refine lv_lload_n hx hb dX10_actOf_64 rfl (lv_at hl 0 rfl) ?_
            refine va_ldcS hx hb hown (ld_69 hE) dX10_actOf_65 ?_
            refine call_jSP (As := [.ref (K 0 69)]) (rest := [.long w9]) ⟨hx, hb, hml, hown, hts⟩ (tX10_word (l := l) 69 so_69) (va_cwS 1 hts (gS (wr24 _ (List.mem_of_getElem? (i := 12) rfl)) (wr24 _ (List.mem_of_getElem? (i := 13) rfl)) (wr1 _ (List.mem_of_getElem? (i := 5) rfl)) (wr24 _ (List.mem_of_getElem? (i := 14) rfl))) rfl rfl rfl (by decide +kernel) ⟨Nat.le_of_ble_eq_true rfl, Nat.le_of_ble_eq_true rfl⟩) (hK.sub [] rfl) hP hD hE hS hA rfl hl.1 rfl (Nat.le_of_ble_eq_true rfl) dX10_actOf_67 ⟨Nat.le_of_ble_eq_true rfl, Nat.le_of_ble_eq_true rfl⟩ (fun r67 w9 H locs hw67 hP hD hS => ?_)
            obtain ⟨rfl⟩ := hw67
            have b_r67 := jB r67
            refine m_lcmp (X := w9.toInt) (Y := r67.toInt) hx hb dX10_actOf_70 rfl rfl (fun x70 g_x70 => ?_)
            refine m_if_ne (X := x70.toInt) (tgt := 77) hx hb dX10_actOf_71 (by decide) rfl (fun c71 => ?_) (fun c71 => ?_)
            · skip
              refine lv_lload_n hx hb dX10_actOf_77 rfl (lv_at hl 0 rfl) ?_
              refine va_ldcS hx hb hown (ld_70 hE) dX10_actOf_78 ?_
              refine call_jSP (As := [.ref (K 0 70)]) (rest := [.long w9]) ⟨hx, hb, hml, hown, hts⟩ (tX10_word (l := l) 70 so_70) (va_cwS 1 hts (gS (wr24 _ (List.mem_of_getElem? (i := 12) rfl)) (wr24 _ (List.mem_of_getElem? (i := 13) rfl)) (wr1 _ (List.mem_of_getElem? (i := 5) rfl)) (wr24 _ (List.mem_of_getElem? (i := 14) rfl))) rfl rfl rfl (by decide +kernel) ⟨Nat.le_of_ble_eq_true rfl, Nat.le_of_ble_eq_true rfl⟩) (hK.sub [] rfl) hP hD hE hS hA rfl hl.1 rfl (Nat.le_of_ble_eq_true rfl) dX10_actOf_80 ⟨Nat.le_of_ble_eq_true rfl, Nat.le_of_ble_eq_true rfl⟩ (fun r80 w9 H locs hw80 hP hD hS => ?_)
              obtain ⟨rfl⟩ := hw80
              have b_r80 := jB r80
              refine m_lcmp (X := w9.toInt) (Y := r80.toInt) hx hb dX10_actOf_83 rfl rfl (fun x83 g_x83 => ?_)
              refine m_if_ne (X := x83.toInt) (tgt := 90) hx hb dX10_actOf_84 (by decide) rfl (fun c84 => ?_) (fun c84 => ?_)
              · skip
                refine lv_lload_n hx hb dX10_actOf_90 rfl (lv_at hl 0 rfl) ?_
                refine va_ldcS hx hb hown (ld_41 hE) dX10_actOf_91 ?_
                refine call_jSP (As := [.ref (K 0 41)]) (rest := [.long w9]) ⟨hx, hb, hml, hown, hts⟩ (tX10_word (l := l) 41 so_41) (va_cwS 1 hts (gS (wr24 _ (List.mem_of_getElem? (i := 12) rfl)) (wr24 _ (List.mem_of_getElem? (i := 13) rfl)) (wr1 _ (List.mem_of_getElem? (i := 5) rfl)) (wr24 _ (List.mem_of_getElem? (i := 14) rfl))) rfl rfl rfl (by decide +kernel) ⟨Nat.le_of_ble_eq_true rfl, Nat.le_of_ble_eq_true rfl⟩) (hK.sub [] rfl) hP hD hE hS hA rfl hl.1 rfl (Nat.le_of_ble_eq_true rfl) dX10_actOf_93 ⟨Nat.le_of_ble_eq_true rfl, Nat.le_of_ble_eq_true rfl⟩ (fun r93 w9 H locs hw93 hP hD hS => ?_)
                obtain ⟨rfl⟩ := hw93
                have b_r93 := jB r93
                refine m_lcmp (X := w9.toInt) (Y := r93.toInt) hx hb dX10_actOf_96 rfl rfl (fun x96 g_x96 => ?_)
                refine m_if_ne (X := x96.toInt) (tgt := 103) hx hb dX10_actOf_97 (by decide) rfl (fun c97 => ?_) (fun c97 => ?_)
                · skip
                  refine lv_lload_n hx hb dX10_actOf_103 rfl (lv_at hl 0 rfl) ?_
                  refine va_ldcS hx hb hown (ld_71 hE) dX10_actOf_104 ?_
                  refine call_jSP (As := [.ref (K 0 71)]) (rest := [.long w9]) ⟨hx, hb, hml, hown, hts⟩ (tX10_word (l := l) 71 so_71) (va_cwS 1 hts (gS (wr24 _ (List.mem_of_getElem? (i := 12) rfl)) (wr24 _ (List.mem_of_getElem? (i := 13) rfl)) (wr1 _ (List.mem_of_getElem? (i := 5) rfl)) (wr24 _ (List.mem_of_getElem? (i := 14) rfl))) rfl rfl rfl (by decide +kernel) ⟨Nat.le_of_ble_eq_true rfl, Nat.le_of_ble_eq_true rfl⟩) (hK.sub [] rfl) hP hD hE hS hA rfl hl.1 rfl (Nat.le_of_ble_eq_true rfl) dX10_actOf_106 ⟨Nat.le_of_ble_eq_true rfl, Nat.le_of_ble_eq_true rfl⟩ (fun r106 w9 H locs hw106 hP hD hS => ?_)
                  obtain ⟨rfl⟩ := hw106
                  have b_r106 := jB r106
                  refine m_lcmp (X := w9.toInt) (Y := r106.toInt) hx hb dX10_actOf_109 rfl rfl (fun x109 g_x109 => ?_)
                  refine m_if_ne (X := x109.toInt) (tgt := 116) hx hb dX10_actOf_110 (by decide) rfl (fun c110 => ?_) (fun c110 => ?_)
                  · skip
                    refine lv_lload_n hx hb dX10_actOf_116 rfl (lv_at hl 0 rfl) ?_
                    refine va_ldcS hx hb hown (ld_72 hE) dX10_actOf_117 ?_
                    refine call_jSP (As := [.ref (K 0 72)]) (rest := [.long w9]) ⟨hx, hb, hml, hown, hts⟩ (tX10_word (l := l) 72 so_72) (va_cwS 1 hts (gS (wr24 _ (List.mem_of_getElem? (i := 12) rfl)) (wr24 _ (List.mem_of_getElem? (i := 13) rfl)) (wr1 _ (List.mem_of_getElem? (i := 5) rfl)) (wr24 _ (List.mem_of_getElem? (i := 14) rfl))) rfl rfl rfl (by decide +kernel) ⟨Nat.le_of_ble_eq_true rfl, Nat.le_of_ble_eq_true rfl⟩) (hK.sub [] rfl) hP hD hE hS hA rfl hl.1 rfl (Nat.le_of_ble_eq_true rfl) dX10_actOf_119 ⟨Nat.le_of_ble_eq_true rfl, Nat.le_of_ble_eq_true rfl⟩ (fun r119 w9 H locs hw119 hP hD hS => ?_)
                    obtain ⟨rfl⟩ := hw119
                    have b_r119 := jB r119
                    refine m_lcmp (X := w9.toInt) (Y := r119.toInt) hx hb dX10_actOf_122 rfl rfl (fun x122 g_x122 => ?_)
                    refine m_if_ne (X := x122.toInt) (tgt := 129) hx hb dX10_actOf_123 (by decide) rfl (fun c123 => ?_) (fun c123 => ?_)
                    · skip
                      refine lv_lload_n hx hb dX10_actOf_129 rfl (lv_at hl 0 rfl) ?_
                      refine va_ldcS hx hb hown (ld_73 hE) dX10_actOf_130 ?_
                      refine call_jSP (As := [.ref (K 0 73)]) (rest := [.long w9]) ⟨hx, hb, hml, hown, hts⟩ (tX10_word (l := l) 73 so_73) (va_cwS 1 hts (gS (wr24 _ (List.mem_of_getElem? (i := 12) rfl)) (wr24 _ (List.mem_of_getElem? (i := 13) rfl)) (wr1 _ (List.mem_of_getElem? (i := 5) rfl)) (wr24 _ (List.mem_of_getElem? (i := 14) rfl))) rfl rfl rfl (by decide +kernel) ⟨Nat.le_of_ble_eq_true rfl, Nat.le_of_ble_eq_true rfl⟩) (hK.sub [] rfl) hP hD hE hS hA rfl hl.1 rfl (Nat.le_of_ble_eq_true rfl) dX10_actOf_132 ⟨Nat.le_of_ble_eq_true rfl, Nat.le_of_ble_eq_true rfl⟩ (fun r132 w9 H locs hw132 hP hD hS => ?_)
                      obtain ⟨rfl⟩ := hw132
                      have b_r132 := jB r132
                      refine m_lcmp (X := w9.toInt) (Y := r132.toInt) hx hb dX10_actOf_135 rfl rfl (fun x135 g_x135 => ?_)
                      refine m_if_ne (X := x135.toInt) (tgt := 144) hx hb dX10_actOf_136 (by decide) rfl (fun c136 => ?_) (fun c136 => ?_)
                      · skip
                        refine lv_iconst (v := 0) hx hb dX10_actOf_144 (by decide) ?_
                        subst hAe
                        rw [hQ]
                        exact W.iret (v := 0) hx hb hr (fun t ht hW => ⟨⟨0, _, rfl, ⟨rfl, by first | assumption | omega | (intros; omega) | decide⟩, by rw [ht]; exact hP, va_K.moved hW.alike hK, hD⟩, hS.F ht⟩) hS.2.2 dX10_actOf_145
                      · skip
                        refine lv_bipush (v := 16) hx hb dX10_actOf_139 (by decide) ?_
                        refine lv_goto (tgt := 145) hx hb dX10_actOf_141 (by decide) ?_
                        subst hAe
                        rw [hQ]
                        exact W.iret (v := 16) hx hb hr (fun t ht hW => ⟨⟨16, _, rfl, ⟨rfl, by first | assumption | omega | (intros; omega) | decide⟩, by rw [ht]; exact hP, va_K.moved hW.alike hK, hD⟩, hS.F ht⟩) hS.2.2 dX10_actOf_145
                    · skip
                      refine lv_bipush (v := 15) hx hb dX10_actOf_126 (by decide) ?_
                      subst hAe
                      rw [hQ]
                      exact W.iret (v := 15) hx hb hr (fun t ht hW => ⟨⟨15, _, rfl, ⟨rfl, by first | assumption | omega | (intros; omega) | decide⟩, by rw [ht]; exact hP, va_K.moved hW.alike hK, hD⟩, hS.F ht⟩) hS.2.2 dX10_actOf_128
                  · skip
                    refine lv_bipush (v := 14) hx hb dX10_actOf_113 (by decide) ?_
                    subst hAe
                    rw [hQ]
                    exact W.iret (v := 14) hx hb hr (fun t ht hW => ⟨⟨14, _, rfl, ⟨rfl, by first | assumption | omega | (intros; omega) | decide⟩, by rw [ht]; exact hP, va_K.moved hW.alike hK, hD⟩, hS.F ht⟩) hS.2.2 dX10_actOf_115
                · skip
                  refine lv_bipush (v := 13) hx hb dX10_actOf_100 (by decide) ?_
                  subst hAe
                  rw [hQ]
                  exact W.iret (v := 13) hx hb hr (fun t ht hW => ⟨⟨13, _, rfl, ⟨rfl, by first | assumption | omega | (intros; omega) | decide⟩, by rw [ht]; exact hP, va_K.moved hW.alike hK, hD⟩, hS.F ht⟩) hS.2.2 dX10_actOf_102
              · skip
                refine lv_bipush (v := 12) hx hb dX10_actOf_87 (by decide) ?_
                subst hAe
                rw [hQ]
                exact W.iret (v := 12) hx hb hr (fun t ht hW => ⟨⟨12, _, rfl, ⟨rfl, by first | assumption | omega | (intros; omega) | decide⟩, by rw [ht]; exact hP, va_K.moved hW.alike hK, hD⟩, hS.F ht⟩) hS.2.2 dX10_actOf_89
            · skip
              refine lv_bipush (v := 11) hx hb dX10_actOf_74 (by decide) ?_
              subst hAe
              rw [hQ]
              exact W.iret (v := 11) hx hb hr (fun t ht hW => ⟨⟨11, _, rfl, ⟨rfl, by first | assumption | omega | (intros; omega) | decide⟩, by rw [ht]; exact hP, va_K.moved hW.alike hK, hD⟩, hS.F ht⟩) hS.2.2 dX10_actOf_76
          · skip
            refine lv_bipush (v := 10) hx hb dX10_actOf_61 (by decide) ?_
            subst hAe
            rw [hQ]
            exact W.iret (v := 10) hx hb hr (fun t ht hW => ⟨⟨10, _, rfl, ⟨rfl, by first | assumption | omega | (intros; omega) | decide⟩, by rw [ht]; exact hP, va_K.moved hW.alike hK, hD⟩, hS.F ht⟩) hS.2.2 dX10_actOf_63
        · skip
          refine lv_bipush (v := 9) hx hb dX10_actOf_48 (by decide) ?_
          subst hAe
          rw [hQ]
          exact W.iret (v := 9) hx hb hr (fun t ht hW => ⟨⟨9, _, rfl, ⟨rfl, by first | assumption | omega | (intros; omega) | decide⟩, by rw [ht]; exact hP, va_K.moved hW.alike hK, hD⟩, hS.F ht⟩) hS.2.2 dX10_actOf_50
      · skip
        refine lv_bipush (v := 8) hx hb dX10_actOf_35 (by decide) ?_
        subst hAe
        rw [hQ]
        exact W.iret (v := 8) hx hb hr (fun t ht hW => ⟨⟨8, _, rfl, ⟨rfl, by first | assumption | omega | (intros; omega) | decide⟩, by rw [ht]; exact hP, va_K.moved hW.alike hK, hD⟩, hS.F ht⟩) hS.2.2 dX10_actOf_37
    · skip
      refine lv_bipush (v := 6) hx hb dX10_actOf_22 (by decide) ?_
      subst hAe
      rw [hQ]
      exact W.iret (v := 6) hx hb hr (fun t ht hW => ⟨⟨6, _, rfl, ⟨rfl, by first | assumption | omega | (intros; omega) | decide⟩, by rw [ht]; exact hP, va_K.moved hW.alike hK, hD⟩, hS.F ht⟩) hS.2.2 dX10_actOf_24
  · skip
    refine lv_iconst (v := 4) hx hb dX10_actOf_10 (by decide) ?_
    subst hAe
    rw [hQ]
    exact W.iret (v := 4) hx hb hr (fun t ht hW => ⟨⟨4, _, rfl, ⟨rfl, by first | assumption | omega | (intros; omega) | decide⟩, by rw [ht]; exact hP, va_K.moved hW.alike hK, hD⟩, hS.F ht⟩) hS.2.2 dX10_actOf_11

def rmX10_firstOf : Room := { frames := 120, cells := 0, slots := 0, locals := 2400 }
set_option maxHeartbeats 4000000 in
set_option maxRecDepth 100000 in
theorem tX10_firstOf {l : Launch} {D : va_G} {K : Nat → Nat → Nat} (w9 : Int64) : CtI l yX10_firstOf (wG yX10_firstOf cX10_firstOf 2 (some .int)) rmX10_firstOf D [] K [.long w9] [] (fun r w1 => w1 = [] ∧ (r.toInt = 0 ∨ r.toInt = 5 ∨ r.toInt = 7 ∨ (17 ≤ r.toInt ∧ r.toInt ≤ 21))) 0 0 := by
  intro sz
  refine Met.ofW (cc := cX10_firstOf) (maxL := 2) (ret := (some .int)) (by decide) rfl ?_
  intro p e s m args below meth c s₁ B hml hv
  obtain ⟨rfl, hsz, hP, hK, hD0, hE⟩ := hv
  have hx := B.exec
  have hb := B.bytes
  have hr := B.returns
  have hts := atoms_spec (ws := (wG yX10_firstOf cX10_firstOf 2 (some .int))) B.pre
  have hown : s.vm.findClass RX10 = some m.cls := findClass_of_methodNamed B.named
  have hlocks := B.notSynchronized
  subst hsz
  have hD := hD0.self (sz := s.heap.size)
  obtain ⟨A, hAe⟩ : ∃ A : Nat → Prop, A = va_A [] s.heap.size := ⟨_, rfl⟩
  rw [← hAe] at hD hE
  have hA : ∀ q : Nat, s.heap.size ≤ q → A q := fun q h => by rw [hAe]; exact Or.inr h
  have hS : va_S A s.heap s.heap [] := va_S.rf
  have hl := lv_entry ([.long w9]) (n := 2) (Nat.le_of_ble_eq_true rfl)
  rw [lg_entry_eq]
  generalize (lg_sl ([.long w9]) ++ List.replicate (2 - (lg_sl ([.long w9])).length) Slot.unset).toArray = ls at hl ⊢
  have hl : lv_has ls 2 [(0, .long w9)] := hl
  refine wq (fun Q hQ => ?_)
  have kc0 : (0 : Int32).toInt = 0 := by decide
  have kc1 : (5 : Int32).toInt = 5 := by decide
  have kc2 : (7 : Int32).toInt = 7 := by decide
  have kc3 : (17 : Int32).toInt = 17 := by decide
  have kc4 : (18 : Int32).toInt = 18 := by decide
  have kc5 : (19 : Int32).toInt = 19 := by decide
  have kc6 : (20 : Int32).toInt = 20 := by decide
  have kc7 : (21 : Int32).toInt = 21 := by decide
  obtain ⟨H, hH⟩ : ∃ H : Heap, H = s.heap := ⟨_, rfl⟩
  obtain ⟨locs, hlc⟩ : ∃ L : List Loc, L = [] := ⟨_, rfl⟩
  have hP : va_P D vwCl [] H := by rw [hH]; exact hP
  have hS : va_S A s.heap H locs := by rw [hH, hlc]; exact hS
  refine wHL hH hlc ?_
  have b_w9 := jB w9
  refine lv_lload_n hx hb dX10_firstOf_0 rfl (lv_at hl 0 rfl) ?_
  refine va_ldcS hx hb hown (ld_31 hE) dX10_firstOf_1 ?_
  refine call_jSP (As := [.ref (K 0 31)]) (rest := [.long w9]) ⟨hx, hb, hml, hown, hts⟩ (tX10_word (l := l) 31 so_31) (va_cwS 1 hts (gS (wr24 _ (List.mem_of_getElem? (i := 12) rfl)) (wr24 _ (List.mem_of_getElem? (i := 13) rfl)) (wr1 _ (List.mem_of_getElem? (i := 5) rfl)) (wr24 _ (List.mem_of_getElem? (i := 14) rfl))) rfl rfl rfl (by decide +kernel) ⟨Nat.le_of_ble_eq_true rfl, Nat.le_of_ble_eq_true rfl⟩) (hK.sub [] rfl) hP hD hE hS hA rfl hl.1 rfl (Nat.le_of_ble_eq_true rfl) dX10_firstOf_3 ⟨Nat.le_of_ble_eq_true rfl, Nat.le_of_ble_eq_true rfl⟩ (fun r3 w9 H locs hw3 hP hD hS => ?_)
  obtain ⟨rfl⟩ := hw3
  have b_r3 := jB r3
  refine m_lcmp (X := w9.toInt) (Y := r3.toInt) hx hb dX10_firstOf_6 rfl rfl (fun x6 g_x6 => ?_)
  refine m_if_ne (X := x6.toInt) (tgt := 12) hx hb dX10_firstOf_7 (by decide) rfl (fun c7 => ?_) (fun c7 => ?_)
  · skip
    refine lv_lload_n hx hb dX10_firstOf_12 rfl (lv_at hl 0 rfl) ?_
    refine va_ldcS hx hb hown (ld_32 hE) dX10_firstOf_13 ?_
    refine call_jSP (As := [.ref (K 0 32)]) (rest := [.long w9]) ⟨hx, hb, hml, hown, hts⟩ (tX10_word (l := l) 32 so_32) (va_cwS 1 hts (gS (wr24 _ (List.mem_of_getElem? (i := 12) rfl)) (wr24 _ (List.mem_of_getElem? (i := 13) rfl)) (wr1 _ (List.mem_of_getElem? (i := 5) rfl)) (wr24 _ (List.mem_of_getElem? (i := 14) rfl))) rfl rfl rfl (by decide +kernel) ⟨Nat.le_of_ble_eq_true rfl, Nat.le_of_ble_eq_true rfl⟩) (hK.sub [] rfl) hP hD hE hS hA rfl hl.1 rfl (Nat.le_of_ble_eq_true rfl) dX10_firstOf_15 ⟨Nat.le_of_ble_eq_true rfl, Nat.le_of_ble_eq_true rfl⟩ (fun r15 w9 H locs hw15 hP hD hS => ?_)
    obtain ⟨rfl⟩ := hw15
    have b_r15 := jB r15
    refine m_lcmp (X := w9.toInt) (Y := r15.toInt) hx hb dX10_firstOf_18 rfl rfl (fun x18 g_x18 => ?_)
    refine m_if_ne (X := x18.toInt) (tgt := 25) hx hb dX10_firstOf_19 (by decide) rfl (fun c19 => ?_) (fun c19 => ?_)
    · skip
      refine lv_lload_n hx hb dX10_firstOf_25 rfl (lv_at hl 0 rfl) ?_
      refine va_ldcS hx hb hown (ld_33 hE) dX10_firstOf_26 ?_
      refine call_jSP (As := [.ref (K 0 33)]) (rest := [.long w9]) ⟨hx, hb, hml, hown, hts⟩ (tX10_word (l := l) 33 so_33) (va_cwS 1 hts (gS (wr24 _ (List.mem_of_getElem? (i := 12) rfl)) (wr24 _ (List.mem_of_getElem? (i := 13) rfl)) (wr1 _ (List.mem_of_getElem? (i := 5) rfl)) (wr24 _ (List.mem_of_getElem? (i := 14) rfl))) rfl rfl rfl (by decide +kernel) ⟨Nat.le_of_ble_eq_true rfl, Nat.le_of_ble_eq_true rfl⟩) (hK.sub [] rfl) hP hD hE hS hA rfl hl.1 rfl (Nat.le_of_ble_eq_true rfl) dX10_firstOf_28 ⟨Nat.le_of_ble_eq_true rfl, Nat.le_of_ble_eq_true rfl⟩ (fun r28 w9 H locs hw28 hP hD hS => ?_)
      obtain ⟨rfl⟩ := hw28
      have b_r28 := jB r28
      refine m_lcmp (X := w9.toInt) (Y := r28.toInt) hx hb dX10_firstOf_31 rfl rfl (fun x31 g_x31 => ?_)
      refine m_if_ne (X := x31.toInt) (tgt := 38) hx hb dX10_firstOf_32 (by decide) rfl (fun c32 => ?_) (fun c32 => ?_)
      · skip
        refine lv_lload_n hx hb dX10_firstOf_38 rfl (lv_at hl 0 rfl) ?_
        refine va_ldcS hx hb hown (ld_34 hE) dX10_firstOf_39 ?_
        refine call_jSP (As := [.ref (K 0 34)]) (rest := [.long w9]) ⟨hx, hb, hml, hown, hts⟩ (tX10_word (l := l) 34 so_34) (va_cwS 1 hts (gS (wr24 _ (List.mem_of_getElem? (i := 12) rfl)) (wr24 _ (List.mem_of_getElem? (i := 13) rfl)) (wr1 _ (List.mem_of_getElem? (i := 5) rfl)) (wr24 _ (List.mem_of_getElem? (i := 14) rfl))) rfl rfl rfl (by decide +kernel) ⟨Nat.le_of_ble_eq_true rfl, Nat.le_of_ble_eq_true rfl⟩) (hK.sub [] rfl) hP hD hE hS hA rfl hl.1 rfl (Nat.le_of_ble_eq_true rfl) dX10_firstOf_41 ⟨Nat.le_of_ble_eq_true rfl, Nat.le_of_ble_eq_true rfl⟩ (fun r41 w9 H locs hw41 hP hD hS => ?_)
        obtain ⟨rfl⟩ := hw41
        have b_r41 := jB r41
        refine m_lcmp (X := w9.toInt) (Y := r41.toInt) hx hb dX10_firstOf_44 rfl rfl (fun x44 g_x44 => ?_)
        refine m_if_ne (X := x44.toInt) (tgt := 51) hx hb dX10_firstOf_45 (by decide) rfl (fun c45 => ?_) (fun c45 => ?_)
        · skip
          refine lv_lload_n hx hb dX10_firstOf_51 rfl (lv_at hl 0 rfl) ?_
          refine va_ldcS hx hb hown (ld_35 hE) dX10_firstOf_52 ?_
          refine call_jSP (As := [.ref (K 0 35)]) (rest := [.long w9]) ⟨hx, hb, hml, hown, hts⟩ (tX10_word (l := l) 35 so_35) (va_cwS 1 hts (gS (wr24 _ (List.mem_of_getElem? (i := 12) rfl)) (wr24 _ (List.mem_of_getElem? (i := 13) rfl)) (wr1 _ (List.mem_of_getElem? (i := 5) rfl)) (wr24 _ (List.mem_of_getElem? (i := 14) rfl))) rfl rfl rfl (by decide +kernel) ⟨Nat.le_of_ble_eq_true rfl, Nat.le_of_ble_eq_true rfl⟩) (hK.sub [] rfl) hP hD hE hS hA rfl hl.1 rfl (Nat.le_of_ble_eq_true rfl) dX10_firstOf_54 ⟨Nat.le_of_ble_eq_true rfl, Nat.le_of_ble_eq_true rfl⟩ (fun r54 w9 H locs hw54 hP hD hS => ?_)
          obtain ⟨rfl⟩ := hw54
          have b_r54 := jB r54
          refine m_lcmp (X := w9.toInt) (Y := r54.toInt) hx hb dX10_firstOf_57 rfl rfl (fun x57 g_x57 => ?_)
          refine m_if_ne (X := x57.toInt) (tgt := 64) hx hb dX10_firstOf_58 (by decide) rfl (fun c58 => ?_) (fun c58 => ?_)
          · skip
            refine lv_lload_n hx hb dX10_firstOf_64 rfl (lv_at hl 0 rfl) ?_
            refine va_ldcS hx hb hown (ld_36 hE) dX10_firstOf_65 ?_
            refine call_jSP (As := [.ref (K 0 36)]) (rest := [.long w9]) ⟨hx, hb, hml, hown, hts⟩ (tX10_word (l := l) 36 so_36) (va_cwS 1 hts (gS (wr24 _ (List.mem_of_getElem? (i := 12) rfl)) (wr24 _ (List.mem_of_getElem? (i := 13) rfl)) (wr1 _ (List.mem_of_getElem? (i := 5) rfl)) (wr24 _ (List.mem_of_getElem? (i := 14) rfl))) rfl rfl rfl (by decide +kernel) ⟨Nat.le_of_ble_eq_true rfl, Nat.le_of_ble_eq_true rfl⟩) (hK.sub [] rfl) hP hD hE hS hA rfl hl.1 rfl (Nat.le_of_ble_eq_true rfl) dX10_firstOf_67 ⟨Nat.le_of_ble_eq_true rfl, Nat.le_of_ble_eq_true rfl⟩ (fun r67 w9 H locs hw67 hP hD hS => ?_)
            obtain ⟨rfl⟩ := hw67
            have b_r67 := jB r67
            refine m_lcmp (X := w9.toInt) (Y := r67.toInt) hx hb dX10_firstOf_70 rfl rfl (fun x70 g_x70 => ?_)
            refine m_if_ne (X := x70.toInt) (tgt := 77) hx hb dX10_firstOf_71 (by decide) rfl (fun c71 => ?_) (fun c71 => ?_)
            · skip
              refine lv_lload_n hx hb dX10_firstOf_77 rfl (lv_at hl 0 rfl) ?_
              refine va_ldcS hx hb hown (ld_37 hE) dX10_firstOf_78 ?_
              refine call_jSP (As := [.ref (K 0 37)]) (rest := [.long w9]) ⟨hx, hb, hml, hown, hts⟩ (tX10_word (l := l) 37 so_37) (va_cwS 1 hts (gS (wr24 _ (List.mem_of_getElem? (i := 12) rfl)) (wr24 _ (List.mem_of_getElem? (i := 13) rfl)) (wr1 _ (List.mem_of_getElem? (i := 5) rfl)) (wr24 _ (List.mem_of_getElem? (i := 14) rfl))) rfl rfl rfl (by decide +kernel) ⟨Nat.le_of_ble_eq_true rfl, Nat.le_of_ble_eq_true rfl⟩) (hK.sub [] rfl) hP hD hE hS hA rfl hl.1 rfl (Nat.le_of_ble_eq_true rfl) dX10_firstOf_80 ⟨Nat.le_of_ble_eq_true rfl, Nat.le_of_ble_eq_true rfl⟩ (fun r80 w9 H locs hw80 hP hD hS => ?_)
              obtain ⟨rfl⟩ := hw80
              have b_r80 := jB r80
              refine m_lcmp (X := w9.toInt) (Y := r80.toInt) hx hb dX10_firstOf_83 rfl rfl (fun x83 g_x83 => ?_)
              refine m_if_ne (X := x83.toInt) (tgt := 92) hx hb dX10_firstOf_84 (by decide) rfl (fun c84 => ?_) (fun c84 => ?_)
              · skip
                refine lv_iconst (v := 0) hx hb dX10_firstOf_92 (by decide) ?_
                subst hAe
                rw [hQ]
                exact W.iret (v := 0) hx hb hr (fun t ht hW => ⟨⟨0, _, rfl, ⟨rfl, by first | assumption | omega | (intros; omega) | decide⟩, by rw [ht]; exact hP, va_K.moved hW.alike hK, hD⟩, hS.F ht⟩) hS.2.2 dX10_firstOf_93
              · skip
                refine lv_bipush (v := 21) hx hb dX10_firstOf_87 (by decide) ?_
                refine lv_goto (tgt := 93) hx hb dX10_firstOf_89 (by decide) ?_
                subst hAe
                rw [hQ]
                exact W.iret (v := 21) hx hb hr (fun t ht hW => ⟨⟨21, _, rfl, ⟨rfl, by first | assumption | omega | (intros; omega) | decide⟩, by rw [ht]; exact hP, va_K.moved hW.alike hK, hD⟩, hS.F ht⟩) hS.2.2 dX10_firstOf_93
            · skip
              refine lv_bipush (v := 20) hx hb dX10_firstOf_74 (by decide) ?_
              subst hAe
              rw [hQ]
              exact W.iret (v := 20) hx hb hr (fun t ht hW => ⟨⟨20, _, rfl, ⟨rfl, by first | assumption | omega | (intros; omega) | decide⟩, by rw [ht]; exact hP, va_K.moved hW.alike hK, hD⟩, hS.F ht⟩) hS.2.2 dX10_firstOf_76
          · skip
            refine lv_bipush (v := 19) hx hb dX10_firstOf_61 (by decide) ?_
            subst hAe
            rw [hQ]
            exact W.iret (v := 19) hx hb hr (fun t ht hW => ⟨⟨19, _, rfl, ⟨rfl, by first | assumption | omega | (intros; omega) | decide⟩, by rw [ht]; exact hP, va_K.moved hW.alike hK, hD⟩, hS.F ht⟩) hS.2.2 dX10_firstOf_63
        · skip
          refine lv_bipush (v := 18) hx hb dX10_firstOf_48 (by decide) ?_
          subst hAe
          rw [hQ]
          exact W.iret (v := 18) hx hb hr (fun t ht hW => ⟨⟨18, _, rfl, ⟨rfl, by first | assumption | omega | (intros; omega) | decide⟩, by rw [ht]; exact hP, va_K.moved hW.alike hK, hD⟩, hS.F ht⟩) hS.2.2 dX10_firstOf_50
      · skip
        refine lv_bipush (v := 17) hx hb dX10_firstOf_35 (by decide) ?_
        subst hAe
        rw [hQ]
        exact W.iret (v := 17) hx hb hr (fun t ht hW => ⟨⟨17, _, rfl, ⟨rfl, by first | assumption | omega | (intros; omega) | decide⟩, by rw [ht]; exact hP, va_K.moved hW.alike hK, hD⟩, hS.F ht⟩) hS.2.2 dX10_firstOf_37
    · skip
      refine lv_bipush (v := 7) hx hb dX10_firstOf_22 (by decide) ?_
      subst hAe
      rw [hQ]
      exact W.iret (v := 7) hx hb hr (fun t ht hW => ⟨⟨7, _, rfl, ⟨rfl, by first | assumption | omega | (intros; omega) | decide⟩, by rw [ht]; exact hP, va_K.moved hW.alike hK, hD⟩, hS.F ht⟩) hS.2.2 dX10_firstOf_24
  · skip
    refine lv_iconst (v := 5) hx hb dX10_firstOf_10 (by decide) ?_
    subst hAe
    rw [hQ]
    exact W.iret (v := 5) hx hb hr (fun t ht hW => ⟨⟨5, _, rfl, ⟨rfl, by first | assumption | omega | (intros; omega) | decide⟩, by rw [ht]; exact hP, va_K.moved hW.alike hK, hD⟩, hS.F ht⟩) hS.2.2 dX10_firstOf_11

def rmX10_isClass : Room := { frames := 20, cells := 0, slots := 0, locals := 400 }
set_option maxHeartbeats 4000000 in
set_option maxRecDepth 100000 in
theorem tX10_isClass {l : Launch} {D : va_G} {K : Nat → Nat → Nat} (c9 : Int32) : CtI l yX10_isClass (wG yX10_isClass cX10_isClass 1 (some .boolean)) rmX10_isClass D [] K [.int c9] [] (fun r w1 => w1 = [] ∧ ((r.toInt = 1 ∧ ICp c9.toInt) ∨ (r.toInt = 0 ∧ ¬ ICp c9.toInt))) 0 0 := by
  intro sz
  refine Met.ofW (cc := cX10_isClass) (maxL := 1) (ret := (some .boolean)) (by decide) rfl ?_
  intro p e s m args below meth c s₁ B hml hv
  obtain ⟨rfl, hsz, hP, hK, hD0, hE⟩ := hv
  have hx := B.exec
  have hb := B.bytes
  have hr := B.returns
  have hts := atoms_spec (ws := (wG yX10_isClass cX10_isClass 1 (some .boolean))) B.pre
  have hown : s.vm.findClass RX10 = some m.cls := findClass_of_methodNamed B.named
  have hlocks := B.notSynchronized
  subst hsz
  have hD := hD0.self (sz := s.heap.size)
  obtain ⟨A, hAe⟩ : ∃ A : Nat → Prop, A = va_A [] s.heap.size := ⟨_, rfl⟩
  rw [← hAe] at hD hE
  have hA : ∀ q : Nat, s.heap.size ≤ q → A q := fun q h => by rw [hAe]; exact Or.inr h
  have hS : va_S A s.heap s.heap [] := va_S.rf
  have hl := lv_entry ([.int c9]) (n := 1) (Nat.le_of_ble_eq_true rfl)
  rw [lg_entry_eq]
  generalize (lg_sl ([.int c9]) ++ List.replicate (1 - (lg_sl ([.int c9])).length) Slot.unset).toArray = ls at hl ⊢
  have hl : lv_has ls 1 [(0, .int c9)] := hl
  refine wq (fun Q hQ => ?_)
  have kc0 : (0 : Int32).toInt = 0 := by decide
  have kc1 : (1 : Int32).toInt = 1 := by decide
  have kc2 : (15 : Int32).toInt = 15 := by decide
  have kc3 : (17 : Int32).toInt = 17 := by decide
  have kc4 : (20 : Int32).toInt = 20 := by decide
  have kc5 : (80 : Int32).toInt = 80 := by decide
  obtain ⟨H, hH⟩ : ∃ H : Heap, H = s.heap := ⟨_, rfl⟩
  obtain ⟨locs, hlc⟩ : ∃ L : List Loc, L = [] := ⟨_, rfl⟩
  have hP : va_P D vwCl [] H := by rw [hH]; exact hP
  have hS : va_S A s.heap H locs := by rw [hH, hlc]; exact hS
  refine wHL hH hlc ?_
  have b_c9 := iB c9
  refine lv_iload_n hx hb dX10_isClass_0 rfl (lv_at hl 0 rfl) ?_
  refine m_if_lt (X := c9.toInt) (tgt := 35) hx hb dX10_isClass_1 (by decide) rfl (fun c1 => ?_) (fun c1 => ?_)
  · skip
    refine lv_iconst (v := 0) hx hb dX10_isClass_35 (by decide) ?_
    subst hAe
    rw [hQ]
    exact W.zret (v := 0) hx hb hr (by decide) (fun t ht hW => ⟨⟨0, _, rfl, ⟨rfl, by first | exact Or.inl ⟨by decide, by unfold ICp; omega⟩ | exact Or.inr ⟨by decide, by unfold ICp; omega⟩⟩, by rw [ht]; exact hP, va_K.moved hW.alike hK, hD⟩, hS.F ht⟩) hS.2.2 dX10_isClass_36
  · skip
    refine lv_iload_n hx hb dX10_isClass_4 rfl (lv_at hl 0 rfl) ?_
    refine lv_bipush (v := 80) hx hb dX10_isClass_5 (by decide) ?_
    refine m_icmp_ge (X := c9.toInt) (Y := 80) (tgt := 35) hx hb dX10_isClass_7 (by decide) rfl (by decide) (fun c7 => ?_) (fun c7 => ?_)
    · skip
      refine lv_iconst (v := 0) hx hb dX10_isClass_35 (by decide) ?_
      subst hAe
      rw [hQ]
      exact W.zret (v := 0) hx hb hr (by decide) (fun t ht hW => ⟨⟨0, _, rfl, ⟨rfl, by first | exact Or.inl ⟨by decide, by unfold ICp; omega⟩ | exact Or.inr ⟨by decide, by unfold ICp; omega⟩⟩, by rw [ht]; exact hP, va_K.moved hW.alike hK, hD⟩, hS.F ht⟩) hS.2.2 dX10_isClass_36
    · skip
      refine lv_iload_n hx hb dX10_isClass_10 rfl (lv_at hl 0 rfl) ?_
      refine lv_bipush (v := 20) hx hb dX10_isClass_11 (by decide) ?_
      refine m_irem hx hb dX10_isClass_13 (by decide) (fun x13 e_x13 => ?_)
      have b_x13 := iB x13
      obtain ⟨k_x13, g_x13⟩ := iRemL (x := c9) (y := (20 : Int32)) (z := x13) (Y := 20) (by decide) (by decide) e_x13
      refine lv_bipush (v := 17) hx hb dX10_isClass_14 (by decide) ?_
      refine m_icmp_ge (X := x13.toInt) (Y := 17) (tgt := 35) hx hb dX10_isClass_16 (by decide) rfl (by decide) (fun c16 => ?_) (fun c16 => ?_)
      · skip
        refine lv_iconst (v := 0) hx hb dX10_isClass_35 (by decide) ?_
        subst hAe
        rw [hQ]
        exact W.zret (v := 0) hx hb hr (by decide) (fun t ht hW => ⟨⟨0, _, rfl, ⟨rfl, by first | exact Or.inl ⟨by decide, by unfold ICp; omega⟩ | exact Or.inr ⟨by decide, by unfold ICp; omega⟩⟩, by rw [ht]; exact hP, va_K.moved hW.alike hK, hD⟩, hS.F ht⟩) hS.2.2 dX10_isClass_36
      · skip
        refine lv_iload_n hx hb dX10_isClass_19 rfl (lv_at hl 0 rfl) ?_
        refine lv_bipush (v := 20) hx hb dX10_isClass_20 (by decide) ?_
        refine m_icmp_ge (X := c9.toInt) (Y := 20) (tgt := 31) hx hb dX10_isClass_22 (by decide) rfl (by decide) (fun c22 => ?_) (fun c22 => ?_)
        · skip
          refine lv_iconst (v := 1) hx hb dX10_isClass_31 (by decide) ?_
          refine lv_goto (tgt := 36) hx hb dX10_isClass_32 (by decide) ?_
          subst hAe
          rw [hQ]
          exact W.zret (v := 1) hx hb hr (by decide) (fun t ht hW => ⟨⟨1, _, rfl, ⟨rfl, by first | exact Or.inl ⟨by decide, by unfold ICp; omega⟩ | exact Or.inr ⟨by decide, by unfold ICp; omega⟩⟩, by rw [ht]; exact hP, va_K.moved hW.alike hK, hD⟩, hS.F ht⟩) hS.2.2 dX10_isClass_36
        · skip
          refine lv_iload_n hx hb dX10_isClass_25 rfl (lv_at hl 0 rfl) ?_
          refine lv_bipush (v := 15) hx hb dX10_isClass_26 (by decide) ?_
          refine m_icmp_ge (X := c9.toInt) (Y := 15) (tgt := 35) hx hb dX10_isClass_28 (by decide) rfl (by decide) (fun c28 => ?_) (fun c28 => ?_)
          · skip
            refine lv_iconst (v := 0) hx hb dX10_isClass_35 (by decide) ?_
            subst hAe
            rw [hQ]
            exact W.zret (v := 0) hx hb hr (by decide) (fun t ht hW => ⟨⟨0, _, rfl, ⟨rfl, by first | exact Or.inl ⟨by decide, by unfold ICp; omega⟩ | exact Or.inr ⟨by decide, by unfold ICp; omega⟩⟩, by rw [ht]; exact hP, va_K.moved hW.alike hK, hD⟩, hS.F ht⟩) hS.2.2 dX10_isClass_36
          · skip
            refine lv_iconst (v := 1) hx hb dX10_isClass_31 (by decide) ?_
            refine lv_goto (tgt := 36) hx hb dX10_isClass_32 (by decide) ?_
            subst hAe
            rw [hQ]
            exact W.zret (v := 1) hx hb hr (by decide) (fun t ht hW => ⟨⟨1, _, rfl, ⟨rfl, by first | exact Or.inl ⟨by decide, by unfold ICp; omega⟩ | exact Or.inr ⟨by decide, by unfold ICp; omega⟩⟩, by rw [ht]; exact hP, va_K.moved hW.alike hK, hD⟩, hS.F ht⟩) hS.2.2 dX10_isClass_36

def rmX10_isKindOf : Room := { frames := 20, cells := 0, slots := 0, locals := 400 }
set_option maxHeartbeats 4000000 in
set_option maxRecDepth 100000 in
theorem tX10_isKindOf {l : Launch} {D : va_G} {K : Nat → Nat → Nat} (a9 : Int32) (b9 : Int32) : CtI l yX10_isKindOf (wG yX10_isKindOf cX10_isKindOf 2 (some .boolean)) rmX10_isKindOf D [] K [.int a9, .int b9] [] (fun r w1 => w1 = [] ∧ ((r.toInt = 1 ∧ KOp a9.toInt b9.toInt) ∨ (r.toInt = 0 ∧ ¬ KOp a9.toInt b9.toInt))) 0 0 := by
  intro sz
  refine Met.ofW (cc := cX10_isKindOf) (maxL := 2) (ret := (some .boolean)) (by decide) rfl ?_
  intro p e s m args below meth c s₁ B hml hv
  obtain ⟨rfl, hsz, hP, hK, hD0, hE⟩ := hv
  have hx := B.exec
  have hb := B.bytes
  have hr := B.returns
  have hts := atoms_spec (ws := (wG yX10_isKindOf cX10_isKindOf 2 (some .boolean))) B.pre
  have hown : s.vm.findClass RX10 = some m.cls := findClass_of_methodNamed B.named
  have hlocks := B.notSynchronized
  subst hsz
  have hD := hD0.self (sz := s.heap.size)
  obtain ⟨A, hAe⟩ : ∃ A : Nat → Prop, A = va_A [] s.heap.size := ⟨_, rfl⟩
  rw [← hAe] at hD hE
  have hA : ∀ q : Nat, s.heap.size ≤ q → A q := fun q h => by rw [hAe]; exact Or.inr h
  have hS : va_S A s.heap s.heap [] := va_S.rf
  have hl := lv_entry ([.int a9, .int b9]) (n := 2) (Nat.le_of_ble_eq_true rfl)
  rw [lg_entry_eq]
  generalize (lg_sl ([.int a9, .int b9]) ++ List.replicate (2 - (lg_sl ([.int a9, .int b9])).length) Slot.unset).toArray = ls at hl ⊢
  have hl : lv_has ls 2 [(0, .int a9), (1, .int b9)] := hl
  refine wq (fun Q hQ => ?_)
  have kc0 : (0 : Int32).toInt = 0 := by decide
  have kc1 : (1 : Int32).toInt = 1 := by decide
  have kc2 : (8 : Int32).toInt = 8 := by decide
  have kc3 : (10 : Int32).toInt = 10 := by decide
  have kc4 : (11 : Int32).toInt = 11 := by decide
  have kc5 : (13 : Int32).toInt = 13 := by decide
  have kc6 : (15 : Int32).toInt = 15 := by decide
  obtain ⟨H, hH⟩ : ∃ H : Heap, H = s.heap := ⟨_, rfl⟩
  obtain ⟨locs, hlc⟩ : ∃ L : List Loc, L = [] := ⟨_, rfl⟩
  have hP : va_P D vwCl [] H := by rw [hH]; exact hP
  have hS : va_S A s.heap H locs := by rw [hH, hlc]; exact hS
  refine wHL hH hlc ?_
  have b_a9 := iB a9
  have b_b9 := iB b9
  refine lv_iload_n hx hb dX10_isKindOf_0 rfl (lv_at hl 0 rfl) ?_
  refine lv_iload_n hx hb dX10_isKindOf_1 rfl (lv_at hl 1 rfl) ?_
  refine m_icmp_ne (X := a9.toInt) (Y := b9.toInt) (tgt := 7) hx hb dX10_isKindOf_2 (by decide) rfl rfl (fun c2 => ?_) (fun c2 => ?_)
  · skip
    refine lv_iload_n hx hb dX10_isKindOf_7 rfl (lv_at hl 1 rfl) ?_
    rcases (show (b9.toInt < 8 ∨ 16 < b9.toInt) ∨ b9.toInt = 8 ∨ b9.toInt = 9 ∨ b9.toInt = 10 ∨ b9.toInt = 11 ∨ b9.toInt = 12 ∨ b9.toInt = 13 ∨ b9.toInt = 14 ∨ b9.toInt = 15 ∨ b9.toInt = 16 by omega) with c8 | c8 | c8 | c8 | c8 | c8 | c8 | c8 | c8 | c8
    · skip
      refine lv_tableOut (tgt := 138) hx hb dX10_isKindOf_8 c8 (by decide) ?_
      refine lv_iconst (v := 0) hx hb dX10_isKindOf_138 (by decide) ?_
      subst hAe
      rw [hQ]
      exact W.zret (v := 0) hx hb hr (by decide) (fun t ht hW => ⟨⟨0, _, rfl, ⟨rfl, by first | exact Or.inl ⟨by decide, by unfold KOp; omega⟩ | exact Or.inr ⟨by decide, by unfold KOp; omega⟩⟩, by rw [ht]; exact hP, va_K.moved hW.alike hK, hD⟩, hS.F ht⟩) hS.2.2 dX10_isKindOf_139
    · skip
      refine lv_tableIn (tgt := 60) (off := 52) hx hb dX10_isKindOf_8 (by omega) (by omega) (by rw [c8]; rfl) (by decide) ?_
      refine lv_iload_n hx hb dX10_isKindOf_60 rfl (lv_at hl 0 rfl) ?_
      refine lv_bipush (v := 8) hx hb dX10_isKindOf_61 (by decide) ?_
      refine m_icmp_le (X := a9.toInt) (Y := 8) (tgt := 76) hx hb dX10_isKindOf_63 (by decide) rfl (by decide) (fun c63 => ?_) (fun c63 => ?_)
      · skip
        refine lv_iconst (v := 0) hx hb dX10_isKindOf_76 (by decide) ?_
        subst hAe
        rw [hQ]
        exact W.zret (v := 0) hx hb hr (by decide) (fun t ht hW => ⟨⟨0, _, rfl, ⟨rfl, by first | exact Or.inl ⟨by decide, by unfold KOp; omega⟩ | exact Or.inr ⟨by decide, by unfold KOp; omega⟩⟩, by rw [ht]; exact hP, va_K.moved hW.alike hK, hD⟩, hS.F ht⟩) hS.2.2 dX10_isKindOf_77
      · skip
        refine lv_iload_n hx hb dX10_isKindOf_66 rfl (lv_at hl 0 rfl) ?_
        refine lv_bipush (v := 15) hx hb dX10_isKindOf_67 (by decide) ?_
        refine m_icmp_ge (X := a9.toInt) (Y := 15) (tgt := 76) hx hb dX10_isKindOf_69 (by decide) rfl (by decide) (fun c69 => ?_) (fun c69 => ?_)
        · skip
          refine lv_iconst (v := 0) hx hb dX10_isKindOf_76 (by decide) ?_
          subst hAe
          rw [hQ]
          exact W.zret (v := 0) hx hb hr (by decide) (fun t ht hW => ⟨⟨0, _, rfl, ⟨rfl, by first | exact Or.inl ⟨by decide, by unfold KOp; omega⟩ | exact Or.inr ⟨by decide, by unfold KOp; omega⟩⟩, by rw [ht]; exact hP, va_K.moved hW.alike hK, hD⟩, hS.F ht⟩) hS.2.2 dX10_isKindOf_77
        · skip
          refine lv_iconst (v := 1) hx hb dX10_isKindOf_72 (by decide) ?_
          refine lv_goto (tgt := 77) hx hb dX10_isKindOf_73 (by decide) ?_
          subst hAe
          rw [hQ]
          exact W.zret (v := 1) hx hb hr (by decide) (fun t ht hW => ⟨⟨1, _, rfl, ⟨rfl, by first | exact Or.inl ⟨by decide, by unfold KOp; omega⟩ | exact Or.inr ⟨by decide, by unfold KOp; omega⟩⟩, by rw [ht]; exact hP, va_K.moved hW.alike hK, hD⟩, hS.F ht⟩) hS.2.2 dX10_isKindOf_77
    · skip
      refine lv_tableIn (tgt := 78) (off := 70) hx hb dX10_isKindOf_8 (by omega) (by omega) (by rw [c8]; rfl) (by decide) ?_
      refine lv_iload_n hx hb dX10_isKindOf_78 rfl (lv_at hl 0 rfl) ?_
      refine lv_bipush (v := 10) hx hb dX10_isKindOf_79 (by decide) ?_
      refine m_icmp_ne (X := a9.toInt) (Y := 10) (tgt := 88) hx hb dX10_isKindOf_81 (by decide) rfl (by decide) (fun c81 => ?_) (fun c81 => ?_)
      · skip
        refine lv_iconst (v := 0) hx hb dX10_isKindOf_88 (by decide) ?_
        subst hAe
        rw [hQ]
        exact W.zret (v := 0) hx hb hr (by decide) (fun t ht hW => ⟨⟨0, _, rfl, ⟨rfl, by first | exact Or.inl ⟨by decide, by unfold KOp; omega⟩ | exact Or.inr ⟨by decide, by unfold KOp; omega⟩⟩, by rw [ht]; exact hP, va_K.moved hW.alike hK, hD⟩, hS.F ht⟩) hS.2.2 dX10_isKindOf_89
      · skip
        refine lv_iconst (v := 1) hx hb dX10_isKindOf_84 (by decide) ?_
        refine lv_goto (tgt := 89) hx hb dX10_isKindOf_85 (by decide) ?_
        subst hAe
        rw [hQ]
        exact W.zret (v := 1) hx hb hr (by decide) (fun t ht hW => ⟨⟨1, _, rfl, ⟨rfl, by first | exact Or.inl ⟨by decide, by unfold KOp; omega⟩ | exact Or.inr ⟨by decide, by unfold KOp; omega⟩⟩, by rw [ht]; exact hP, va_K.moved hW.alike hK, hD⟩, hS.F ht⟩) hS.2.2 dX10_isKindOf_89
    · skip
      refine lv_tableIn (tgt := 138) (off := 130) hx hb dX10_isKindOf_8 (by omega) (by omega) (by rw [c8]; rfl) (by decide) ?_
      refine lv_iconst (v := 0) hx hb dX10_isKindOf_138 (by decide) ?_
      subst hAe
      rw [hQ]
      exact W.zret (v := 0) hx hb hr (by decide) (fun t ht hW => ⟨⟨0, _, rfl, ⟨rfl, by first | exact Or.inl ⟨by decide, by unfold KOp; omega⟩ | exact Or.inr ⟨by decide, by unfold KOp; omega⟩⟩, by rw [ht]; exact hP, va_K.moved hW.alike hK, hD⟩, hS.F ht⟩) hS.2.2 dX10_isKindOf_139
    · skip
      refine lv_tableIn (tgt := 138) (off := 130) hx hb dX10_isKindOf_8 (by omega) (by omega) (by rw [c8]; rfl) (by decide) ?_
      refine lv_iconst (v := 0) hx hb dX10_isKindOf_138 (by decide) ?_
      subst hAe
      rw [hQ]
      exact W.zret (v := 0) hx hb hr (by decide) (fun t ht hW => ⟨⟨0, _, rfl, ⟨rfl, by first | exact Or.inl ⟨by decide, by unfold KOp; omega⟩ | exact Or.inr ⟨by decide, by unfold KOp; omega⟩⟩, by rw [ht]; exact hP, va_K.moved hW.alike hK, hD⟩, hS.F ht⟩) hS.2.2 dX10_isKindOf_139
    · skip
      refine lv_tableIn (tgt := 90) (off := 82) hx hb dX10_isKindOf_8 (by omega) (by omega) (by rw [c8]; rfl) (by decide) ?_
      refine lv_iload_n hx hb dX10_isKindOf_90 rfl (lv_at hl 0 rfl) ?_
      refine lv_bipush (v := 13) hx hb dX10_isKindOf_91 (by decide) ?_
      refine m_icmp_ne (X := a9.toInt) (Y := 13) (tgt := 100) hx hb dX10_isKindOf_93 (by decide) rfl (by decide) (fun c93 => ?_) (fun c93 => ?_)
      · skip
        refine lv_iconst (v := 0) hx hb dX10_isKindOf_100 (by decide) ?_
        subst hAe
        rw [hQ]
        exact W.zret (v := 0) hx hb hr (by decide) (fun t ht hW => ⟨⟨0, _, rfl, ⟨rfl, by first | exact Or.inl ⟨by decide, by unfold KOp; omega⟩ | exact Or.inr ⟨by decide, by unfold KOp; omega⟩⟩, by rw [ht]; exact hP, va_K.moved hW.alike hK, hD⟩, hS.F ht⟩) hS.2.2 dX10_isKindOf_101
      · skip
        refine lv_iconst (v := 1) hx hb dX10_isKindOf_96 (by decide) ?_
        refine lv_goto (tgt := 101) hx hb dX10_isKindOf_97 (by decide) ?_
        subst hAe
        rw [hQ]
        exact W.zret (v := 1) hx hb hr (by decide) (fun t ht hW => ⟨⟨1, _, rfl, ⟨rfl, by first | exact Or.inl ⟨by decide, by unfold KOp; omega⟩ | exact Or.inr ⟨by decide, by unfold KOp; omega⟩⟩, by rw [ht]; exact hP, va_K.moved hW.alike hK, hD⟩, hS.F ht⟩) hS.2.2 dX10_isKindOf_101
    · skip
      refine lv_tableIn (tgt := 138) (off := 130) hx hb dX10_isKindOf_8 (by omega) (by omega) (by rw [c8]; rfl) (by decide) ?_
      refine lv_iconst (v := 0) hx hb dX10_isKindOf_138 (by decide) ?_
      subst hAe
      rw [hQ]
      exact W.zret (v := 0) hx hb hr (by decide) (fun t ht hW => ⟨⟨0, _, rfl, ⟨rfl, by first | exact Or.inl ⟨by decide, by unfold KOp; omega⟩ | exact Or.inr ⟨by decide, by unfold KOp; omega⟩⟩, by rw [ht]; exact hP, va_K.moved hW.alike hK, hD⟩, hS.F ht⟩) hS.2.2 dX10_isKindOf_139
    · skip
      refine lv_tableIn (tgt := 138) (off := 130) hx hb dX10_isKindOf_8 (by omega) (by omega) (by rw [c8]; rfl) (by decide) ?_
      refine lv_iconst (v := 0) hx hb dX10_isKindOf_138 (by decide) ?_
      subst hAe
      rw [hQ]
      exact W.zret (v := 0) hx hb hr (by decide) (fun t ht hW => ⟨⟨0, _, rfl, ⟨rfl, by first | exact Or.inl ⟨by decide, by unfold KOp; omega⟩ | exact Or.inr ⟨by decide, by unfold KOp; omega⟩⟩, by rw [ht]; exact hP, va_K.moved hW.alike hK, hD⟩, hS.F ht⟩) hS.2.2 dX10_isKindOf_139
    · skip
      refine lv_tableIn (tgt := 102) (off := 94) hx hb dX10_isKindOf_8 (by omega) (by omega) (by rw [c8]; rfl) (by decide) ?_
      refine lv_iload_n hx hb dX10_isKindOf_102 rfl (lv_at hl 0 rfl) ?_
      refine lv_bipush (v := 11) hx hb dX10_isKindOf_103 (by decide) ?_
      refine m_icmp_le (X := a9.toInt) (Y := 11) (tgt := 118) hx hb dX10_isKindOf_105 (by decide) rfl (by decide) (fun c105 => ?_) (fun c105 => ?_)
      · skip
        refine lv_iconst (v := 0) hx hb dX10_isKindOf_118 (by decide) ?_
        subst hAe
        rw [hQ]
        exact W.zret (v := 0) hx hb hr (by decide) (fun t ht hW => ⟨⟨0, _, rfl, ⟨rfl, by first | exact Or.inl ⟨by decide, by unfold KOp; omega⟩ | exact Or.inr ⟨by decide, by unfold KOp; omega⟩⟩, by rw [ht]; exact hP, va_K.moved hW.alike hK, hD⟩, hS.F ht⟩) hS.2.2 dX10_isKindOf_119
      · skip
        refine lv_iload_n hx hb dX10_isKindOf_108 rfl (lv_at hl 0 rfl) ?_
        refine lv_bipush (v := 15) hx hb dX10_isKindOf_109 (by decide) ?_
        refine m_icmp_ge (X := a9.toInt) (Y := 15) (tgt := 118) hx hb dX10_isKindOf_111 (by decide) rfl (by decide) (fun c111 => ?_) (fun c111 => ?_)
        · skip
          refine lv_iconst (v := 0) hx hb dX10_isKindOf_118 (by decide) ?_
          subst hAe
          rw [hQ]
          exact W.zret (v := 0) hx hb hr (by decide) (fun t ht hW => ⟨⟨0, _, rfl, ⟨rfl, by first | exact Or.inl ⟨by decide, by unfold KOp; omega⟩ | exact Or.inr ⟨by decide, by unfold KOp; omega⟩⟩, by rw [ht]; exact hP, va_K.moved hW.alike hK, hD⟩, hS.F ht⟩) hS.2.2 dX10_isKindOf_119
        · skip
          refine lv_iconst (v := 1) hx hb dX10_isKindOf_114 (by decide) ?_
          refine lv_goto (tgt := 119) hx hb dX10_isKindOf_115 (by decide) ?_
          subst hAe
          rw [hQ]
          exact W.zret (v := 1) hx hb hr (by decide) (fun t ht hW => ⟨⟨1, _, rfl, ⟨rfl, by first | exact Or.inl ⟨by decide, by unfold KOp; omega⟩ | exact Or.inr ⟨by decide, by unfold KOp; omega⟩⟩, by rw [ht]; exact hP, va_K.moved hW.alike hK, hD⟩, hS.F ht⟩) hS.2.2 dX10_isKindOf_119
    · skip
      refine lv_tableIn (tgt := 120) (off := 112) hx hb dX10_isKindOf_8 (by omega) (by omega) (by rw [c8]; rfl) (by decide) ?_
      refine lv_iload_n hx hb dX10_isKindOf_120 rfl (lv_at hl 0 rfl) ?_
      refine lv_bipush (v := 11) hx hb dX10_isKindOf_121 (by decide) ?_
      refine m_icmp_eq (X := a9.toInt) (Y := 11) (tgt := 132) hx hb dX10_isKindOf_123 (by decide) rfl (by decide) (fun c123 => ?_) (fun c123 => ?_)
      · skip
        refine lv_iconst (v := 1) hx hb dX10_isKindOf_132 (by decide) ?_
        refine lv_goto (tgt := 137) hx hb dX10_isKindOf_133 (by decide) ?_
        subst hAe
        rw [hQ]
        exact W.zret (v := 1) hx hb hr (by decide) (fun t ht hW => ⟨⟨1, _, rfl, ⟨rfl, by first | exact Or.inl ⟨by decide, by unfold KOp; omega⟩ | exact Or.inr ⟨by decide, by unfold KOp; omega⟩⟩, by rw [ht]; exact hP, va_K.moved hW.alike hK, hD⟩, hS.F ht⟩) hS.2.2 dX10_isKindOf_137
      · skip
        refine lv_iload_n hx hb dX10_isKindOf_126 rfl (lv_at hl 0 rfl) ?_
        refine lv_bipush (v := 13) hx hb dX10_isKindOf_127 (by decide) ?_
        refine m_icmp_ne (X := a9.toInt) (Y := 13) (tgt := 136) hx hb dX10_isKindOf_129 (by decide) rfl (by decide) (fun c129 => ?_) (fun c129 => ?_)
        · skip
          refine lv_iconst (v := 0) hx hb dX10_isKindOf_136 (by decide) ?_
          subst hAe
          rw [hQ]
          exact W.zret (v := 0) hx hb hr (by decide) (fun t ht hW => ⟨⟨0, _, rfl, ⟨rfl, by first | exact Or.inl ⟨by decide, by unfold KOp; omega⟩ | exact Or.inr ⟨by decide, by unfold KOp; omega⟩⟩, by rw [ht]; exact hP, va_K.moved hW.alike hK, hD⟩, hS.F ht⟩) hS.2.2 dX10_isKindOf_137
        · skip
          refine lv_iconst (v := 1) hx hb dX10_isKindOf_132 (by decide) ?_
          refine lv_goto (tgt := 137) hx hb dX10_isKindOf_133 (by decide) ?_
          subst hAe
          rw [hQ]
          exact W.zret (v := 1) hx hb hr (by decide) (fun t ht hW => ⟨⟨1, _, rfl, ⟨rfl, by first | exact Or.inl ⟨by decide, by unfold KOp; omega⟩ | exact Or.inr ⟨by decide, by unfold KOp; omega⟩⟩, by rw [ht]; exact hP, va_K.moved hW.alike hK, hD⟩, hS.F ht⟩) hS.2.2 dX10_isKindOf_137
  · skip
    refine lv_iconst (v := 1) hx hb dX10_isKindOf_5 (by decide) ?_
    subst hAe
    rw [hQ]
    exact W.zret (v := 1) hx hb hr (by decide) (fun t ht hW => ⟨⟨1, _, rfl, ⟨rfl, by first | exact Or.inl ⟨by decide, by unfold KOp; omega⟩ | exact Or.inr ⟨by decide, by unfold KOp; omega⟩⟩, by rw [ht]; exact hP, va_K.moved hW.alike hK, hD⟩, hS.F ht⟩) hS.2.2 dX10_isKindOf_6

def rmX10_isBelow : Room := { frames := 40, cells := 0, slots := 0, locals := 800 }
set_option maxHeartbeats 4000000 in
set_option maxRecDepth 100000 in
theorem tX10_isBelow {l : Launch} {D : va_G} {K : Nat → Nat → Nat} (a9 : Int32) (b9 : Int32) : CtI l yX10_isBelow (wG yX10_isBelow cX10_isBelow 2 (some .boolean)) rmX10_isBelow D [] K [.int a9, .int b9] [] (fun r w1 => w1 = [] ∧ (r.toInt = 0 ∨ r.toInt = 1) ∧ (0 ≤ a9.toInt → 0 ≤ b9.toInt → ((r.toInt = 1 ∧ BLp a9.toInt b9.toInt) ∨ (r.toInt = 0 ∧ ¬ BLp a9.toInt b9.toInt)))) 0 0 := by
  intro sz
  refine Met.ofW (cc := cX10_isBelow) (maxL := 2) (ret := (some .boolean)) (by decide) rfl ?_
  intro p e s m args below meth c s₁ B hml hv
  obtain ⟨rfl, hsz, hP, hK, hD0, hE⟩ := hv
  have hx := B.exec
  have hb := B.bytes
  have hr := B.returns
  have hts := atoms_spec (ws := (wG yX10_isBelow cX10_isBelow 2 (some .boolean))) B.pre
  have hown : s.vm.findClass RX10 = some m.cls := findClass_of_methodNamed B.named
  have hlocks := B.notSynchronized
  subst hsz
  have hD := hD0.self (sz := s.heap.size)
  obtain ⟨A, hAe⟩ : ∃ A : Nat → Prop, A = va_A [] s.heap.size := ⟨_, rfl⟩
  rw [← hAe] at hD hE
  have hA : ∀ q : Nat, s.heap.size ≤ q → A q := fun q h => by rw [hAe]; exact Or.inr h
  have hS : va_S A s.heap s.heap [] := va_S.rf
  have hl := lv_entry ([.int a9, .int b9]) (n := 2) (Nat.le_of_ble_eq_true rfl)
  rw [lg_entry_eq]
  generalize (lg_sl ([.int a9, .int b9]) ++ List.replicate (2 - (lg_sl ([.int a9, .int b9])).length) Slot.unset).toArray = ls at hl ⊢
  have hl : lv_has ls 2 [(0, .int a9), (1, .int b9)] := hl
  refine wq (fun Q hQ => ?_)
  have kc0 : (0 : Int32).toInt = 0 := by decide
  have kc1 : (1 : Int32).toInt = 1 := by decide
  have kc2 : (7 : Int32).toInt = 7 := by decide
  have kc3 : (20 : Int32).toInt = 20 := by decide
  obtain ⟨H, hH⟩ : ∃ H : Heap, H = s.heap := ⟨_, rfl⟩
  obtain ⟨locs, hlc⟩ : ∃ L : List Loc, L = [] := ⟨_, rfl⟩
  have hP : va_P D vwCl [] H := by rw [hH]; exact hP
  have hS : va_S A s.heap H locs := by rw [hH, hlc]; exact hS
  refine wHL hH hlc ?_
  have b_a9 := iB a9
  have b_b9 := iB b9
  refine lv_iload_n hx hb dX10_isBelow_0 rfl (lv_at hl 0 rfl) ?_
  refine lv_iload_n hx hb dX10_isBelow_1 rfl (lv_at hl 1 rfl) ?_
  refine m_icmp_eq (X := a9.toInt) (Y := b9.toInt) (tgt := 48) hx hb dX10_isBelow_2 (by decide) rfl rfl (fun c2 => ?_) (fun c2 => ?_)
  · skip
    refine lv_iconst (v := 1) hx hb dX10_isBelow_48 (by decide) ?_
    refine lv_goto (tgt := 53) hx hb dX10_isBelow_49 (by decide) ?_
    subst hAe
    rw [hQ]
    exact W.zret (v := 1) hx hb hr (by decide) (fun t ht hW => ⟨⟨1, _, rfl, ⟨rfl, by first | assumption | omega | (intros; omega) | decide, by (intro h1 h2; first | exact Or.inl ⟨by decide, Or.inl (by omega)⟩ | exact Or.inl ⟨by decide, BLp.in _ _ (by omega) (by omega) (by omega) (by omega) (by omega) (hw42_0.resolve_right (fun q => by omega)).2⟩ | exact Or.inr ⟨by decide, BLp.no (by omega) (by omega)⟩ | exact Or.inr ⟨by decide, BLp.not (by omega) (by omega) (by omega) (hw42_0.resolve_left (fun q => by omega)).2⟩)⟩, by rw [ht]; exact hP, va_K.moved hW.alike hK, hD⟩, hS.F ht⟩) hS.2.2 dX10_isBelow_53
  · skip
    refine lv_iload_n hx hb dX10_isBelow_5 rfl (lv_at hl 0 rfl) ?_
    refine lv_bipush (v := 20) hx hb dX10_isBelow_6 (by decide) ?_
    refine m_idiv hx hb dX10_isBelow_8 (by decide) (fun x8 e_x8 => ?_)
    have b_x8 := iB x8
    obtain ⟨k_x8, g_x8⟩ := iDivL (x := a9) (y := (20 : Int32)) (z := x8) (Y := 20) (by decide) (by decide) e_x8
    refine lv_iload_n hx hb dX10_isBelow_9 rfl (lv_at hl 1 rfl) ?_
    refine lv_bipush (v := 20) hx hb dX10_isBelow_10 (by decide) ?_
    refine m_idiv hx hb dX10_isBelow_12 (by decide) (fun x12 e_x12 => ?_)
    have b_x12 := iB x12
    obtain ⟨k_x12, g_x12⟩ := iDivL (x := b9) (y := (20 : Int32)) (z := x12) (Y := 20) (by decide) (by decide) e_x12
    refine m_icmp_ne (X := x8.toInt) (Y := x12.toInt) (tgt := 52) hx hb dX10_isBelow_13 (by decide) rfl rfl (fun c13 => ?_) (fun c13 => ?_)
    · skip
      refine lv_iconst (v := 0) hx hb dX10_isBelow_52 (by decide) ?_
      subst hAe
      rw [hQ]
      exact W.zret (v := 0) hx hb hr (by decide) (fun t ht hW => ⟨⟨0, _, rfl, ⟨rfl, by first | assumption | omega | (intros; omega) | decide, by (intro h1 h2; first | exact Or.inl ⟨by decide, Or.inl (by omega)⟩ | exact Or.inl ⟨by decide, BLp.in _ _ (by omega) (by omega) (by omega) (by omega) (by omega) (hw42_0.resolve_right (fun q => by omega)).2⟩ | exact Or.inr ⟨by decide, BLp.no (by omega) (by omega)⟩ | exact Or.inr ⟨by decide, BLp.not (by omega) (by omega) (by omega) (hw42_0.resolve_left (fun q => by omega)).2⟩)⟩, by rw [ht]; exact hP, va_K.moved hW.alike hK, hD⟩, hS.F ht⟩) hS.2.2 dX10_isBelow_53
    · skip
      refine lv_iload_n hx hb dX10_isBelow_16 rfl (lv_at hl 0 rfl) ?_
      refine lv_bipush (v := 20) hx hb dX10_isBelow_17 (by decide) ?_
      refine m_irem hx hb dX10_isBelow_19 (by decide) (fun x19 e_x19 => ?_)
      have b_x19 := iB x19
      obtain ⟨k_x19, g_x19⟩ := iRemL (x := a9) (y := (20 : Int32)) (z := x19) (Y := 20) (by decide) (by decide) e_x19
      refine lv_bipush (v := 7) hx hb dX10_isBelow_20 (by decide) ?_
      refine m_icmp_le (X := x19.toInt) (Y := 7) (tgt := 52) hx hb dX10_isBelow_22 (by decide) rfl (by decide) (fun c22 => ?_) (fun c22 => ?_)
      · skip
        refine lv_iconst (v := 0) hx hb dX10_isBelow_52 (by decide) ?_
        subst hAe
        rw [hQ]
        exact W.zret (v := 0) hx hb hr (by decide) (fun t ht hW => ⟨⟨0, _, rfl, ⟨rfl, by first | assumption | omega | (intros; omega) | decide, by (intro h1 h2; first | exact Or.inl ⟨by decide, Or.inl (by omega)⟩ | exact Or.inl ⟨by decide, BLp.in _ _ (by omega) (by omega) (by omega) (by omega) (by omega) (hw42_0.resolve_right (fun q => by omega)).2⟩ | exact Or.inr ⟨by decide, BLp.no (by omega) (by omega)⟩ | exact Or.inr ⟨by decide, BLp.not (by omega) (by omega) (by omega) (hw42_0.resolve_left (fun q => by omega)).2⟩)⟩, by rw [ht]; exact hP, va_K.moved hW.alike hK, hD⟩, hS.F ht⟩) hS.2.2 dX10_isBelow_53
      · skip
        refine lv_iload_n hx hb dX10_isBelow_25 rfl (lv_at hl 1 rfl) ?_
        refine lv_bipush (v := 20) hx hb dX10_isBelow_26 (by decide) ?_
        refine m_irem hx hb dX10_isBelow_28 (by decide) (fun x28 e_x28 => ?_)
        have b_x28 := iB x28
        obtain ⟨k_x28, g_x28⟩ := iRemL (x := b9) (y := (20 : Int32)) (z := x28) (Y := 20) (by decide) (by decide) e_x28
        refine lv_bipush (v := 7) hx hb dX10_isBelow_29 (by decide) ?_
        refine m_icmp_le (X := x28.toInt) (Y := 7) (tgt := 52) hx hb dX10_isBelow_31 (by decide) rfl (by decide) (fun c31 => ?_) (fun c31 => ?_)
        · skip
          refine lv_iconst (v := 0) hx hb dX10_isBelow_52 (by decide) ?_
          subst hAe
          rw [hQ]
          exact W.zret (v := 0) hx hb hr (by decide) (fun t ht hW => ⟨⟨0, _, rfl, ⟨rfl, by first | assumption | omega | (intros; omega) | decide, by (intro h1 h2; first | exact Or.inl ⟨by decide, Or.inl (by omega)⟩ | exact Or.inl ⟨by decide, BLp.in _ _ (by omega) (by omega) (by omega) (by omega) (by omega) (hw42_0.resolve_right (fun q => by omega)).2⟩ | exact Or.inr ⟨by decide, BLp.no (by omega) (by omega)⟩ | exact Or.inr ⟨by decide, BLp.not (by omega) (by omega) (by omega) (hw42_0.resolve_left (fun q => by omega)).2⟩)⟩, by rw [ht]; exact hP, va_K.moved hW.alike hK, hD⟩, hS.F ht⟩) hS.2.2 dX10_isBelow_53
        · skip
          refine lv_iload_n hx hb dX10_isBelow_34 rfl (lv_at hl 0 rfl) ?_
          refine lv_bipush (v := 20) hx hb dX10_isBelow_35 (by decide) ?_
          refine m_irem hx hb dX10_isBelow_37 (by decide) (fun x37 e_x37 => ?_)
          have b_x37 := iB x37
          obtain ⟨k_x37, g_x37⟩ := iRemL (x := a9) (y := (20 : Int32)) (z := x37) (Y := 20) (by decide) (by decide) e_x37
          refine lv_iload_n hx hb dX10_isBelow_38 rfl (lv_at hl 1 rfl) ?_
          refine lv_bipush (v := 20) hx hb dX10_isBelow_39 (by decide) ?_
          refine m_irem hx hb dX10_isBelow_41 (by decide) (fun x41 e_x41 => ?_)
          have b_x41 := iB x41
          obtain ⟨k_x41, g_x41⟩ := iRemL (x := b9) (y := (20 : Int32)) (z := x41) (Y := 20) (by decide) (by decide) e_x41
          refine call_iSP (As := [.int x37, .int x41]) (rest := []) ⟨hx, hb, hml, hown, hts⟩ (tX10_isKindOf (l := l) x37 x41) (va_cwS 2 hts (gS (wr50 _ (List.mem_of_getElem? (i := 4) rfl)) (wr50 _ (List.mem_of_getElem? (i := 5) rfl)) (wr1 _ (List.mem_of_getElem? (i := 5) rfl)) (wr50 _ (List.mem_of_getElem? (i := 6) rfl))) rfl rfl rfl (by decide +kernel) ⟨Nat.le_of_ble_eq_true rfl, Nat.le_of_ble_eq_true rfl⟩) (hK.sub [] rfl) hP hD hE hS hA rfl hl.1 rfl (Nat.le_of_ble_eq_true rfl) dX10_isBelow_42 ⟨Nat.le_of_ble_eq_true rfl, Nat.le_of_ble_eq_true rfl⟩ (fun r42 w9 H locs hw42 hP hD hS => ?_)
          obtain ⟨rfl, hw42_0⟩ := hw42
          have b_r42 := iB r42
          refine m_if_eq (X := r42.toInt) (tgt := 52) hx hb dX10_isBelow_45 (by decide) rfl (fun c45 => ?_) (fun c45 => ?_)
          · skip
            refine lv_iconst (v := 0) hx hb dX10_isBelow_52 (by decide) ?_
            subst hAe
            rw [hQ]
            exact W.zret (v := 0) hx hb hr (by decide) (fun t ht hW => ⟨⟨0, _, rfl, ⟨rfl, by first | assumption | omega | (intros; omega) | decide, by (intro h1 h2; first | exact Or.inl ⟨by decide, Or.inl (by omega)⟩ | exact Or.inl ⟨by decide, BLp.in _ _ (by omega) (by omega) (by omega) (by omega) (by omega) (hw42_0.resolve_right (fun q => by omega)).2⟩ | exact Or.inr ⟨by decide, BLp.no (by omega) (by omega)⟩ | exact Or.inr ⟨by decide, BLp.not (by omega) (by omega) (by omega) (hw42_0.resolve_left (fun q => by omega)).2⟩)⟩, by rw [ht]; exact hP, va_K.moved hW.alike hK, hD⟩, hS.F ht⟩) hS.2.2 dX10_isBelow_53
          · skip
            refine lv_iconst (v := 1) hx hb dX10_isBelow_48 (by decide) ?_
            refine lv_goto (tgt := 53) hx hb dX10_isBelow_49 (by decide) ?_
            subst hAe
            rw [hQ]
            exact W.zret (v := 1) hx hb hr (by decide) (fun t ht hW => ⟨⟨1, _, rfl, ⟨rfl, by first | assumption | omega | (intros; omega) | decide, by (intro h1 h2; first | exact Or.inl ⟨by decide, Or.inl (by omega)⟩ | exact Or.inl ⟨by decide, BLp.in _ _ (by omega) (by omega) (by omega) (by omega) (by omega) (hw42_0.resolve_right (fun q => by omega)).2⟩ | exact Or.inr ⟨by decide, BLp.no (by omega) (by omega)⟩ | exact Or.inr ⟨by decide, BLp.not (by omega) (by omega) (by omega) (hw42_0.resolve_left (fun q => by omega)).2⟩)⟩, by rw [ht]; exact hP, va_K.moved hW.alike hK, hD⟩, hS.F ht⟩) hS.2.2 dX10_isBelow_53

def rmX10_widens : Room := { frames := 20, cells := 0, slots := 0, locals := 400 }
set_option maxHeartbeats 4000000 in
set_option maxRecDepth 100000 in
theorem tX10_widens {l : Launch} {D : va_G} {K : Nat → Nat → Nat} (a9 : Int32) (b9 : Int32) : CtI l yX10_widens (wG yX10_widens cX10_widens 2 (some .boolean)) rmX10_widens D [] K [.int a9, .int b9] [] (fun r w1 => w1 = [] ∧ ((r.toInt = 1 ∧ WDp a9.toInt b9.toInt) ∨ (r.toInt = 0 ∧ ¬ WDp a9.toInt b9.toInt))) 0 0 := by
  intro sz
  refine Met.ofW (cc := cX10_widens) (maxL := 2) (ret := (some .boolean)) (by decide) rfl ?_
  intro p e s m args below meth c s₁ B hml hv
  obtain ⟨rfl, hsz, hP, hK, hD0, hE⟩ := hv
  have hx := B.exec
  have hb := B.bytes
  have hr := B.returns
  have hts := atoms_spec (ws := (wG yX10_widens cX10_widens 2 (some .boolean))) B.pre
  have hown : s.vm.findClass RX10 = some m.cls := findClass_of_methodNamed B.named
  have hlocks := B.notSynchronized
  subst hsz
  have hD := hD0.self (sz := s.heap.size)
  obtain ⟨A, hAe⟩ : ∃ A : Nat → Prop, A = va_A [] s.heap.size := ⟨_, rfl⟩
  rw [← hAe] at hD hE
  have hA : ∀ q : Nat, s.heap.size ≤ q → A q := fun q h => by rw [hAe]; exact Or.inr h
  have hS : va_S A s.heap s.heap [] := va_S.rf
  have hl := lv_entry ([.int a9, .int b9]) (n := 2) (Nat.le_of_ble_eq_true rfl)
  rw [lg_entry_eq]
  generalize (lg_sl ([.int a9, .int b9]) ++ List.replicate (2 - (lg_sl ([.int a9, .int b9])).length) Slot.unset).toArray = ls at hl ⊢
  have hl : lv_has ls 2 [(0, .int a9), (1, .int b9)] := hl
  refine wq (fun Q hQ => ?_)
  have kc0 : (0 : Int32).toInt = 0 := by decide
  have kc1 : (1 : Int32).toInt = 1 := by decide
  have kc2 : (2 : Int32).toInt = 2 := by decide
  have kc3 : (3 : Int32).toInt = 3 := by decide
  have kc4 : (4 : Int32).toInt = 4 := by decide
  have kc5 : (5 : Int32).toInt = 5 := by decide
  have kc6 : (7 : Int32).toInt = 7 := by decide
  have kc7 : (8 : Int32).toInt = 8 := by decide
  obtain ⟨H, hH⟩ : ∃ H : Heap, H = s.heap := ⟨_, rfl⟩
  obtain ⟨locs, hlc⟩ : ∃ L : List Loc, L = [] := ⟨_, rfl⟩
  have hP : va_P D vwCl [] H := by rw [hH]; exact hP
  have hS : va_S A s.heap H locs := by rw [hH, hlc]; exact hS
  refine wHL hH hlc ?_
  have b_a9 := iB a9
  have b_b9 := iB b9
  refine lv_iload_n hx hb dX10_widens_0 rfl (lv_at hl 0 rfl) ?_
  refine lv_iload_n hx hb dX10_widens_1 rfl (lv_at hl 1 rfl) ?_
  refine m_icmp_ne (X := a9.toInt) (Y := b9.toInt) (tgt := 7) hx hb dX10_widens_2 (by decide) rfl rfl (fun c2 => ?_) (fun c2 => ?_)
  · skip
    refine lv_iload_n hx hb dX10_widens_7 rfl (lv_at hl 0 rfl) ?_
    rcases (show (a9.toInt < 1 ∨ 6 < a9.toInt) ∨ a9.toInt = 1 ∨ a9.toInt = 2 ∨ a9.toInt = 3 ∨ a9.toInt = 4 ∨ a9.toInt = 5 ∨ a9.toInt = 6 by omega) with c8 | c8 | c8 | c8 | c8 | c8 | c8
    · skip
      refine lv_tableOut (tgt := 133) hx hb dX10_widens_8 c8 (by decide) ?_
      refine lv_iconst (v := 0) hx hb dX10_widens_133 (by decide) ?_
      subst hAe
      rw [hQ]
      exact W.zret (v := 0) hx hb hr (by decide) (fun t ht hW => ⟨⟨0, _, rfl, ⟨rfl, by first | exact Or.inl ⟨by decide, by unfold WDp; omega⟩ | exact Or.inr ⟨by decide, by unfold WDp; omega⟩⟩, by rw [ht]; exact hP, va_K.moved hW.alike hK, hD⟩, hS.F ht⟩) hS.2.2 dX10_widens_134
    · skip
      refine lv_tableIn (tgt := 48) (off := 40) hx hb dX10_widens_8 (by omega) (by omega) (by rw [c8]; rfl) (by decide) ?_
      refine lv_iload_n hx hb dX10_widens_48 rfl (lv_at hl 1 rfl) ?_
      refine lv_iconst (v := 2) hx hb dX10_widens_49 (by decide) ?_
      refine m_icmp_eq (X := b9.toInt) (Y := 2) (tgt := 64) hx hb dX10_widens_50 (by decide) rfl (by decide) (fun c50 => ?_) (fun c50 => ?_)
      · skip
        refine lv_iconst (v := 1) hx hb dX10_widens_64 (by decide) ?_
        refine lv_goto (tgt := 69) hx hb dX10_widens_65 (by decide) ?_
        subst hAe
        rw [hQ]
        exact W.zret (v := 1) hx hb hr (by decide) (fun t ht hW => ⟨⟨1, _, rfl, ⟨rfl, by first | exact Or.inl ⟨by decide, by unfold WDp; omega⟩ | exact Or.inr ⟨by decide, by unfold WDp; omega⟩⟩, by rw [ht]; exact hP, va_K.moved hW.alike hK, hD⟩, hS.F ht⟩) hS.2.2 dX10_widens_69
      · skip
        refine lv_iload_n hx hb dX10_widens_53 rfl (lv_at hl 1 rfl) ?_
        refine lv_iconst (v := 3) hx hb dX10_widens_54 (by decide) ?_
        refine m_icmp_le (X := b9.toInt) (Y := 3) (tgt := 68) hx hb dX10_widens_55 (by decide) rfl (by decide) (fun c55 => ?_) (fun c55 => ?_)
        · skip
          refine lv_iconst (v := 0) hx hb dX10_widens_68 (by decide) ?_
          subst hAe
          rw [hQ]
          exact W.zret (v := 0) hx hb hr (by decide) (fun t ht hW => ⟨⟨0, _, rfl, ⟨rfl, by first | exact Or.inl ⟨by decide, by unfold WDp; omega⟩ | exact Or.inr ⟨by decide, by unfold WDp; omega⟩⟩, by rw [ht]; exact hP, va_K.moved hW.alike hK, hD⟩, hS.F ht⟩) hS.2.2 dX10_widens_69
        · skip
          refine lv_iload_n hx hb dX10_widens_58 rfl (lv_at hl 1 rfl) ?_
          refine lv_bipush (v := 8) hx hb dX10_widens_59 (by decide) ?_
          refine m_icmp_ge (X := b9.toInt) (Y := 8) (tgt := 68) hx hb dX10_widens_61 (by decide) rfl (by decide) (fun c61 => ?_) (fun c61 => ?_)
          · skip
            refine lv_iconst (v := 0) hx hb dX10_widens_68 (by decide) ?_
            subst hAe
            rw [hQ]
            exact W.zret (v := 0) hx hb hr (by decide) (fun t ht hW => ⟨⟨0, _, rfl, ⟨rfl, by first | exact Or.inl ⟨by decide, by unfold WDp; omega⟩ | exact Or.inr ⟨by decide, by unfold WDp; omega⟩⟩, by rw [ht]; exact hP, va_K.moved hW.alike hK, hD⟩, hS.F ht⟩) hS.2.2 dX10_widens_69
          · skip
            refine lv_iconst (v := 1) hx hb dX10_widens_64 (by decide) ?_
            refine lv_goto (tgt := 69) hx hb dX10_widens_65 (by decide) ?_
            subst hAe
            rw [hQ]
            exact W.zret (v := 1) hx hb hr (by decide) (fun t ht hW => ⟨⟨1, _, rfl, ⟨rfl, by first | exact Or.inl ⟨by decide, by unfold WDp; omega⟩ | exact Or.inr ⟨by decide, by unfold WDp; omega⟩⟩, by rw [ht]; exact hP, va_K.moved hW.alike hK, hD⟩, hS.F ht⟩) hS.2.2 dX10_widens_69
    · skip
      refine lv_tableIn (tgt := 70) (off := 62) hx hb dX10_widens_8 (by omega) (by omega) (by rw [c8]; rfl) (by decide) ?_
      refine lv_iload_n hx hb dX10_widens_70 rfl (lv_at hl 1 rfl) ?_
      refine lv_iconst (v := 3) hx hb dX10_widens_71 (by decide) ?_
      refine m_icmp_le (X := b9.toInt) (Y := 3) (tgt := 85) hx hb dX10_widens_72 (by decide) rfl (by decide) (fun c72 => ?_) (fun c72 => ?_)
      · skip
        refine lv_iconst (v := 0) hx hb dX10_widens_85 (by decide) ?_
        subst hAe
        rw [hQ]
        exact W.zret (v := 0) hx hb hr (by decide) (fun t ht hW => ⟨⟨0, _, rfl, ⟨rfl, by first | exact Or.inl ⟨by decide, by unfold WDp; omega⟩ | exact Or.inr ⟨by decide, by unfold WDp; omega⟩⟩, by rw [ht]; exact hP, va_K.moved hW.alike hK, hD⟩, hS.F ht⟩) hS.2.2 dX10_widens_86
      · skip
        refine lv_iload_n hx hb dX10_widens_75 rfl (lv_at hl 1 rfl) ?_
        refine lv_bipush (v := 8) hx hb dX10_widens_76 (by decide) ?_
        refine m_icmp_ge (X := b9.toInt) (Y := 8) (tgt := 85) hx hb dX10_widens_78 (by decide) rfl (by decide) (fun c78 => ?_) (fun c78 => ?_)
        · skip
          refine lv_iconst (v := 0) hx hb dX10_widens_85 (by decide) ?_
          subst hAe
          rw [hQ]
          exact W.zret (v := 0) hx hb hr (by decide) (fun t ht hW => ⟨⟨0, _, rfl, ⟨rfl, by first | exact Or.inl ⟨by decide, by unfold WDp; omega⟩ | exact Or.inr ⟨by decide, by unfold WDp; omega⟩⟩, by rw [ht]; exact hP, va_K.moved hW.alike hK, hD⟩, hS.F ht⟩) hS.2.2 dX10_widens_86
        · skip
          refine lv_iconst (v := 1) hx hb dX10_widens_81 (by decide) ?_
          refine lv_goto (tgt := 86) hx hb dX10_widens_82 (by decide) ?_
          subst hAe
          rw [hQ]
          exact W.zret (v := 1) hx hb hr (by decide) (fun t ht hW => ⟨⟨1, _, rfl, ⟨rfl, by first | exact Or.inl ⟨by decide, by unfold WDp; omega⟩ | exact Or.inr ⟨by decide, by unfold WDp; omega⟩⟩, by rw [ht]; exact hP, va_K.moved hW.alike hK, hD⟩, hS.F ht⟩) hS.2.2 dX10_widens_86
    · skip
      refine lv_tableIn (tgt := 70) (off := 62) hx hb dX10_widens_8 (by omega) (by omega) (by rw [c8]; rfl) (by decide) ?_
      refine lv_iload_n hx hb dX10_widens_70 rfl (lv_at hl 1 rfl) ?_
      refine lv_iconst (v := 3) hx hb dX10_widens_71 (by decide) ?_
      refine m_icmp_le (X := b9.toInt) (Y := 3) (tgt := 85) hx hb dX10_widens_72 (by decide) rfl (by decide) (fun c72 => ?_) (fun c72 => ?_)
      · skip
        refine lv_iconst (v := 0) hx hb dX10_widens_85 (by decide) ?_
        subst hAe
        rw [hQ]
        exact W.zret (v := 0) hx hb hr (by decide) (fun t ht hW => ⟨⟨0, _, rfl, ⟨rfl, by first | exact Or.inl ⟨by decide, by unfold WDp; omega⟩ | exact Or.inr ⟨by decide, by unfold WDp; omega⟩⟩, by rw [ht]; exact hP, va_K.moved hW.alike hK, hD⟩, hS.F ht⟩) hS.2.2 dX10_widens_86
      · skip
        refine lv_iload_n hx hb dX10_widens_75 rfl (lv_at hl 1 rfl) ?_
        refine lv_bipush (v := 8) hx hb dX10_widens_76 (by decide) ?_
        refine m_icmp_ge (X := b9.toInt) (Y := 8) (tgt := 85) hx hb dX10_widens_78 (by decide) rfl (by decide) (fun c78 => ?_) (fun c78 => ?_)
        · skip
          refine lv_iconst (v := 0) hx hb dX10_widens_85 (by decide) ?_
          subst hAe
          rw [hQ]
          exact W.zret (v := 0) hx hb hr (by decide) (fun t ht hW => ⟨⟨0, _, rfl, ⟨rfl, by first | exact Or.inl ⟨by decide, by unfold WDp; omega⟩ | exact Or.inr ⟨by decide, by unfold WDp; omega⟩⟩, by rw [ht]; exact hP, va_K.moved hW.alike hK, hD⟩, hS.F ht⟩) hS.2.2 dX10_widens_86
        · skip
          refine lv_iconst (v := 1) hx hb dX10_widens_81 (by decide) ?_
          refine lv_goto (tgt := 86) hx hb dX10_widens_82 (by decide) ?_
          subst hAe
          rw [hQ]
          exact W.zret (v := 1) hx hb hr (by decide) (fun t ht hW => ⟨⟨1, _, rfl, ⟨rfl, by first | exact Or.inl ⟨by decide, by unfold WDp; omega⟩ | exact Or.inr ⟨by decide, by unfold WDp; omega⟩⟩, by rw [ht]; exact hP, va_K.moved hW.alike hK, hD⟩, hS.F ht⟩) hS.2.2 dX10_widens_86
    · skip
      refine lv_tableIn (tgt := 87) (off := 79) hx hb dX10_widens_8 (by omega) (by omega) (by rw [c8]; rfl) (by decide) ?_
      refine lv_iload_n hx hb dX10_widens_87 rfl (lv_at hl 1 rfl) ?_
      refine lv_iconst (v := 4) hx hb dX10_widens_88 (by decide) ?_
      refine m_icmp_le (X := b9.toInt) (Y := 4) (tgt := 102) hx hb dX10_widens_89 (by decide) rfl (by decide) (fun c89 => ?_) (fun c89 => ?_)
      · skip
        refine lv_iconst (v := 0) hx hb dX10_widens_102 (by decide) ?_
        subst hAe
        rw [hQ]
        exact W.zret (v := 0) hx hb hr (by decide) (fun t ht hW => ⟨⟨0, _, rfl, ⟨rfl, by first | exact Or.inl ⟨by decide, by unfold WDp; omega⟩ | exact Or.inr ⟨by decide, by unfold WDp; omega⟩⟩, by rw [ht]; exact hP, va_K.moved hW.alike hK, hD⟩, hS.F ht⟩) hS.2.2 dX10_widens_103
      · skip
        refine lv_iload_n hx hb dX10_widens_92 rfl (lv_at hl 1 rfl) ?_
        refine lv_bipush (v := 8) hx hb dX10_widens_93 (by decide) ?_
        refine m_icmp_ge (X := b9.toInt) (Y := 8) (tgt := 102) hx hb dX10_widens_95 (by decide) rfl (by decide) (fun c95 => ?_) (fun c95 => ?_)
        · skip
          refine lv_iconst (v := 0) hx hb dX10_widens_102 (by decide) ?_
          subst hAe
          rw [hQ]
          exact W.zret (v := 0) hx hb hr (by decide) (fun t ht hW => ⟨⟨0, _, rfl, ⟨rfl, by first | exact Or.inl ⟨by decide, by unfold WDp; omega⟩ | exact Or.inr ⟨by decide, by unfold WDp; omega⟩⟩, by rw [ht]; exact hP, va_K.moved hW.alike hK, hD⟩, hS.F ht⟩) hS.2.2 dX10_widens_103
        · skip
          refine lv_iconst (v := 1) hx hb dX10_widens_98 (by decide) ?_
          refine lv_goto (tgt := 103) hx hb dX10_widens_99 (by decide) ?_
          subst hAe
          rw [hQ]
          exact W.zret (v := 1) hx hb hr (by decide) (fun t ht hW => ⟨⟨1, _, rfl, ⟨rfl, by first | exact Or.inl ⟨by decide, by unfold WDp; omega⟩ | exact Or.inr ⟨by decide, by unfold WDp; omega⟩⟩, by rw [ht]; exact hP, va_K.moved hW.alike hK, hD⟩, hS.F ht⟩) hS.2.2 dX10_widens_103
    · skip
      refine lv_tableIn (tgt := 104) (off := 96) hx hb dX10_widens_8 (by omega) (by omega) (by rw [c8]; rfl) (by decide) ?_
      refine lv_iload_n hx hb dX10_widens_104 rfl (lv_at hl 1 rfl) ?_
      refine lv_iconst (v := 5) hx hb dX10_widens_105 (by decide) ?_
      refine m_icmp_le (X := b9.toInt) (Y := 5) (tgt := 119) hx hb dX10_widens_106 (by decide) rfl (by decide) (fun c106 => ?_) (fun c106 => ?_)
      · skip
        refine lv_iconst (v := 0) hx hb dX10_widens_119 (by decide) ?_
        subst hAe
        rw [hQ]
        exact W.zret (v := 0) hx hb hr (by decide) (fun t ht hW => ⟨⟨0, _, rfl, ⟨rfl, by first | exact Or.inl ⟨by decide, by unfold WDp; omega⟩ | exact Or.inr ⟨by decide, by unfold WDp; omega⟩⟩, by rw [ht]; exact hP, va_K.moved hW.alike hK, hD⟩, hS.F ht⟩) hS.2.2 dX10_widens_120
      · skip
        refine lv_iload_n hx hb dX10_widens_109 rfl (lv_at hl 1 rfl) ?_
        refine lv_bipush (v := 8) hx hb dX10_widens_110 (by decide) ?_
        refine m_icmp_ge (X := b9.toInt) (Y := 8) (tgt := 119) hx hb dX10_widens_112 (by decide) rfl (by decide) (fun c112 => ?_) (fun c112 => ?_)
        · skip
          refine lv_iconst (v := 0) hx hb dX10_widens_119 (by decide) ?_
          subst hAe
          rw [hQ]
          exact W.zret (v := 0) hx hb hr (by decide) (fun t ht hW => ⟨⟨0, _, rfl, ⟨rfl, by first | exact Or.inl ⟨by decide, by unfold WDp; omega⟩ | exact Or.inr ⟨by decide, by unfold WDp; omega⟩⟩, by rw [ht]; exact hP, va_K.moved hW.alike hK, hD⟩, hS.F ht⟩) hS.2.2 dX10_widens_120
        · skip
          refine lv_iconst (v := 1) hx hb dX10_widens_115 (by decide) ?_
          refine lv_goto (tgt := 120) hx hb dX10_widens_116 (by decide) ?_
          subst hAe
          rw [hQ]
          exact W.zret (v := 1) hx hb hr (by decide) (fun t ht hW => ⟨⟨1, _, rfl, ⟨rfl, by first | exact Or.inl ⟨by decide, by unfold WDp; omega⟩ | exact Or.inr ⟨by decide, by unfold WDp; omega⟩⟩, by rw [ht]; exact hP, va_K.moved hW.alike hK, hD⟩, hS.F ht⟩) hS.2.2 dX10_widens_120
    · skip
      refine lv_tableIn (tgt := 121) (off := 113) hx hb dX10_widens_8 (by omega) (by omega) (by rw [c8]; rfl) (by decide) ?_
      refine lv_iload_n hx hb dX10_widens_121 rfl (lv_at hl 1 rfl) ?_
      refine lv_bipush (v := 7) hx hb dX10_widens_122 (by decide) ?_
      refine m_icmp_ne (X := b9.toInt) (Y := 7) (tgt := 131) hx hb dX10_widens_124 (by decide) rfl (by decide) (fun c124 => ?_) (fun c124 => ?_)
      · skip
        refine lv_iconst (v := 0) hx hb dX10_widens_131 (by decide) ?_
        subst hAe
        rw [hQ]
        exact W.zret (v := 0) hx hb hr (by decide) (fun t ht hW => ⟨⟨0, _, rfl, ⟨rfl, by first | exact Or.inl ⟨by decide, by unfold WDp; omega⟩ | exact Or.inr ⟨by decide, by unfold WDp; omega⟩⟩, by rw [ht]; exact hP, va_K.moved hW.alike hK, hD⟩, hS.F ht⟩) hS.2.2 dX10_widens_132
      · skip
        refine lv_iconst (v := 1) hx hb dX10_widens_127 (by decide) ?_
        refine lv_goto (tgt := 132) hx hb dX10_widens_128 (by decide) ?_
        subst hAe
        rw [hQ]
        exact W.zret (v := 1) hx hb hr (by decide) (fun t ht hW => ⟨⟨1, _, rfl, ⟨rfl, by first | exact Or.inl ⟨by decide, by unfold WDp; omega⟩ | exact Or.inr ⟨by decide, by unfold WDp; omega⟩⟩, by rw [ht]; exact hP, va_K.moved hW.alike hK, hD⟩, hS.F ht⟩) hS.2.2 dX10_widens_132
  · skip
    refine lv_iconst (v := 1) hx hb dX10_widens_5 (by decide) ?_
    subst hAe
    rw [hQ]
    exact W.zret (v := 1) hx hb hr (by decide) (fun t ht hW => ⟨⟨1, _, rfl, ⟨rfl, by first | exact Or.inl ⟨by decide, by unfold WDp; omega⟩ | exact Or.inr ⟨by decide, by unfold WDp; omega⟩⟩, by rw [ht]; exact hP, va_K.moved hW.alike hK, hD⟩, hS.F ht⟩) hS.2.2 dX10_widens_6

def rmX10_elements : Room := { frames := 20, cells := 0, slots := 0, locals := 400 }
set_option maxHeartbeats 4000000 in
set_option maxRecDepth 100000 in
theorem tX10_elements {l : Launch} {D : va_G} {K : Nat → Nat → Nat} (c9 : Int32) : CtI l yX10_elements (wG yX10_elements cX10_elements 1 (some .int)) rmX10_elements D [] K [.int c9] [] (fun r w1 => w1 = [] ∧ (-2147483628 ≤ c9.toInt → r.toInt = c9.toInt - 20)) 0 0 := by
  intro sz
  refine Met.ofW (cc := cX10_elements) (maxL := 1) (ret := (some .int)) (by decide) rfl ?_
  intro p e s m args below meth c s₁ B hml hv
  obtain ⟨rfl, hsz, hP, hK, hD0, hE⟩ := hv
  have hx := B.exec
  have hb := B.bytes
  have hr := B.returns
  have hts := atoms_spec (ws := (wG yX10_elements cX10_elements 1 (some .int))) B.pre
  have hown : s.vm.findClass RX10 = some m.cls := findClass_of_methodNamed B.named
  have hlocks := B.notSynchronized
  subst hsz
  have hD := hD0.self (sz := s.heap.size)
  obtain ⟨A, hAe⟩ : ∃ A : Nat → Prop, A = va_A [] s.heap.size := ⟨_, rfl⟩
  rw [← hAe] at hD hE
  have hA : ∀ q : Nat, s.heap.size ≤ q → A q := fun q h => by rw [hAe]; exact Or.inr h
  have hS : va_S A s.heap s.heap [] := va_S.rf
  have hl := lv_entry ([.int c9]) (n := 1) (Nat.le_of_ble_eq_true rfl)
  rw [lg_entry_eq]
  generalize (lg_sl ([.int c9]) ++ List.replicate (1 - (lg_sl ([.int c9])).length) Slot.unset).toArray = ls at hl ⊢
  have hl : lv_has ls 1 [(0, .int c9)] := hl
  refine wq (fun Q hQ => ?_)
  have kc0 : (20 : Int32).toInt = 20 := by decide
  obtain ⟨H, hH⟩ : ∃ H : Heap, H = s.heap := ⟨_, rfl⟩
  obtain ⟨locs, hlc⟩ : ∃ L : List Loc, L = [] := ⟨_, rfl⟩
  have hP : va_P D vwCl [] H := by rw [hH]; exact hP
  have hS : va_S A s.heap H locs := by rw [hH, hlc]; exact hS
  refine wHL hH hlc ?_
  have b_c9 := iB c9
  refine lv_iload_n hx hb dX10_elements_0 rfl (lv_at hl 0 rfl) ?_
  refine lv_bipush (v := 20) hx hb dX10_elements_1 (by decide) ?_
  refine m_isub (X := c9.toInt) (Y := 20) hx hb dX10_elements_3 rfl (by decide) (fun x3 e_x3 g9 => ?_)
  obtain ⟨k_x3, g_x3⟩ := g9
  have b_x3 := iB x3
  try (have q_x3 : x3.toInt = c9.toInt - 20 := (by omega); clear g_x3 k_x3)
  subst hAe
  rw [hQ]
  exact W.iret (v := x3) hx hb hr (fun t ht hW => ⟨⟨x3, _, rfl, ⟨rfl, by first | assumption | omega | (intros; omega) | decide⟩, by rw [ht]; exact hP, va_K.moved hW.alike hK, hD⟩, hS.F ht⟩) hS.2.2 dX10_elements_4

def rmX10_isOfNumbers : Room := { frames := 20, cells := 0, slots := 0, locals := 400 }
set_option maxHeartbeats 4000000 in
set_option maxRecDepth 100000 in
theorem tX10_isOfNumbers {l : Launch} {D : va_G} {K : Nat → Nat → Nat} (c9 : Int32) : CtI l yX10_isOfNumbers (wG yX10_isOfNumbers cX10_isOfNumbers 1 (some .boolean)) rmX10_isOfNumbers D [] K [.int c9] [] (fun r w1 => w1 = [] ∧ ((r.toInt = 1 ∧ (19 < c9.toInt ∧ c9.toInt < 28)) ∨ (r.toInt = 0 ∧ ¬ (19 < c9.toInt ∧ c9.toInt < 28)))) 0 0 := by
  intro sz
  refine Met.ofW (cc := cX10_isOfNumbers) (maxL := 1) (ret := (some .boolean)) (by decide) rfl ?_
  intro p e s m args below meth c s₁ B hml hv
  obtain ⟨rfl, hsz, hP, hK, hD0, hE⟩ := hv
  have hx := B.exec
  have hb := B.bytes
  have hr := B.returns
  have hts := atoms_spec (ws := (wG yX10_isOfNumbers cX10_isOfNumbers 1 (some .boolean))) B.pre
  have hown : s.vm.findClass RX10 = some m.cls := findClass_of_methodNamed B.named
  have hlocks := B.notSynchronized
  subst hsz
  have hD := hD0.self (sz := s.heap.size)
  obtain ⟨A, hAe⟩ : ∃ A : Nat → Prop, A = va_A [] s.heap.size := ⟨_, rfl⟩
  rw [← hAe] at hD hE
  have hA : ∀ q : Nat, s.heap.size ≤ q → A q := fun q h => by rw [hAe]; exact Or.inr h
  have hS : va_S A s.heap s.heap [] := va_S.rf
  have hl := lv_entry ([.int c9]) (n := 1) (Nat.le_of_ble_eq_true rfl)
  rw [lg_entry_eq]
  generalize (lg_sl ([.int c9]) ++ List.replicate (1 - (lg_sl ([.int c9])).length) Slot.unset).toArray = ls at hl ⊢
  have hl : lv_has ls 1 [(0, .int c9)] := hl
  refine wq (fun Q hQ => ?_)
  have kc0 : (0 : Int32).toInt = 0 := by decide
  have kc1 : (1 : Int32).toInt = 1 := by decide
  have kc2 : (19 : Int32).toInt = 19 := by decide
  have kc3 : (28 : Int32).toInt = 28 := by decide
  obtain ⟨H, hH⟩ : ∃ H : Heap, H = s.heap := ⟨_, rfl⟩
  obtain ⟨locs, hlc⟩ : ∃ L : List Loc, L = [] := ⟨_, rfl⟩
  have hP : va_P D vwCl [] H := by rw [hH]; exact hP
  have hS : va_S A s.heap H locs := by rw [hH, hlc]; exact hS
  refine wHL hH hlc ?_
  have b_c9 := iB c9
  refine lv_iload_n hx hb dX10_isOfNumbers_0 rfl (lv_at hl 0 rfl) ?_
  refine lv_bipush (v := 28) hx hb dX10_isOfNumbers_1 (by decide) ?_
  refine m_icmp_ge (X := c9.toInt) (Y := 28) (tgt := 16) hx hb dX10_isOfNumbers_3 (by decide) rfl (by decide) (fun c3 => ?_) (fun c3 => ?_)
  · skip
    refine lv_iconst (v := 0) hx hb dX10_isOfNumbers_16 (by decide) ?_
    subst hAe
    rw [hQ]
    exact W.zret (v := 0) hx hb hr (by decide) (fun t ht hW => ⟨⟨0, _, rfl, ⟨rfl, by first | exact Or.inl ⟨by decide, by omega⟩ | exact Or.inr ⟨by decide, by omega⟩⟩, by rw [ht]; exact hP, va_K.moved hW.alike hK, hD⟩, hS.F ht⟩) hS.2.2 dX10_isOfNumbers_17
  · skip
    refine lv_iload_n hx hb dX10_isOfNumbers_6 rfl (lv_at hl 0 rfl) ?_
    refine lv_bipush (v := 19) hx hb dX10_isOfNumbers_7 (by decide) ?_
    refine m_icmp_le (X := c9.toInt) (Y := 19) (tgt := 16) hx hb dX10_isOfNumbers_9 (by decide) rfl (by decide) (fun c9 => ?_) (fun c9 => ?_)
    · skip
      refine lv_iconst (v := 0) hx hb dX10_isOfNumbers_16 (by decide) ?_
      subst hAe
      rw [hQ]
      exact W.zret (v := 0) hx hb hr (by decide) (fun t ht hW => ⟨⟨0, _, rfl, ⟨rfl, by first | exact Or.inl ⟨by decide, by omega⟩ | exact Or.inr ⟨by decide, by omega⟩⟩, by rw [ht]; exact hP, va_K.moved hW.alike hK, hD⟩, hS.F ht⟩) hS.2.2 dX10_isOfNumbers_17
    · skip
      refine lv_iconst (v := 1) hx hb dX10_isOfNumbers_12 (by decide) ?_
      refine lv_goto (tgt := 17) hx hb dX10_isOfNumbers_13 (by decide) ?_
      subst hAe
      rw [hQ]
      exact W.zret (v := 1) hx hb hr (by decide) (fun t ht hW => ⟨⟨1, _, rfl, ⟨rfl, by first | exact Or.inl ⟨by decide, by omega⟩ | exact Or.inr ⟨by decide, by omega⟩⟩, by rw [ht]; exact hP, va_K.moved hW.alike hK, hD⟩, hS.F ht⟩) hS.2.2 dX10_isOfNumbers_17
