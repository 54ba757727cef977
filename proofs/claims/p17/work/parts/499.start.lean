section Start0
theorem sStr_of {args : Array Value} {s : State} {tm : Term} {tx : List Int32} {A : Nat → Prop} (hN : tx.length < 2 ^ 31) (hex : (Cond.exactly tm "java/lang/String").before args s = true) (hco : (Cond.eq (.field tm "java/lang/String" "coder" "B") (.int 0)).before args s = true) (har : (Cond.arrayOf (.field tm "java/lang/String" "value" "[B") .byte).before args s = true) (hle : (Cond.eq (.length (.field tm "java/lang/String" "value" "[B")) (.int (Int32.ofNat tx.length))).before args s = true) (hel : ∀ j : Nat, j < tx.length → (Cond.eq (.elem (.field tm "java/lang/String" "value" "[B") (.int (Int32.ofNat j))) (.int (tx.getD j 0))).before args s = true) (hA : ∀ a : Nat, a < s.heap.size → ¬ A a) : ∃ a v : Nat, tm.eval args s none [] s = some (.ref a) ∧ sStr tx a v A s s.heap := by
  obtain ⟨a, c, cA, kA, q1, q2, q3, q4, q5, q6, -⟩ := Cond.exactly_spec (args := args) (first := s) (o := none) (s := s) (idx := []) (t := tm) (cls := "java/lang/String") hex
  obtain ⟨t, ht, hT⟩ := va_Tof (f := fun j => .int (tx.getD j 0)) (A := A) hN har (va_eqt hle) (fun j hj => va_eqt (hel j hj)) hA
  exact ⟨a, t, q1, ⟨cA, q3, q5, by rw [q6]; exact q2, hA a (Array.getElem?_eq_some_iff.mp q3).1⟩, vk_OFof q1 (va_eqt hco) hA, vk_OFof q1 ht hA, hT⟩
def cndS (r : String × Nat × String × List Int32) : List Cond := [Cond.exactly (.string r.1 r.2.1) "java/lang/String", Cond.eq (.field (.string r.1 r.2.1) "java/lang/String" "coder" "B") (.int 0), Cond.arrayOf (.field (.string r.1 r.2.1) "java/lang/String" "value" "[B") .byte, Cond.eq (.length (.field (.string r.1 r.2.1) "java/lang/String" "value" "[B")) (.int (Int32.ofNat r.2.2.2.length))] ++ (List.range r.2.2.2.length).map (fun j => Cond.eq (.elem (.field (.string r.1 r.2.1) "java/lang/String" "value" "[B") (.int (Int32.ofNat j))) (.int (r.2.2.2.getD j 0)))
abbrev narT : List Cond := flatC (Jvm.Cond.and given_1 narrow_1)
def sD0 : String × Nat × String × List Int32 := ("", 0, "", [])
def sOff : List Nat := [104, 116, 125, 134, 142, 240, 248, 294, 301, 306, 316, 329, 341, 356, 367, 381, 392, 400, 407, 426, 435, 449, 455, 549, 568, 574, 581, 589, 595, 690, 700, 709, 718, 725, 733, 741, 749, 757, 765, 774, 785, 794, 802, 811, 819, 829, 838, 847, 855, 864, 872, 879, 887, 896, 906, 915, 922, 930, 937, 945, 953, 960, 969, 980, 988, 997, 1005, 1012, 1019, 1028, 1034, 1042, 1051, 1059, 1068, 1075, 1083]
theorem cndI0 : ∀ i, i < 7 → (narT.drop (sOff.getD (0 + i) 0)).take (cndS (sTab.getD (0 + i) sD0)).length = cndS (sTab.getD (0 + i) sD0) := by decide +kernel
theorem cndI1 : ∀ i, i < 7 → (narT.drop (sOff.getD (7 + i) 0)).take (cndS (sTab.getD (7 + i) sD0)).length = cndS (sTab.getD (7 + i) sD0) := by decide +kernel
theorem cndI2 : ∀ i, i < 7 → (narT.drop (sOff.getD (14 + i) 0)).take (cndS (sTab.getD (14 + i) sD0)).length = cndS (sTab.getD (14 + i) sD0) := by decide +kernel
theorem cndI3 : ∀ i, i < 7 → (narT.drop (sOff.getD (21 + i) 0)).take (cndS (sTab.getD (21 + i) sD0)).length = cndS (sTab.getD (21 + i) sD0) := by decide +kernel
theorem cndI4 : ∀ i, i < 7 → (narT.drop (sOff.getD (28 + i) 0)).take (cndS (sTab.getD (28 + i) sD0)).length = cndS (sTab.getD (28 + i) sD0) := by decide +kernel
theorem cndI5 : ∀ i, i < 7 → (narT.drop (sOff.getD (35 + i) 0)).take (cndS (sTab.getD (35 + i) sD0)).length = cndS (sTab.getD (35 + i) sD0) := by decide +kernel
theorem cndI6 : ∀ i, i < 7 → (narT.drop (sOff.getD (42 + i) 0)).take (cndS (sTab.getD (42 + i) sD0)).length = cndS (sTab.getD (42 + i) sD0) := by decide +kernel
theorem cndI7 : ∀ i, i < 7 → (narT.drop (sOff.getD (49 + i) 0)).take (cndS (sTab.getD (49 + i) sD0)).length = cndS (sTab.getD (49 + i) sD0) := by decide +kernel
theorem cndI8 : ∀ i, i < 7 → (narT.drop (sOff.getD (56 + i) 0)).take (cndS (sTab.getD (56 + i) sD0)).length = cndS (sTab.getD (56 + i) sD0) := by decide +kernel
theorem cndI9 : ∀ i, i < 7 → (narT.drop (sOff.getD (63 + i) 0)).take (cndS (sTab.getD (63 + i) sD0)).length = cndS (sTab.getD (63 + i) sD0) := by decide +kernel
theorem cndI10 : ∀ i, i < 7 → (narT.drop (sOff.getD (70 + i) 0)).take (cndS (sTab.getD (70 + i) sD0)).length = cndS (sTab.getD (70 + i) sD0) := by decide +kernel
theorem cndI (i : Nat) (h : i < 77) : (narT.drop (sOff.getD i 0)).take (cndS (sTab.getD i sD0)).length = cndS (sTab.getD i sD0) := by
  rcases (show (0 ≤ i ∧ i < 7) ∨ (7 ≤ i ∧ i < 14) ∨ (14 ≤ i ∧ i < 21) ∨ (21 ≤ i ∧ i < 28) ∨ (28 ≤ i ∧ i < 35) ∨ (35 ≤ i ∧ i < 42) ∨ (42 ≤ i ∧ i < 49) ∨ (49 ≤ i ∧ i < 56) ∨ (56 ≤ i ∧ i < 63) ∨ (63 ≤ i ∧ i < 70) ∨ (70 ≤ i ∧ i < 77) by omega) with ⟨h1, h2⟩ | ⟨h1, h2⟩ | ⟨h1, h2⟩ | ⟨h1, h2⟩ | ⟨h1, h2⟩ | ⟨h1, h2⟩ | ⟨h1, h2⟩ | ⟨h1, h2⟩ | ⟨h1, h2⟩ | ⟨h1, h2⟩ | ⟨h1, h2⟩
  · obtain ⟨j, rfl⟩ : ∃ j, i = 0 + j := ⟨i - 0, by omega⟩
    exact cndI0 j (by omega)
  · obtain ⟨j, rfl⟩ : ∃ j, i = 7 + j := ⟨i - 7, by omega⟩
    exact cndI1 j (by omega)
  · obtain ⟨j, rfl⟩ : ∃ j, i = 14 + j := ⟨i - 14, by omega⟩
    exact cndI2 j (by omega)
  · obtain ⟨j, rfl⟩ : ∃ j, i = 21 + j := ⟨i - 21, by omega⟩
    exact cndI3 j (by omega)
  · obtain ⟨j, rfl⟩ : ∃ j, i = 28 + j := ⟨i - 28, by omega⟩
    exact cndI4 j (by omega)
  · obtain ⟨j, rfl⟩ : ∃ j, i = 35 + j := ⟨i - 35, by omega⟩
    exact cndI5 j (by omega)
  · obtain ⟨j, rfl⟩ : ∃ j, i = 42 + j := ⟨i - 42, by omega⟩
    exact cndI6 j (by omega)
  · obtain ⟨j, rfl⟩ : ∃ j, i = 49 + j := ⟨i - 49, by omega⟩
    exact cndI7 j (by omega)
  · obtain ⟨j, rfl⟩ : ∃ j, i = 56 + j := ⟨i - 56, by omega⟩
    exact cndI8 j (by omega)
  · obtain ⟨j, rfl⟩ : ∃ j, i = 63 + j := ⟨i - 63, by omega⟩
    exact cndI9 j (by omega)
  · obtain ⟨j, rfl⟩ : ∃ j, i = 70 + j := ⟨i - 70, by omega⟩
    exact cndI10 j (by omega)
theorem cnd_of {i : Nat} {r : String × Nat × String × List Int32} (hi : sTab[i]? = some r) : ∀ c ∈ cndS r, c ∈ flatC (Jvm.Cond.and given_1 narrow_1) := by
  have hl : sTab.length = 77 := rfl
  have hlt : i < 77 := by have h := (List.getElem?_eq_some_iff.mp hi).1; omega
  have e : sTab.getD i sD0 = r := by rw [List.getD_eq_getElem?_getD, hi]; rfl
  have h := cndI i hlt
  rw [e] at h
  intro c hc
  rw [← h] at hc
  exact List.mem_of_mem_drop (List.mem_of_mem_take hc)
def sRefP (r : String × Nat × String × List Int32) : Prop := Cond.stringRef r.1 r.2.1 r.2.2.1 ∈ lw_tbl
theorem fcR {r : String × Nat × String × List Int32} {rs : List (String × Nat × String × List Int32)} (h : Cond.stringRef r.1 r.2.1 r.2.2.1 ∈ lw_tbl) (h2 : ∀ x ∈ rs, sRefP x) : ∀ x ∈ r :: rs, sRefP x := List.forall_mem_cons.mpr ⟨h, h2⟩
theorem fnR : ∀ x ∈ ([] : List (String × Nat × String × List Int32)), sRefP x := fun x h => absurd h List.not_mem_nil
theorem refS_all : ∀ r ∈ sTab, sRefP r := fcR (tg2 162 rfl) (fcR (tg3 9 rfl) (fcR (tg3 18 rfl) (fcR (tg3 52 rfl) (fcR (tg3 53 rfl) (fcR (tg3 74 rfl) (fcR (tg3 75 rfl) (fcR (tg3 102 rfl) (fcR (tg3 103 rfl) (fcR (tg3 104 rfl) (fcR (tg3 105 rfl) (fcR (tg3 106 rfl) (fcR (tg3 107 rfl) (fcR (tg3 108 rfl) (fcR (tg3 109 rfl) (fcR (tg3 110 rfl) (fcR (tg3 111 rfl) (fcR (tg3 112 rfl) (fcR (tg3 113 rfl) (fcR (tg3 114 rfl) (fcR (tg3 115 rfl) (fcR (tg3 116 rfl) (fcR (tg3 142 rfl) (fcR (tg3 182 rfl) (fcR (tg3 183 rfl) (fcR (tg3 184 rfl) (fcR (tg3 185 rfl) (fcR (tg4 59 rfl) (fcR (tg4 71 rfl) (fcR (tg7 20 rfl) (fcR (tg7 30 rfl) (fcR (tg7 38 rfl) (fcR (tg7 39 rfl) (fcR (tg7 40 rfl) (fcR (tg7 41 rfl) (fcR (tg7 42 rfl) (fcR (tg7 43 rfl) (fcR (tg7 44 rfl) (fcR (tg7 53 rfl) (fcR (tg7 64 rfl) (fcR (tg7 65 rfl) (fcR (tg7 66 rfl) (fcR (tg7 67 rfl) (fcR (tg7 68 rfl) (fcR (tg7 69 rfl) (fcR (tg7 70 rfl) (fcR (tg7 146 rfl) (fcR (tg7 147 rfl) (fcR (tg7 148 rfl) (fcR (tg7 149 rfl) (fcR (tg7 150 rfl) (fcR (tg7 151 rfl) (fcR (tg7 152 rfl) (fcR (tg7 153 rfl) (fcR (tg7 154 rfl) (fcR (tg7 155 rfl) (fcR (tg7 156 rfl) (fcR (tg7 157 rfl) (fcR (tg7 158 rfl) (fcR (tg7 159 rfl) (fcR (tg7 160 rfl) (fcR (tg7 161 rfl) (fcR (tg7 162 rfl) (fcR (tg7 163 rfl) (fcR (tg7 164 rfl) (fcR (tg7 168 rfl) (fcR (tg7 169 rfl) (fcR (tg7 170 rfl) (fcR (tg7 171 rfl) (fcR (tg7 172 rfl) (fcR (tg7 173 rfl) (fcR (tg7 174 rfl) (fcR (tg7 175 rfl) (fcR (tg7 176 rfl) (fcR (tg7 205 rfl) (fcR (tg7 210 rfl) (fcR (tg7 215 rfl) fnR))))))))))))))))))))))))))))))))))))))))))))))))))))))))))))))))))))))))))))
theorem sStr_start {b : Nat} {s : State} {A : Nat → Prop} (hts : ∀ w ∈ lw_tbl, w.before #[Value.ref b] s = true) (hs : ∀ c ∈ flatC (Jvm.Cond.and given_1 narrow_1), c.before #[Value.ref b] s = true) (hA : ∀ a : Nat, a < s.heap.size → ¬ A a) : ∃ ad : Nat → Nat × Nat, ∀ (i : Nat) (r : String × Nat × String × List Int32), sTab[i]? = some r → vk_R r.1 r.2.1 r.2.2.1 (ad i).1 s ∧ sStr r.2.2.2 (ad i).1 (ad i).2 A s s.heap := by
  have h0 : ∀ i : Nat, ∃ q : Nat × Nat, ∀ r, sTab[i]? = some r → vk_R r.1 r.2.1 r.2.2.1 q.1 s ∧ sStr r.2.2.2 q.1 q.2 A s s.heap := by
    intro i
    cases hi : sTab[i]? with
    | none => exact ⟨(0, 0), fun r h => by cases h⟩
    | some r0 =>
      have hm := List.mem_of_getElem? hi
      have hl := (sTab_all r0 hm).1
      have hc := fun c h => hs c (cnd_of hi c h)
      obtain ⟨a, v, q1, q2⟩ := sStr_of (tm := .string r0.1 r0.2.1) (tx := r0.2.2.2) (A := A) (by omega) (hc _ (List.mem_append_left _ (List.mem_of_getElem? (i := 0) rfl))) (hc _ (List.mem_append_left _ (List.mem_of_getElem? (i := 1) rfl))) (hc _ (List.mem_append_left _ (List.mem_of_getElem? (i := 2) rfl))) (hc _ (List.mem_append_left _ (List.mem_of_getElem? (i := 3) rfl))) (fun j hj => hc _ (List.mem_append_right _ (List.mem_map.mpr ⟨j, List.mem_range.mpr hj, rfl⟩))) hA
      exact ⟨(a, v), fun r h => by cases h; exact ⟨vk_R.of (hts _ (refS_all r0 hm)) q1, q2⟩⟩
  obtain ⟨ad, had⟩ := Classical.axiomOfChoice h0
  exact ⟨ad, had⟩
end Start0
section Start1
theorem sNw_start {b : Nat} {s : State} (hts : ∀ w ∈ lw_tbl, w.before #[Value.ref b] s = true) : sNw s := ⟨va_Nw.of rfl (hts (.methodLinkNest "ArrayTrainer" 18 yX3_init "ArrayTrainer") (tg1 37 rfl)), va_Nw.of rfl (hts (.methodLinkNest "ArrayTrainer$Program" 17 yX6_init "ArrayTrainer") (tg1 44 rfl)), va_Nw.of rfl (hts (.methodLinkNest "ArrayTrainer$Parser" 17 yX6_init "ArrayTrainer") (tg1 176 rfl)), va_Nw.of rfl (hts (.methodLinkNest "ArrayTrainer$Runner" 11 yX7_init "ArrayTrainer") (tg1 229 rfl)), va_Nw.of rfl (hts (.methodLinkNest "ArrayTrainer$Runner" 36 yX8_init "ArrayTrainer") (tg2 28 rfl)), va_Nw.of rfl (hts (.declares ⟨"java/lang/RuntimeException", "<init>", "()V"⟩) (tg4 138 rfl)), va_Nw.of rfl (hts (.declares ⟨"java/lang/Exception", "<init>", "()V"⟩) (tg4 140 rfl)), va_Nw.of rfl (hts (.declares ⟨"java/lang/Throwable", "<init>", "()V"⟩) (tg4 142 rfl)), va_Nw.of rfl (hts (.castable "java/util/NoSuchElementException" "java/util/NoSuchElementException") (tg4 137 rfl)), va_Nw.of rfl (hts (.castable "java/lang/IllegalStateException" "java/lang/IllegalStateException") (tg5 13 rfl)), va_AO.of (hts (.arrayOver (.object "ArrayTrainer$Step")) (tg1 42 rfl)), va_AO.of (hts (.arrayOver (.object "ArrayTrainer$Value")) (tg2 26 rfl))⟩
theorem sEnv_start {b : Nat} {s : State} (hts : ∀ w ∈ lw_tbl, w.before #[Value.ref b] s = true) (hgv : (Jvm.Cond.and given_1 narrow_1).before #[Value.ref b] s = true) : ∃ K : Nat → Nat → Nat, sEnv K (fun q : Nat => s.heap.size ≤ q) s s.heap := by
  have hs := flat_of_before _ hgv
  have hA : ∀ a : Nat, a < s.heap.size → ¬ (fun q : Nat => s.heap.size ≤ q) a := fun a h q => Nat.not_lt.mpr q h
  obtain ⟨ad, had⟩ := sStr_start (A := fun q : Nat => s.heap.size ≤ q) hts hs hA
  have hc0 : ∀ j, j < 8 → Cond.eq (.elem (.static "ArrayTrainer$Classes" "WIDENS" "[I") (.int (Int32.ofNat j))) (.int (st_WIDENS.getD j 0)) ∈ flatC (Jvm.Cond.and given_1 narrow_1) := by decide +kernel
  obtain ⟨t0, ht0, hT0⟩ := va_Tof (tm := (.static "ArrayTrainer$Classes" "WIDENS" "[I")) (ty := .int) (N := 8) (f := fun j => .int (st_WIDENS.getD j 0)) (A := fun q : Nat => s.heap.size ≤ q) (by decide) (hs _ (by decide +kernel)) (va_eqt (hs (Cond.eq (.length (.static "ArrayTrainer$Classes" "WIDENS" "[I")) (.int (Int32.ofNat 8))) (by decide +kernel))) (fun j hj => va_eqt (hs _ (hc0 j hj))) hA
  have hZ0 := va_Zof (A := fun q : Nat => s.heap.size ≤ q) (hts (.laysStatic "ArrayTrainer$Classes" "WIDENS" "[I") (tg4 105 rfl)) (hts (.initialized "ArrayTrainer$Classes") (tg1 17 rfl)) ht0 hA
  have hc1 : ∀ j, j < 9 → Cond.eq (.elem (.static "ArrayTrainer$Classes" "IS" "[I") (.int (Int32.ofNat j))) (.int (st_IS.getD j 0)) ∈ flatC (Jvm.Cond.and given_1 narrow_1) := by decide +kernel
  obtain ⟨t1, ht1, hT1⟩ := va_Tof (tm := (.static "ArrayTrainer$Classes" "IS" "[I")) (ty := .int) (N := 9) (f := fun j => .int (st_IS.getD j 0)) (A := fun q : Nat => s.heap.size ≤ q) (by decide) (hs _ (by decide +kernel)) (va_eqt (hs (Cond.eq (.length (.static "ArrayTrainer$Classes" "IS" "[I")) (.int (Int32.ofNat 9))) (by decide +kernel))) (fun j hj => va_eqt (hs _ (hc1 j hj))) hA
  have hZ1 := va_Zof (A := fun q : Nat => s.heap.size ≤ q) (hts (.laysStatic "ArrayTrainer$Classes" "IS" "[I") (tg4 85 rfl)) (hts (.initialized "ArrayTrainer$Classes") (tg1 17 rfl)) ht1 hA
  have hc2 : ∀ j, j < 8 → Cond.eq (.elem (.static "ArrayTrainer$Classes" "LEAST" "[J") (.int (Int32.ofNat j))) (.long (st_LEAST.getD j 0)) ∈ flatC (Jvm.Cond.and given_1 narrow_1) := by decide +kernel
  obtain ⟨t2, ht2, hT2⟩ := va_Tof (tm := (.static "ArrayTrainer$Classes" "LEAST" "[J")) (ty := .long) (N := 8) (f := fun j => .long (st_LEAST.getD j 0)) (A := fun q : Nat => s.heap.size ≤ q) (by decide) (hs _ (by decide +kernel)) (va_eqt (hs (Cond.eq (.length (.static "ArrayTrainer$Classes" "LEAST" "[J")) (.int (Int32.ofNat 8))) (by decide +kernel))) (fun j hj => va_eqtl (hs _ (hc2 j hj))) hA
  have hZ2 := va_Zof (A := fun q : Nat => s.heap.size ≤ q) (hts (.laysStatic "ArrayTrainer$Classes" "LEAST" "[J") (tg3 167 rfl)) (hts (.initialized "ArrayTrainer$Classes") (tg1 17 rfl)) ht2 hA
  have hc3 : ∀ j, j < 8 → Cond.eq (.elem (.static "ArrayTrainer$Classes" "GREATEST" "[J") (.int (Int32.ofNat j))) (.long (st_GREATEST.getD j 0)) ∈ flatC (Jvm.Cond.and given_1 narrow_1) := by decide +kernel
  obtain ⟨t3, ht3, hT3⟩ := va_Tof (tm := (.static "ArrayTrainer$Classes" "GREATEST" "[J")) (ty := .long) (N := 8) (f := fun j => .long (st_GREATEST.getD j 0)) (A := fun q : Nat => s.heap.size ≤ q) (by decide) (hs _ (by decide +kernel)) (va_eqt (hs (Cond.eq (.length (.static "ArrayTrainer$Classes" "GREATEST" "[J")) (.int (Int32.ofNat 8))) (by decide +kernel))) (fun j hj => va_eqtl (hs _ (hc3 j hj))) hA
  have hZ3 := va_Zof (A := fun q : Nat => s.heap.size ≤ q) (hts (.laysStatic "ArrayTrainer$Classes" "GREATEST" "[J") (tg3 170 rfl)) (hts (.initialized "ArrayTrainer$Classes") (tg1 17 rfl)) ht3 hA
  refine ⟨fun k i => if k = 0 then (ad i).1 else if k = 1 then (ad i).2 else [t0, t1, t2, t3].getD i 0, had, ?_, ⟨⟨hZ0, hT0⟩, ⟨hZ1, hT1⟩, ⟨hZ2, hT2⟩, ⟨hZ3, hT3⟩⟩, ?_, ?_, ?_, sNw_start hts⟩
  · exact va_Zof (hts (.laysStatic "java/lang/String" "COMPACT_STRINGS" "Z") (tg2 176 rfl)) (hts (.initialized "java/lang/String") (tg1 12 rfl)) (va_eqt (hs (Cond.eq (.static "java/lang/String" "COMPACT_STRINGS" "Z") (.int 1)) (by decide +kernel))) hA
  · exact vx_Zqof (hts (.laysStatic Bundle.tN "UNASSIGNED_STACK" Bundle.steD) (tg4 162 rfl)) (hts (.initialized Bundle.tN) (tg1 22 rfl)) (hs (.isRef (.static Bundle.tN "UNASSIGNED_STACK" Bundle.steD)) (by decide +kernel)) hA
  · exact vx_Zqof (hts (.laysStatic Bundle.tN "SUPPRESSED_SENTINEL" Bundle.listD) (tg4 164 rfl)) (hts (.initialized Bundle.tN) (tg1 22 rfl)) (hs (.isRef (.static Bundle.tN "SUPPRESSED_SENTINEL" Bundle.listD)) (by decide +kernel)) hA
  · exact va_Zqof (hts (.laysStatic "jdk/internal/util/Preconditions" "SIOOBE_FORMATTER" "Ljava/util/function/BiFunction;") (tg2 215 rfl)) (hts (.initialized "jdk/internal/util/Preconditions") (tg1 15 rfl)) (hs (.isRef (.static "jdk/internal/util/Preconditions" "SIOOBE_FORMATTER" "Ljava/util/function/BiFunction;")) (by decide +kernel)) hA
end Start1
