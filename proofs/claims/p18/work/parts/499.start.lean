section Start0
theorem sStr_of {args : Array Value} {s : State} {tm : Term} {tx : List Int32} {A : Nat → Prop} (hN : tx.length < 2 ^ 31) (hex : (Cond.exactly tm "java/lang/String").before args s = true) (hco : (Cond.eq (.field tm "java/lang/String" "coder" "B") (.int 0)).before args s = true) (har : (Cond.arrayOf (.field tm "java/lang/String" "value" "[B") .byte).before args s = true) (hle : (Cond.eq (.length (.field tm "java/lang/String" "value" "[B")) (.int (Int32.ofNat tx.length))).before args s = true) (hel : ∀ j : Nat, j < tx.length → (Cond.eq (.elem (.field tm "java/lang/String" "value" "[B") (.int (Int32.ofNat j))) (.int (tx.getD j 0))).before args s = true) (hA : ∀ a : Nat, a < s.heap.size → ¬ A a) : ∃ a v : Nat, tm.eval args s none [] s = some (.ref a) ∧ sStr tx a v A s s.heap := by
  obtain ⟨a, c, cA, kA, q1, q2, q3, q4, q5, q6, -⟩ := Cond.exactly_spec (args := args) (first := s) (o := none) (s := s) (idx := []) (t := tm) (cls := "java/lang/String") hex
  obtain ⟨t, ht, hT⟩ := va_Tof (f := fun j => .int (tx.getD j 0)) (A := A) hN har (va_eqt hle) (fun j hj => va_eqt (hel j hj)) hA
  exact ⟨a, t, q1, ⟨cA, q3, q5, by rw [q6]; exact q2, hA a (Array.getElem?_eq_some_iff.mp q3).1⟩, vk_OFof q1 (va_eqt hco) hA, vk_OFof q1 ht hA, hT⟩
def cndS (r : String × Nat × String × List Int32) : List Cond := [Cond.exactly (.string r.1 r.2.1) "java/lang/String", Cond.eq (.field (.string r.1 r.2.1) "java/lang/String" "coder" "B") (.int 0), Cond.arrayOf (.field (.string r.1 r.2.1) "java/lang/String" "value" "[B") .byte, Cond.eq (.length (.field (.string r.1 r.2.1) "java/lang/String" "value" "[B")) (.int (Int32.ofNat r.2.2.2.length))] ++ (List.range r.2.2.2.length).map (fun j => Cond.eq (.elem (.field (.string r.1 r.2.1) "java/lang/String" "value" "[B") (.int (Int32.ofNat j))) (.int (r.2.2.2.getD j 0)))
theorem cndS_all : ∀ r ∈ sTab, ∀ c ∈ cndS r, c ∈ flatC (Jvm.Cond.and given_1 narrow_1) := by decide +kernel
theorem refS_all : ∀ r ∈ sTab, Cond.stringRef r.1 r.2.1 r.2.2.1 ∈ lw_tbl := by decide +kernel
theorem sStr_start {b : Nat} {s : State} {A : Nat → Prop} (hts : ∀ w ∈ lw_tbl, w.before #[Value.ref b] s = true) (hs : ∀ c ∈ flatC (Jvm.Cond.and given_1 narrow_1), c.before #[Value.ref b] s = true) (hA : ∀ a : Nat, a < s.heap.size → ¬ A a) : ∃ ad : Nat → Nat × Nat, ∀ (i : Nat) (r : String × Nat × String × List Int32), sTab[i]? = some r → vk_R r.1 r.2.1 r.2.2.1 (ad i).1 s ∧ sStr r.2.2.2 (ad i).1 (ad i).2 A s s.heap := by
  have h0 : ∀ i : Nat, ∃ q : Nat × Nat, ∀ r, sTab[i]? = some r → vk_R r.1 r.2.1 r.2.2.1 q.1 s ∧ sStr r.2.2.2 q.1 q.2 A s s.heap := by
    intro i
    cases hi : sTab[i]? with
    | none => exact ⟨(0, 0), fun r h => by cases h⟩
    | some r0 =>
      have hm := List.mem_of_getElem? hi
      have hl := (sTab_all r0 hm).1
      have hc := fun c h => hs c (cndS_all r0 hm c h)
      obtain ⟨a, v, q1, q2⟩ := sStr_of (tm := .string r0.1 r0.2.1) (tx := r0.2.2.2) (A := A) (by omega) (hc _ (List.mem_append_left _ (List.mem_of_getElem? (i := 0) rfl))) (hc _ (List.mem_append_left _ (List.mem_of_getElem? (i := 1) rfl))) (hc _ (List.mem_append_left _ (List.mem_of_getElem? (i := 2) rfl))) (hc _ (List.mem_append_left _ (List.mem_of_getElem? (i := 3) rfl))) (fun j hj => hc _ (List.mem_append_right _ (List.mem_map.mpr ⟨j, List.mem_range.mpr hj, rfl⟩))) hA
      exact ⟨(a, v), fun r h => by cases h; exact ⟨vk_R.of (hts _ (refS_all r0 hm)) q1, q2⟩⟩
  obtain ⟨ad, had⟩ := Classical.axiomOfChoice h0
  exact ⟨ad, had⟩
end Start0
section Start1
theorem sNw_start {b : Nat} {s : State} (hts : ∀ w ∈ lw_tbl, w.before #[Value.ref b] s = true) : sNw s := ⟨va_Nw.of rfl (hts _ (by decide +kernel)), va_Nw.of rfl (hts _ (by decide +kernel)), va_Nw.of rfl (hts _ (by decide +kernel)), va_Nw.of rfl (hts _ (by decide +kernel)), va_Nw.of rfl (hts _ (by decide +kernel)), va_Nw.of rfl (hts _ (by decide +kernel)), va_Nw.of rfl (hts _ (by decide +kernel)), va_Nw.of rfl (hts _ (by decide +kernel)), va_Nw.of rfl (hts _ (by decide +kernel)), va_Nw.of rfl (hts _ (by decide +kernel)), va_AO.of (hts (.arrayOver (.object "ArrayTrainer$Step")) (by decide +kernel)), va_AO.of (hts (.arrayOver (.object "ArrayTrainer$Value")) (by decide +kernel))⟩
theorem sEnv_start {b : Nat} {s : State} (hts : ∀ w ∈ lw_tbl, w.before #[Value.ref b] s = true) (hgv : (Jvm.Cond.and given_1 narrow_1).before #[Value.ref b] s = true) : ∃ K : Nat → Nat → Nat, sEnv K (fun q : Nat => s.heap.size ≤ q) s s.heap := by
  have hs := flat_of_before _ hgv
  have hA : ∀ a : Nat, a < s.heap.size → ¬ (fun q : Nat => s.heap.size ≤ q) a := fun a h q => Nat.not_lt.mpr q h
  obtain ⟨ad, had⟩ := sStr_start (A := fun q : Nat => s.heap.size ≤ q) hts hs hA
  have hc0 : ∀ j, j < 8 → Cond.eq (.elem (.static "ArrayTrainer$Classes" "WIDENS" "[I") (.int (Int32.ofNat j))) (.int (st_WIDENS.getD j 0)) ∈ flatC (Jvm.Cond.and given_1 narrow_1) := by decide +kernel
  obtain ⟨t0, ht0, hT0⟩ := va_Tof (tm := (.static "ArrayTrainer$Classes" "WIDENS" "[I")) (ty := .int) (N := 8) (f := fun j => .int (st_WIDENS.getD j 0)) (A := fun q : Nat => s.heap.size ≤ q) (by decide) (hs _ (by decide +kernel)) (va_eqt (hs (Cond.eq (.length (.static "ArrayTrainer$Classes" "WIDENS" "[I")) (.int (Int32.ofNat 8))) (by decide +kernel))) (fun j hj => va_eqt (hs _ (hc0 j hj))) hA
  have hZ0 := va_Zof (A := fun q : Nat => s.heap.size ≤ q) (hts (.laysStatic "ArrayTrainer$Classes" "WIDENS" "[I") (by decide +kernel)) (hts (.initialized "ArrayTrainer$Classes") (by decide +kernel)) ht0 hA
  have hc1 : ∀ j, j < 9 → Cond.eq (.elem (.static "ArrayTrainer$Classes" "IS" "[I") (.int (Int32.ofNat j))) (.int (st_IS.getD j 0)) ∈ flatC (Jvm.Cond.and given_1 narrow_1) := by decide +kernel
  obtain ⟨t1, ht1, hT1⟩ := va_Tof (tm := (.static "ArrayTrainer$Classes" "IS" "[I")) (ty := .int) (N := 9) (f := fun j => .int (st_IS.getD j 0)) (A := fun q : Nat => s.heap.size ≤ q) (by decide) (hs _ (by decide +kernel)) (va_eqt (hs (Cond.eq (.length (.static "ArrayTrainer$Classes" "IS" "[I")) (.int (Int32.ofNat 9))) (by decide +kernel))) (fun j hj => va_eqt (hs _ (hc1 j hj))) hA
  have hZ1 := va_Zof (A := fun q : Nat => s.heap.size ≤ q) (hts (.laysStatic "ArrayTrainer$Classes" "IS" "[I") (by decide +kernel)) (hts (.initialized "ArrayTrainer$Classes") (by decide +kernel)) ht1 hA
  have hc2 : ∀ j, j < 8 → Cond.eq (.elem (.static "ArrayTrainer$Classes" "LEAST" "[J") (.int (Int32.ofNat j))) (.long (st_LEAST.getD j 0)) ∈ flatC (Jvm.Cond.and given_1 narrow_1) := by decide +kernel
  obtain ⟨t2, ht2, hT2⟩ := va_Tof (tm := (.static "ArrayTrainer$Classes" "LEAST" "[J")) (ty := .long) (N := 8) (f := fun j => .long (st_LEAST.getD j 0)) (A := fun q : Nat => s.heap.size ≤ q) (by decide) (hs _ (by decide +kernel)) (va_eqt (hs (Cond.eq (.length (.static "ArrayTrainer$Classes" "LEAST" "[J")) (.int (Int32.ofNat 8))) (by decide +kernel))) (fun j hj => va_eqt (hs _ (hc2 j hj))) hA
  have hZ2 := va_Zof (A := fun q : Nat => s.heap.size ≤ q) (hts (.laysStatic "ArrayTrainer$Classes" "LEAST" "[J") (by decide +kernel)) (hts (.initialized "ArrayTrainer$Classes") (by decide +kernel)) ht2 hA
  have hc3 : ∀ j, j < 8 → Cond.eq (.elem (.static "ArrayTrainer$Classes" "GREATEST" "[J") (.int (Int32.ofNat j))) (.long (st_GREATEST.getD j 0)) ∈ flatC (Jvm.Cond.and given_1 narrow_1) := by decide +kernel
  obtain ⟨t3, ht3, hT3⟩ := va_Tof (tm := (.static "ArrayTrainer$Classes" "GREATEST" "[J")) (ty := .long) (N := 8) (f := fun j => .long (st_GREATEST.getD j 0)) (A := fun q : Nat => s.heap.size ≤ q) (by decide) (hs _ (by decide +kernel)) (va_eqt (hs (Cond.eq (.length (.static "ArrayTrainer$Classes" "GREATEST" "[J")) (.int (Int32.ofNat 8))) (by decide +kernel))) (fun j hj => va_eqt (hs _ (hc3 j hj))) hA
  have hZ3 := va_Zof (A := fun q : Nat => s.heap.size ≤ q) (hts (.laysStatic "ArrayTrainer$Classes" "GREATEST" "[J") (by decide +kernel)) (hts (.initialized "ArrayTrainer$Classes") (by decide +kernel)) ht3 hA
  refine ⟨fun k i => if k = 0 then (ad i).1 else if k = 1 then (ad i).2 else [t0, t1, t2, t3].getD i 0, had, ?_, ⟨⟨hZ0, hT0⟩, ⟨hZ1, hT1⟩, ⟨hZ2, hT2⟩, ⟨hZ3, hT3⟩⟩, ?_, ?_, ?_, sNw_start hts⟩
  · exact va_Zof (hts (.laysStatic "java/lang/String" "COMPACT_STRINGS" "Z") (by decide +kernel)) (hts (.initialized "java/lang/String") (by decide +kernel)) (va_eqt (hs (Cond.eq (.static "java/lang/String" "COMPACT_STRINGS" "Z") (.int 1)) (by decide +kernel))) hA
  · exact vx_Zqof (hts (.laysStatic Bundle.tN "UNASSIGNED_STACK" Bundle.steD) (by decide +kernel)) (hts (.initialized Bundle.tN) (by decide +kernel)) (hs (.isRef (.static Bundle.tN "UNASSIGNED_STACK" Bundle.steD)) (by decide +kernel)) hA
  · exact vx_Zqof (hts (.laysStatic Bundle.tN "SUPPRESSED_SENTINEL" Bundle.listD) (by decide +kernel)) (hts (.initialized Bundle.tN) (by decide +kernel)) (hs (.isRef (.static Bundle.tN "SUPPRESSED_SENTINEL" Bundle.listD)) (by decide +kernel)) hA
  · exact va_Zqof (hts (.laysStatic "jdk/internal/util/Preconditions" "SIOOBE_FORMATTER" "Ljava/util/function/BiFunction;") (by decide +kernel)) (hts (.initialized "jdk/internal/util/Preconditions") (by decide +kernel)) (hs (.isRef (.static "jdk/internal/util/Preconditions" "SIOOBE_FORMATTER" "Ljava/util/function/BiFunction;")) (by decide +kernel)) hA
end Start1
