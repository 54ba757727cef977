section Pool9
abbrev eV : va_E := .inr (7, [.int (-1), .long 0])
abbrev eS (b c : Nat) : va_E := .inr (5, [.int 0, .int 0, .int 0, .int 0, .int 0, .int 0, .int 0, .int 0, .int 0, .int 0, .ref b, .ref c, .int 0, .int 0, .long 0])
abbrev eR (cI : ClassId) : va_E := .inl (cI, (3, .inl (fun _ => 0)))
theorem plV {X : va_W} {cI : ClassId} {L : List Nat} {v1 v2 v3 : Nat} {si : Nat → Nat → Int32} {sj : Nat → Int64} {iv inn : Nat → Nat} {ac : Nat → Nat → Int32} : (X ++ [(v1, eV), (v2, eV), (v3, eV)]) ++ va_pl L (fun _ => eV) = X ++ va_pl ([v1, v2, v3] ++ L) (pf cI (fun _ => 0) (fun _ => -1) (fun _ => 0) si sj iv inn ac) := by
  rw [List.append_assoc]
  refine congrArg (fun l => X ++ l) ?_
  have e : pf cI (fun _ => 0) (fun _ => -1) (fun _ => 0) si sj iv inn ac = fun _ => eV := by
    funext a
    exact pf_V rfl
  rw [e]
  simp [va_pl]
theorem pool0 {D : va_G} {cl : List vw_C} {A : Nat → Prop} {H : Heap} {X : va_W} {cI : ClassId} {L : List Nat} {v1 v2 v3 s1 r1 r2 s2 r3 r4 s3 r5 r6 : Nat}
    (hP : va_P D cl (((X ++ [(v1, eV), (v2, eV), (v3, eV)]) ++ [(s1, eS r1 r2), (r1, eR cI), (r2, eR cI), (s2, eS r3 r4), (r3, eR cI), (r4, eR cI), (s3, eS r5 r6), (r5, eR cI), (r6, eR cI)]) ++ va_pl L (fun _ => eV)) H)
    (hD : va_D A (((X ++ [(v1, eV), (v2, eV), (v3, eV)]) ++ [(s1, eS r1 r2), (r1, eR cI), (r2, eR cI), (s2, eS r3 r4), (r3, eR cI), (r4, eR cI), (s3, eS r5 r6), (r5, eR cI), (r6, eR cI)]) ++ va_pl L (fun _ => eV))) :
    ∃ (LL : List Nat) (K : Nat → Nat) (si : Nat → Nat → Int32) (sj : Nat → Int64) (iv inn : Nat → Nat) (ac : Nat → Nat → Int32), va_P D cl (X ++ va_pl LL (pf cI K (fun _ => -1) (fun _ => 0) si sj iv inn ac)) H ∧ va_D A (X ++ va_pl LL (pf cI K (fun _ => -1) (fun _ => 0) si sj iv inn ac)) ∧ PI LL K si iv inn ∧ (aS LL K s1 ∧ aS LL K s2 ∧ aS LL K s3) ∧ (∀ a, a ∈ [v1, v2, v3] ++ L → aV LL K a) := by
  have hP := hP.swap
  have hD := hD.swap
  obtain ⟨K0, eK⟩ : ∃ z : Nat → Nat, z = fun _ => 0 := ⟨_, rfl⟩
  obtain ⟨L0, eL⟩ : ∃ z : List Nat, z = [v1, v2, v3] ++ L := ⟨_, rfl⟩
  obtain ⟨i0, ei⟩ : ∃ z : Nat → Nat, z = fun _ => 0 := ⟨_, rfl⟩
  rw [plV (cI := cI) (si := fun _ _ => 0) (sj := fun _ => 0) (iv := i0) (inn := i0) (ac := fun _ _ => 0), ← eK, ← eL] at hP hD
  have hV : ∀ a, a ∈ L0 → aV L0 K0 a := fun a h => ⟨h, by rw [eK]⟩
  have h0 : PI L0 K0 (fun _ _ => 0) i0 i0 := fun a h => absurd h.2 (by rw [eK]; exact fun q => by cases q)
  have sp : ∀ (w : va_W) (a b c d e f g h i : Nat × va_E), w ++ [a, b, c, d, e, f, g, h, i] = ((w ++ [a, b, c]) ++ [d, e, f]) ++ [g, h, i] := fun w a b c d e f g h i => by simp
  rw [sp] at hP hD
  have hDa := subLD (subLD hD)
  obtain ⟨m1, m2, m3, m4, m5, m6⟩ := fresh3 hDa
  rw [pool_add m1 m2 m3 m4 m5 m6] at hP hD
  have h1 := h0.add m1 m2 m3 m4 m5 m6
  have hDb := subLD hD
  obtain ⟨k1, k2, k3, k4, k5, k6⟩ := fresh3 hDb
  rw [pool_add k1 k2 k3 k4 k5 k6] at hP hD
  have h2 := h1.add k1 k2 k3 k4 k5 k6
  obtain ⟨n1, n2, n3, n4, n5, n6⟩ := fresh3 hD
  rw [pool_add n1 n2 n3 n4 n5 n6] at hP hD
  have h3 := h2.add n1 n2 n3 n4 n5 n6
  refine ⟨_, _, _, _, _, _, _, hP, hD, h3, ⟨?_, ?_, aS.new n4 n5⟩, fun a ha => ?_⟩
  · exact ((aS.new m4 m5).grow grow_L (grow_K k1 k2 k3)).grow grow_L (grow_K n1 n2 n3)
  · exact (aS.new k4 k5).grow grow_L (grow_K n1 n2 n3)
  · exact (((hV a (by rw [eL]; exact ha)).grow grow_L (grow_K m1 m2 m3)).grow grow_L (grow_K k1 k2 k3)).grow grow_L (grow_K n1 n2 n3)
theorem MDL.start {tp : Nat → Int32} : True := trivial
end Pool9
