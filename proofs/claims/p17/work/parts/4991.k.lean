section StartK
theorem arr_of9 {U : State} {cA comp : ClassId} {k : Class} {ty : FieldType} (h1 : U.vm.classes[cA]? = some k) (h2 : k.kind = .array comp ty) : ArrOfT U cA ty := fun N z => ⟨(fun k h => by cases h), k, h1, comp, h2⟩
set_option maxHeartbeats 4000000 in
set_option maxRecDepth 100000 in
theorem start_K {b : Nat} {s : State} (hts : ∀ w ∈ lw_tbl, w.before #[Value.ref b] s = true) : ∃ (D : va_G) (cs : Nat → ClassId), va_K D vwCl (twT cs) s := by
  obtain ⟨c0, i0, k0⟩ := u_known (C := RX1) (T := TX1) (N := 7) (n := 7) hts (fun w h => wsL_law_in w (inlX1 w h)) (hts (.instantiable RX1 7) (wsL_law_in _ (wr2 _ (List.mem_of_getElem? (i := 1) rfl))))
  obtain ⟨c1, i1, k1⟩ := u_known (C := RX2) (T := TX2) (N := 8) (n := 8) hts (fun w h => wsL_law_in w (inlX2 w h)) (hts (.instantiable RX2 8) (wsL_law_in _ (wr1 _ (List.mem_of_getElem? (i := 22) rfl))))
  obtain ⟨c2, i2, k2⟩ := u_known (C := RX3) (T := TX3) (N := 3) (n := 3) hts (fun w h => wsL_law_in w (inlX3 w h)) (hts (.instantiable RX3 3) (wsL_law_in _ (wr1 _ (List.mem_of_getElem? (i := 17) rfl))))
  obtain ⟨c3, i3, k3⟩ := u_known (C := RX4) (T := TX4) (N := 13) (n := 13) hts (fun w h => wsL_law_in w (inlX4 w h)) (hts (.instantiable RX4 13) (wsL_law_in _ (wr2 _ (List.mem_of_getElem? (i := 9) rfl))))
  obtain ⟨c4, i4, k4⟩ := u_known (C := RX5) (T := TX5) (N := 3) (n := 3) hts (fun w h => wsL_law_in w (inlX5 w h)) (hts (.instantiable RX5 3) (wsL_law_in _ (wr2 _ (List.mem_of_getElem? (i := 5) rfl))))
  obtain ⟨c5, i5, k5⟩ := u_known (C := RX6) (T := TX6) (N := 15) (n := 15) hts (fun w h => wsL_law_in w (inlX6 w h)) (hts (.instantiable RX6 15) (wsL_law_in _ (wr2 _ (List.mem_of_getElem? (i := 17) rfl))))
  obtain ⟨c6, i6, k6⟩ := u_known (C := RX7) (T := TX7) (N := 9) (n := 9) hts (fun w h => wsL_law_in w (inlX7 w h)) (hts (.instantiable RX7 9) (wsL_law_in _ (wr4 _ (List.mem_of_getElem? (i := 2) rfl))))
  obtain ⟨c7, i7, k7⟩ := u_known (C := RX8) (T := TX8) (N := 2) (n := 2) hts (fun w h => wsL_law_in w (inlX8 w h)) (hts (.instantiable RX8 2) (wsL_law_in _ (wr4 _ (List.mem_of_getElem? (i := 10) rfl))))
  obtain ⟨c8, i8, k8⟩ := u_known (C := RX9) (T := TX9) (N := 10) (n := 10) hts (fun w h => wsL_law_in w (inlX9 w h)) (hts (.instantiable RX9 10) (wsL_law_in _ (wr1 _ (List.mem_of_getElem? (i := 1) rfl))))
  obtain ⟨c9, i9, k9⟩ := u_known (C := RX10) (T := TX10) (N := 71) (n := 71) hts (fun w h => wsL_law_in w (inlX10 w h)) (hts (.instantiable RX10 71) (wsL_law_in _ (wr1 _ (List.mem_of_getElem? (i := 4) rfl))))
  obtain ⟨a0, y0, z0, e0, f0, g0⟩ := Cond.arrayClass_spec (hts (.arrayClass .int) (wsL_law_in _ (wr2 _ (List.mem_of_getElem? (i := 23) rfl))))
  obtain ⟨a1, y1, z1, e1, f1, g1⟩ := Cond.arrayClass_spec (hts (.arrayClass .long) (wsL_law_in _ (wr1 _ (List.mem_of_getElem? (i := 6) rfl))))
  obtain ⟨a2, y2, z2, e2, f2, g2⟩ := Cond.arrayClass_spec (hts (.arrayClass .byte) (wsL_law_in _ (wr1 _ (List.mem_of_getElem? (i := 13) rfl))))
  obtain ⟨z3, a3, y3, e3, -, f3, g3, h3⟩ := Cond.arrayOver_spec (hts (.arrayOver (.object "ArrayTrainer$Value")) (tg2 26 rfl))
  obtain ⟨z4, a4, y4, e4, -, f4, g4, h4⟩ := Cond.arrayOver_spec (hts (.arrayOver (.object "ArrayTrainer$Step")) (tg1 42 rfl))
  refine ⟨(fun k => if k = 0 then c0 else if k = 1 then c1 else if k = 2 then c2 else if k = 3 then c3 else if k = 4 then c4 else if k = 5 then c5 else if k = 6 then c6 else if k = 7 then c7 else if k = 8 then c8 else c9, fun k => if k = 0 then i0 else if k = 1 then i1 else if k = 2 then i2 else if k = 3 then i3 else if k = 4 then i4 else if k = 5 then i5 else if k = 6 then i6 else if k = 7 then i7 else if k = 8 then i8 else i9), fun k => if k = 0 then a0 else if k = 1 then a1 else if k = 2 then a2 else if k = 3 then a3 else a4, ?_, ?_⟩
  · intro k q hq
    match k, hq with
    | 0, hq => cases hq; exact k0
    | 1, hq => cases hq; exact k1
    | 2, hq => cases hq; exact k2
    | 3, hq => cases hq; exact k3
    | 4, hq => cases hq; exact k4
    | 5, hq => cases hq; exact k5
    | 6, hq => cases hq; exact k6
    | 7, hq => cases hq; exact k7
    | 8, hq => cases hq; exact k8
    | 9, hq => cases hq; exact k9
    | k + 10, hq => exact absurd (List.getElem?_eq_some_iff.mp hq).1 (by show ¬ k + 10 < 10; omega)
  · intro k q hq
    match k, hq with
    | 0, hq => cases hq; exact ⟨arr_of9 f0 g0, e0⟩
    | 1, hq => cases hq; exact ⟨arr_of9 f1 g1, e1⟩
    | 2, hq => cases hq; exact ⟨arr_of9 f2 g2, e2⟩
    | 3, hq => cases hq; exact ⟨arr_of9 f3 g3, y3, z3, f3, g3, e3, h3⟩
    | 4, hq => cases hq; exact ⟨arr_of9 f4 g4, y4, z4, f4, g4, e4, h4⟩
    | k + 5, hq => exact absurd (List.getElem?_eq_some_iff.mp hq).1 (by show ¬ k + 5 < 5; omega)
end StartK
