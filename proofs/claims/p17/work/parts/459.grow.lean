section Grow0
theorem aV.grow {L L' : List Nat} {K K' : Nat → Nat} (hL : ∀ x, x ∈ L → x ∈ L') (hK : ∀ x, x ∈ L → K' x = K x) {a : Nat} (h : aV L K a) : aV L' K' a := ⟨hL a h.1, (hK a h.1).trans h.2⟩
theorem aS.grow {L L' : List Nat} {K K' : Nat → Nat} (hL : ∀ x, x ∈ L → x ∈ L') (hK : ∀ x, x ∈ L → K' x = K x) {a : Nat} (h : aS L K a) : aS L' K' a := ⟨hL a h.1, (hK a h.1).trans h.2⟩
theorem aR.grow {L L' : List Nat} {K K' : Nat → Nat} (hL : ∀ x, x ∈ L → x ∈ L') (hK : ∀ x, x ∈ L → K' x = K x) {a : Nat} (h : aR L K a) : aR L' K' a := ⟨hL a h.1, (hK a h.1).trans h.2⟩
variable {L L' : List Nat} {K K' : Nat → Nat} {gB hB rS : Nat} {gS hS gS' hS' : Nat → Option Nat} {uA uO uH : Nat} {vs ms : Nat → Option Nat}
theorem RF.grow (hL : ∀ x, x ∈ L → x ∈ L') (hK : ∀ x, x ∈ L → K' x = K x) (h : RF L K gB hB rS gS hS uA uO uH vs ms) : RF L' K' gB hB rS gS hS uA uO uH vs ms :=
  ⟨h.1.grow hL hK, h.2.1.grow hL hK, h.2.2.1.grow hL hK, fun j hj => (h.2.2.2.1 j hj).imp id (fun ⟨a, e, z⟩ => ⟨a, e, z.grow hL hK⟩), fun j hj => (h.2.2.2.2.1 j hj).imp id (fun ⟨a, e, z⟩ => ⟨a, e, z.grow hL hK⟩), h.2.2.2.2.2.1.grow hL hK, h.2.2.2.2.2.2.1.grow hL hK, h.2.2.2.2.2.2.2.1.grow hL hK,
   fun j hj => (h.2.2.2.2.2.2.2.2.1 j hj).imp (fun _ z => ⟨z.1, z.2.grow hL hK⟩), fun j hj => (h.2.2.2.2.2.2.2.2.2 j hj).imp (fun _ z => ⟨z.1, z.2.grow hL hK⟩)⟩
theorem RF.setG (h : RF L K gB hB rS gS hS uA uO uH vs ms) {k a : Nat} (ha : aS L K a) (e : gS' = va_up gS k (some a)) : RF L K gB hB rS gS' hS uA uO uH vs ms := by
  subst e
  refine ⟨h.1, h.2.1, h.2.2.1, fun j hj => ?_, h.2.2.2.2⟩
  by_cases q : j = k
  · rw [q, va_up_self]; exact Or.inr ⟨a, rfl, ha⟩
  · rw [va_up_ne _ _ q]; exact h.2.2.2.1 j hj
theorem RF.setH (h : RF L K gB hB rS gS hS uA uO uH vs ms) {k a : Nat} (ha : aS L K a) (e : hS' = va_up hS k (some a)) : RF L K gB hB rS gS hS' uA uO uH vs ms := by
  subst e
  refine ⟨h.1, h.2.1, h.2.2.1, h.2.2.2.1, fun j hj => ?_, h.2.2.2.2.2⟩
  by_cases q : j = k
  · rw [q, va_up_self]; exact Or.inr ⟨a, rfl, ha⟩
  · rw [va_up_ne _ _ q]; exact h.2.2.2.2.1 j hj
/-- the two programs change places -/
theorem RF.swap (h : RF L K gB hB rS gS hS uA uO uH vs ms) : RF L K hB gB rS hS gS uA uO uH vs ms := ⟨h.2.1, h.1, h.2.2.1, h.2.2.2.2.1, h.2.2.2.1, h.2.2.2.2.2⟩
end Grow0
section Grow1
variable {cI : ClassId} {L : List Nat} {K : Nat → Nat} {vc : Nat → Int32} {vd : Nat → Int64} {si : Nat → Nat → Int32} {sj : Nat → Int64} {iv inn : Nat → Nat} {ac : Nat → Nat → Int32} {X : va_W} {A : Nat → Prop} {a b c : Nat} {e1 e2 e3 : va_E}
theorem fresh3 {f : Nat → va_E} (hD : va_D A ((X ++ va_pl L f) ++ [(a, e1), (b, e2), (c, e3)])) : a ∉ L ∧ b ∉ L ∧ c ∉ L ∧ a ≠ b ∧ a ≠ c ∧ b ≠ c := by
  have h := hD.1
  have g : ∀ j q, [(a, e1), (b, e2), (c, e3)][j]? = some q → ((X ++ va_pl L f) ++ [(a, e1), (b, e2), (c, e3)])[(X ++ va_pl L f).length + j]? = some q := fun j q hq => by
    rw [List.getElem?_append_right (by omega), Nat.add_sub_cancel_left]; exact hq
  have inL : ∀ (j x : Nat) (e : va_E), [(a, e1), (b, e2), (c, e3)][j]? = some (x, e) → x ∉ L := by
    intro j x e hj hx
    obtain ⟨k, hk⟩ := va_pl_get (X := X) (f := f) hx
    have hlt := (List.getElem?_eq_some_iff.mp hk).1
    have hk2 : ((X ++ va_pl L f) ++ [(a, e1), (b, e2), (c, e3)])[k]? = some (x, f x) := by rw [List.getElem?_append_left hlt]; exact hk
    have := h k _ (x, f x) (x, e) hk2 (g j _ hj) rfl
    omega
  refine ⟨inL 0 a e1 rfl, inL 1 b e2 rfl, inL 2 c e3 rfl, fun q => ?_, fun q => ?_, fun q => ?_⟩
  · have := h _ _ (a, e1) (b, e2) (g 0 _ rfl) (g 1 _ rfl) q
    omega
  · have := h _ _ (a, e1) (c, e3) (g 0 _ rfl) (g 2 _ rfl) q
    omega
  · have := h _ _ (b, e2) (c, e3) (g 1 _ rfl) (g 2 _ rfl) q
    omega
abbrev kAdd (K : Nat → Nat) (a b c : Nat) : Nat → Nat := va_up (va_up (va_up K a 1) b 2) c 2
theorem kAdd_old {x : Nat} (h1 : x ≠ a) (h2 : x ≠ b) (h3 : x ≠ c) : kAdd K a b c x = K x := by
  unfold kAdd
  rw [va_up_ne _ _ h3, va_up_ne _ _ h2, va_up_ne _ _ h1]
theorem kAdd_a (h2 : a ≠ b) (h3 : a ≠ c) : kAdd K a b c a = 1 := by
  unfold kAdd
  rw [va_up_ne _ _ h3, va_up_ne _ _ h2, va_up_self]
theorem kAdd_b (h3 : b ≠ c) : kAdd K a b c b = 2 := by
  unfold kAdd
  rw [va_up_ne _ _ h3, va_up_self]
theorem kAdd_c : kAdd K a b c c = 2 := by
  unfold kAdd
  rw [va_up_self]
theorem pool_add (h1 : a ∉ L) (h2 : b ∉ L) (h3 : c ∉ L) (n1 : a ≠ b) (n2 : a ≠ c) (n3 : b ≠ c) :
    (X ++ va_pl L (pf cI K vc vd si sj iv inn ac)) ++ [(a, .inr (5, [.int 0, .int 0, .int 0, .int 0, .int 0, .int 0, .int 0, .int 0, .int 0, .int 0, .ref b, .ref c, .int 0, .int 0, .long 0])), (b, .inl (cI, (3, .inl (fun _ => 0)))), (c, .inl (cI, (3, .inl (fun _ => 0))))]
      = X ++ va_pl (L ++ [a, b, c]) (pf cI (kAdd K a b c) vc vd (va_up si a (fun _ => 0)) (va_up sj a 0) (va_up iv a b) (va_up inn a c) (va_up (va_up ac b (fun _ => 0)) c (fun _ => 0))) := by
  rw [List.append_assoc]
  refine congrArg (fun l => X ++ l) ?_
  unfold va_pl
  rw [List.map_append]
  have e1 : L.map (fun x => (x, pf cI K vc vd si sj iv inn ac x)) = L.map (fun x => (x, pf cI (kAdd K a b c) vc vd (va_up si a (fun _ => 0)) (va_up sj a 0) (va_up iv a b) (va_up inn a c) (va_up (va_up ac b (fun _ => 0)) c (fun _ => 0)) x)) := List.map_congr_left (fun x hx => by
    have m1 : x ≠ a := fun q => h1 (q ▸ hx)
    have m2 : x ≠ b := fun q => h2 (q ▸ hx)
    have m3 : x ≠ c := fun q => h3 (q ▸ hx)
    unfold pf
    rw [kAdd_old m1 m2 m3, va_up_ne _ _ m1, va_up_ne _ _ m1, va_up_ne _ _ m1, va_up_ne _ _ m1, va_up_ne _ _ m3, va_up_ne _ _ m2])
  rw [e1]
  refine congrArg (fun l => _ ++ l) ?_
  simp only [List.map_cons, List.map_nil]
  rw [pf_S (kAdd_a n1 n2), pf_A (kAdd_b n3), pf_A kAdd_c, va_up_self, va_up_self, va_up_self, va_up_self, va_up_self, va_up_ne _ _ n3, va_up_self]
theorem grow_L (x : Nat) (h : x ∈ L) : x ∈ L ++ [a, b, c] := List.mem_append_left _ h
theorem grow_K (h1 : a ∉ L) (h2 : b ∉ L) (h3 : c ∉ L) (x : Nat) (hx : x ∈ L) : kAdd K a b c x = K x := kAdd_old (fun q => h1 (q ▸ hx)) (fun q => h2 (q ▸ hx)) (fun q => h3 (q ▸ hx))
theorem PI.add (h : PI L K si iv inn) (h1 : a ∉ L) (h2 : b ∉ L) (h3 : c ∉ L) (n1 : a ≠ b) (n2 : a ≠ c) (n3 : b ≠ c) : PI (L ++ [a, b, c]) (kAdd K a b c) (va_up si a (fun _ => 0)) (va_up iv a b) (va_up inn a c) := by
  intro x hx
  by_cases m1 : x = a
  · rw [m1, va_up_self, va_up_self, va_up_self]
    refine ⟨⟨by simp, kAdd_b n3⟩, ⟨by simp, kAdd_c⟩, by decide, by decide⟩
  · have hL : x ∈ L := by
      rcases List.mem_append.mp hx.1 with q | q
      · exact q
      · simp only [List.mem_cons, List.not_mem_nil, or_false] at q
        have hk := hx.2
        rcases q with q | q | q
        · exact absurd q m1
        · rw [q, kAdd_b n3] at hk; exact absurd hk (by decide)
        · rw [q, kAdd_c] at hk; exact absurd hk (by decide)
    have hk : K x = 1 := by rw [← grow_K (K := K) h1 h2 h3 x hL]; exact hx.2
    obtain ⟨g1, g2, g3, g4⟩ := h x ⟨hL, hk⟩
    rw [va_up_ne _ _ m1, va_up_ne _ _ m1, va_up_ne _ _ m1]
    exact ⟨g1.grow grow_L (grow_K h1 h2 h3), g2.grow grow_L (grow_K h1 h2 h3), g3, g4⟩
theorem aS.new (n1 : a ≠ b) (n2 : a ≠ c) : aS (L ++ [a, b, c]) (kAdd K a b c) a := ⟨by simp, kAdd_a n1 n2⟩
end Grow1
