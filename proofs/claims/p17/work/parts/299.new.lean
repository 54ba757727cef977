section New0
theorem numOK0 (k : Int32) {v : Int64} (h : v = 0) : NumOK k v := by
  subst h
  exact ⟨fun _ => by unfold fOK; first | decide | (intro q; cases q) | (intro q; injection q), fun _ => by unfold dOK; first | decide | (intro q; cases q)⟩
/-- a cell of a new array of class c -/
def NC (c s k : Int32) (v : Int64) : Prop := (s.toInt = 1 ∧ NumOK k v) ∨ (s.toInt = 0 ∧ 28 ≤ c.toInt)
/-- the cells below ce are the old ones, n cells from ce on are new -/
def NCS (c ce n : Int32) (cs0 ck0 : Nat → Int32) (cv0 : Nat → Int64) (cs ck : Nat → Int32) (cv : Nat → Int64) : Prop :=
  (∀ j : Nat, (j : Int) < ce.toInt → cs j = cs0 j ∧ ck j = ck0 j ∧ cv j = cv0 j) ∧ (∀ j : Nat, (j : Int) < n.toInt → NC c (cs (ce.toNatClampNeg + j)) (ck (ce.toNatClampNeg + j)) (cv (ce.toNatClampNeg + j)))
variable {vs vk : Nat → Int32} {vv : Nat → Int64} {ar ar' ce ce' cr c n n' : Int32} {cls frm lng cls' frm' lng' cs0 ck0 cs ck cs' ck' : Nat → Int32} {cv0 cv cv' : Nat → Int64}
theorem NCS.zero (h : n.toInt = 0) : NCS c ce n cs ck cv cs ck cv := ⟨fun _ _ => ⟨rfl, rfl, rfl⟩, fun j hj => by omega⟩
theorem NCS.next {s k : Int32} {v : Int64} {d : Nat} (h : NCS c ce n cs0 ck0 cv0 cs ck cv) (hv : NC c s k v) (h0 : 0 ≤ ce.toInt) (h1 : 0 ≤ n.toInt) (h2 : n'.toInt = n.toInt + 1) (hd : d = ce.toNatClampNeg + n.toNatClampNeg)
    (e1 : cs' = upd cs d s) (e2 : ck' = upd ck d k) (e3 : cv' = vp_updL cv d v) : NCS c ce n' cs0 ck0 cv0 cs' ck' cv' := by
  subst e1; subst e2; subst e3; subst hd
  have t0 := tn h0
  have t1 := tn h1
  refine ⟨fun j hj => ?_, fun j hj => ?_⟩
  · have hne : j ≠ ce.toNatClampNeg + n.toNatClampNeg := by omega
    rw [upd_ne cs s hne, upd_ne ck k hne, updL_ne cv v hne]
    exact h.1 j hj
  · by_cases e : j = n.toNatClampNeg
    · rw [e, upd_at, upd_at, updL_at]; exact hv
    · have hne : ce.toNatClampNeg + j ≠ ce.toNatClampNeg + n.toNatClampNeg := by omega
      rw [upd_ne cs s hne, upd_ne ck k hne, updL_ne cv v hne]
      exact h.2 j (by omega)
theorem NC.vok {A B : Int} {s k : Int32} {v : Int64} (h : NC c s k v) : VOK A B s k v := by
  rcases h with ⟨h1, h2⟩ | ⟨h1, _⟩
  · exact ⟨⟨by omega, by omega⟩, fun q => by omega, fun q => by omega, fun _ => h2⟩
  · exact VOK.none h1
theorem RUN.newArr (h : RUN vs vk vv ar ce cr cls frm lng cs0 ck0 cv0) (hn : NCS c ce n cs0 ck0 cv0 cs ck cv) (ha : ar'.toInt = ar.toInt + 1) (ha2 : ar'.toInt ≤ 200) (hc : ce'.toInt = ce.toInt + n.toInt) (hc2 : ce'.toInt ≤ 4000)
    (hn0 : 0 ≤ n.toInt) (hn1 : n.toInt ≤ 500) (hk0 : 20 ≤ c.toInt) (hk1 : c.toInt ≤ 79)
    (e1 : cls' = upd cls ar.toNatClampNeg c) (e2 : frm' = upd frm ar.toNatClampNeg ce) (e3 : lng' = upd lng ar.toNatClampNeg n) : RUN vs vk vv ar' ce' cr cls' frm' lng' cs ck cv := by
  subst e1; subst e2; subst e3
  obtain ⟨⟨⟨a0, a1⟩, ⟨b0, b1⟩, d0⟩, hA, hV, hC, hO⟩ := h
  have t0 := tn a0
  have tc := tn b0
  refine ⟨⟨⟨by omega, ha2⟩, ⟨by omega, hc2⟩, d0⟩, fun a h => ?_, fun j hj => (hV j hj).mono (by omega) (Int.le_refl _), fun a i h hi => ?_, fun a b hab hb => ?_⟩
  · by_cases e : a = ar.toNatClampNeg
    · subst e
      unfold AOK
      rw [upd_at, upd_at, upd_at]
      exact ⟨⟨hk0, hk1⟩, b0, ⟨hn0, hn1⟩, by omega⟩
    · have q := hA a (by omega)
      unfold AOK at q ⊢
      rw [upd_ne cls c e, upd_ne frm ce e, upd_ne lng n e]
      exact ⟨q.1, q.2.1, q.2.2.1, by omega⟩
  · by_cases e : a = ar.toNatClampNeg
    · subst e
      rw [upd_at] at hi
      have q := hn.2 i hi
      unfold COK
      rw [upd_at, upd_at]
      refine ⟨q.vok, fun q3 => ?_, fun q1 => ?_⟩
      · rcases q with ⟨q, _⟩ | ⟨q, _⟩ <;> omega
      · rcases q with ⟨q, _⟩ | ⟨_, q⟩ <;> omega
    · rw [upd_ne lng n e] at hi
      have q := hA a (by omega)
      have tf := tn q.2.1
      have q2 := hC a i (by omega) hi
      have hz : (((frm a).toNatClampNeg + i : Nat) : Int) < ce.toInt := by have := q.2.2.2; omega
      obtain ⟨z1, z2, z3⟩ := hn.1 _ hz
      unfold COK at q2 ⊢
      rw [upd_ne cls c e, upd_ne frm ce e, z1, z2, z3]
      obtain ⟨y1, y2, y3⟩ := q2
      refine ⟨y1.mono (by omega) (Int.le_refl _), fun q3 => ?_, y3⟩
      have y4 := y1.2.1 q3
      rw [upd_ne cls c (show (cv0 ((frm a).toNatClampNeg + i)).toInt.toNat ≠ ar.toNatClampNeg by omega)]
      exact y2 q3
  · have e : a ≠ ar.toNatClampNeg := by omega
    have q := hA a (by omega)
    rw [upd_ne frm ce e, upd_ne lng n e]
    by_cases e2 : b = ar.toNatClampNeg
    · rw [e2, upd_at]; exact q.2.2.2
    · rw [upd_ne frm ce e2]; exact hO a b hab (by omega)
end New0
