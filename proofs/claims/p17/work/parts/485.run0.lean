section Run9
theorem plPush (w : va_W) (L : List Nat) (q : Nat) {e : va_E} : (w ++ va_pl L (fun _ => e)) ++ [(q, e)] = w ++ va_pl (L ++ [q]) (fun _ => e) := by simp [va_pl]
theorem rowSet {f g : Nat → Option Nat} {L : List Nat} {k k2 : Int32} {q : Nat} (h : ∀ j : Nat, (j : Int) < k.toInt → ∃ a, f j = some a ∧ a ∈ L) (h0 : 0 ≤ k.toInt) (hk : k2.toInt = k.toInt + 1) (e : g = va_up f k.toNatClampNeg (some q)) : ∀ j : Nat, (j : Int) < k2.toInt → ∃ a, g j = some a ∧ a ∈ L ++ [q] := by
  intro j hj
  have t := tn h0
  rw [e]
  by_cases z : j = k.toNatClampNeg
  · rw [z, va_up_self]; exact ⟨q, rfl, by simp⟩
  · rw [va_up_ne _ _ z]
    obtain ⟨a, h1, h2⟩ := h j (by omega)
    exact ⟨a, h1, List.mem_append_left _ h2⟩
end Run9
