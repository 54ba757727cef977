section Spell0
theorem cnt_mono (f : Nat → Int32) (a : Nat) : ∀ {b c : Nat}, b ≤ c → cnt f a b ≤ cnt f a c
  | b, 0, h => by
    have : b = 0 := by omega
    subst this; exact Nat.le_refl _
  | b, c + 1, h => by
    by_cases e : b = c + 1
    · subst e; exact Nat.le_refl _
    · have h1 := cnt_mono f a (show b ≤ c by omega)
      have h2 : cnt f a (c + 1) = cnt f a c + cntB (a ≤ c ∧ tks f c) := rfl
      omega
theorem cntB_yes {p : Prop} (h : p) : cntB p = 1 := by
  unfold cntB
  rw [if_pos h]
theorem ph_mono (f : Nat → Int32) {x y : Int32} (h0 : 0 ≤ x.toInt) (h : x.toInt ≤ y.toInt) : ph f x ≤ ph f y := cnt_mono f 0 (tn_le h0 h)
theorem ph_tk {f : Nat → Int32} {x y : Int32} (h0 : 0 ≤ x.toInt) (h : x.toInt < y.toInt) (ht : tks f x.toNatClampNeg) : ph f x + 1 ≤ ph f y := by
  have h1 : cnt f 0 (x.toNatClampNeg + 1) = cnt f 0 x.toNatClampNeg + cntB (0 ≤ x.toNatClampNeg ∧ tks f x.toNatClampNeg) := rfl
  rw [cntB_yes ⟨Nat.zero_le _, ht⟩] at h1
  have hx := tn h0
  have hy := tn (i := y) (by omega)
  have h2 := cnt_mono f 0 (show x.toNatClampNeg + 1 ≤ y.toNatClampNeg by omega)
  unfold ph
  omega
theorem not_last {f : Nat → Int32} {x t : Int32} (h0 : 0 ≤ x.toInt) (h : x.toInt < t.toInt) (h4 : (f (t.toNatClampNeg - 1)).toInt = 59) (ha : isAl (f x.toNatClampNeg)) : x.toInt + 1 < t.toInt := by
  have hx := tn h0
  have ht := tn (i := t) (by omega)
  rcases Int.lt_or_le (x.toInt + 1) t.toInt with q | q
  · exact q
  · exfalso
    have e : x.toNatClampNeg = t.toNatClampNeg - 1 := by omega
    rw [e] at ha
    rcases ha with ha | ha <;> omega
end Spell0
