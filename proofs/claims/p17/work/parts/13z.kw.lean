def kwL : List (List Int32) := [[116, 114, 117, 116, 104], [98, 121, 116, 101], [115, 104, 111, 114, 116], [99, 104, 97, 114], [105, 110, 116], [108, 111, 110, 103], [102, 108, 111, 97, 116], [100, 111, 117, 98, 108, 101], [98, 101, 97, 115, 116], [99, 97, 116], [108, 105, 111, 110], [100, 111, 103], [98, 105, 114, 100], [100, 117, 99, 107], [98, 97, 116], [102, 108, 105, 101, 114], [115, 119, 105, 109, 109, 101, 114]]
/-- what is of kind a is of kind b -/
def KOp (a b : Int) : Prop := a = b ∨ (b = 8 ∧ 8 < a ∧ a < 15) ∨ (b = 9 ∧ a = 10) ∨ (b = 12 ∧ a = 13) ∨ (b = 15 ∧ 11 < a ∧ a < 15) ∨ (b = 16 ∧ (a = 11 ∨ a = 13))
def BLp (a b : Int) : Prop := a = b ∨ (a / 20 = b / 20 ∧ 7 < a % 20 ∧ 7 < b % 20 ∧ KOp (a % 20) (b % 20))
def WDp (a b : Int) : Prop := a = b ∨ (a = 1 ∧ (b = 2 ∨ (3 < b ∧ b < 8))) ∨ ((a = 2 ∨ a = 3) ∧ 3 < b ∧ b < 8) ∨ (a = 4 ∧ 4 < b ∧ b < 8) ∨ (a = 5 ∧ 5 < b ∧ b < 8) ∨ (a = 6 ∧ b = 7)
def ICp (c : Int) : Prop := 0 ≤ c ∧ c < 80 ∧ c % 20 < 17 ∧ (20 ≤ c ∨ c < 15)
theorem BLp.dims {a b : Int} (h : BLp a b) : a / 20 = b / 20 := by
  rcases h with h | h
  · rw [h]
  · exact h.1
theorem BLp.in (a b : Int) {x y : Int} (hd : a / 20 = b / 20) (h7 : 7 < a % 20) (h8 : 7 < b % 20) (hx : x = a % 20) (hy : y = b % 20) (h : KOp x y) : BLp a b := by
  subst hx; subst hy; exact Or.inr ⟨hd, h7, h8, h⟩
theorem BLp.no {a b : Int} (hn : a ≠ b) (h : a / 20 ≠ b / 20 ∨ a % 20 ≤ 7 ∨ b % 20 ≤ 7) : ¬ BLp a b := by
  intro q
  rcases q with q | ⟨q1, q2, q3, -⟩
  · exact hn q
  · omega
theorem BLp.not {a b x y : Int} (hn : a ≠ b) (hx : x = a % 20) (hy : y = b % 20) (h : ¬ KOp x y) : ¬ BLp a b := by
  subst hx; subst hy
  intro q
  rcases q with q | ⟨-, -, -, q⟩
  · exact hn q
  · exact h q
