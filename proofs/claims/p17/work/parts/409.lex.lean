section Lex0
def LI0 (N : Int) (size limit digits to : Int32) : Prop := (0 ≤ size.toInt ∧ size.toInt ≤ N) ∧ (0 ≤ limit.toInt ∧ limit.toInt ≤ 3100) ∧ (0 ≤ digits.toInt ∧ digits.toInt ≤ 3100) ∧ 0 ≤ to.toInt
/-- a lexer stands at a token -/
def LI (N : Int) (size limit digits kind frm to : Int32) : Prop := (0 ≤ size.toInt ∧ size.toInt ≤ N) ∧ (0 ≤ limit.toInt ∧ limit.toInt ≤ 3100) ∧ (0 ≤ digits.toInt ∧ digits.toInt ≤ 3100) ∧ (0 ≤ frm.toInt ∧ frm.toInt ≤ 3100) ∧ 0 ≤ to.toInt ∧ (kind.toInt = 3 → frm.toInt + digits.toInt ≤ to.toInt ∧ to.toInt ≤ size.toInt)
theorem LI.z {N : Int} {size limit digits kind frm to : Int32} (h : LI N size limit digits kind frm to) : LI0 N size limit digits to := ⟨h.1, h.2.1, h.2.2.1, h.2.2.2.2.1⟩
end Lex0
