section Trn0
def swq (q : Nat → Nat) : Nat → Nat := fun k => if k = 3 then q 5 else if k = 4 then q 6 else if k = 5 then q 3 else if k = 6 then q 4 else q k
def FB (f : Nat → Int32) : Prop := ∀ j, fits .byte (.int (f j)) = true
theorem FB.set9 {f g : Nat → Int32} {k : Nat} {v : Int32} (h : FB f) (e : g = upd f k (vp_nar .byte v)) : FB g := by
  subst e
  intro j
  by_cases q : j = k
  · rw [q, upd_at]; exact fits_narrow_byte v
  · rw [upd_ne f _ q]; exact h j
/-- what holds of the trainer between calls -/
def TRN (L : List Nat) (K : Nat → Nat) (si : Nat → Nat → Int32) (iv inn : Nat → Nat) (gB hB rS : Nat) (gS hS : Nat → Option Nat) (uA uO uH : Nat) (vs ms : Nat → Option Nat) (now : Nat) (a1 a2 a3 a4 a5 a6 b1 b2 b3 b4 b5 b6 things made : Int32) (st ln : Nat → Int32) (tsz osz mm : Int32) (tp : Nat → Int32) : Prop :=
  RF L K gB hB rS gS hS uA uO uH vs ms ∧ PI L K si iv inn ∧ aS L K now ∧ LI 3100 a1 a2 a3 a4 a5 a6 ∧ LI 3000 b1 b2 b3 b4 b5 b6 ∧ STO things made st ln ∧ (0 ≤ tsz.toInt ∧ tsz.toInt ≤ 3100) ∧ (0 ≤ osz.toInt ∧ osz.toInt ≤ 256) ∧ 0 ≤ mm.toInt ∧ FB tp
end Trn0
