section Sto0
theorem nneg {x : Int32} (h : 0 ≤ x.toInt) : ¬ x < 0 := fun q => by
  have := iLt.mp q
  have hz : (0 : Int32).toInt = 0 := rfl
  omega
theorem cpB {x n : Int32} {N : Nat} (h0 : 0 ≤ x.toInt) (h1 : 0 ≤ n.toInt) (h : x.toInt + n.toInt ≤ N) : x.toNatClampNeg + n.toNatClampNeg ≤ N := by
  have a := tn h0
  have b := tn h1
  omega
/-- the store's rows -/
def STO (things made : Int32) (st ln : Nat → Int32) : Prop := (1 ≤ things.toInt ∧ things.toInt ≤ 301) ∧ (0 ≤ made.toInt ∧ made.toInt ≤ 4000) ∧ ∀ j : Nat, j < 301 → 0 ≤ (st j).toInt ∧ 0 ≤ (ln j).toInt ∧ (st j).toInt + (ln j).toInt ≤ 4000
theorem STO.at {things made : Int32} {st ln : Nat → Int32} (h : STO things made st ln) {a : Int32} (h0 : 0 ≤ a.toInt) (h1 : a.toInt < 301) : 0 ≤ (st a.toNatClampNeg).toInt ∧ 0 ≤ (ln a.toNatClampNeg).toInt ∧ (st a.toNatClampNeg).toInt + (ln a.toNatClampNeg).toInt ≤ 4000 := h.2.2 _ (by have := tn h0; omega)
theorem STO.set {t t' m m' x y : Int32} {st ln st' ln' : Nat → Int32} {k : Nat} (h : STO t m st ln) (ht : 1 ≤ t'.toInt) (ht2 : t'.toInt ≤ 301) (hm : 0 ≤ m'.toInt) (hm2 : m'.toInt ≤ 4000) (hx : 0 ≤ x.toInt) (hy : 0 ≤ y.toInt) (hxy : x.toInt + y.toInt ≤ 4000) (e1 : st' = upd st k x) (e2 : ln' = upd ln k y) : STO t' m' st' ln' := by
  subst e1; subst e2
  refine ⟨⟨ht, ht2⟩, ⟨hm, hm2⟩, fun j hj => ?_⟩
  by_cases q : j = k
  · rw [q, upd_at, upd_at]; exact ⟨hx, hy, hxy⟩
  · rw [upd_ne st x q, upd_ne ln y q]; exact h.2.2 j hj
theorem STO.re {t t' m m' : Int32} {st ln : Nat → Int32} (h : STO t m st ln) (ht : 1 ≤ t'.toInt) (ht2 : t'.toInt ≤ 301) (hm : 0 ≤ m'.toInt) (hm2 : m'.toInt ≤ 4000) : STO t' m' st ln := ⟨⟨ht, ht2⟩, ⟨hm, hm2⟩, h.2.2⟩
end Sto0
