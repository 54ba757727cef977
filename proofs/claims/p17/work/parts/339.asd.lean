section Asd0
theorem asd_set {f g f' g' : Nat → Int32} {h h' : Nat → Int64} {A B : Int} {P : Prop} {n m s k : Int32} {v : Int64} (H : ∀ j : Nat, (j : Int) < n.toInt → VOK A B (f j) (g j) (h j) ∧ (P → (f j).toInt = 1)) (h0 : 0 ≤ n.toInt) (hm : m.toInt = n.toInt + 1) (hv : VOK A B s k v) (h1 : P → s.toInt = 1)
    (e1 : f' = upd f n.toNatClampNeg s) (e2 : g' = upd g n.toNatClampNeg k) (e3 : h' = vp_updL h n.toNatClampNeg v) : ∀ j : Nat, (j : Int) < m.toInt → VOK A B (f' j) (g' j) (h' j) ∧ (P → (f' j).toInt = 1) := by
  intro j hj
  have t := tn h0
  rw [e1, e2, e3]
  by_cases q : j = n.toNatClampNeg
  · rw [q, upd_at, upd_at, updL_at]; exact ⟨hv, h1⟩
  · rw [upd_ne f s q, upd_ne g k q, updL_ne h v q]; exact H j (by omega)
end Asd0
