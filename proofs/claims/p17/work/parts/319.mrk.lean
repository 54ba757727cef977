section Mrk0
theorem mrk_set {f g f' g' : Nat → Int32} {h h' : Nat → Int64} {A B : Int} {n : Nat} {s k : Int32} {v : Int64} (H : ∀ j : Nat, (f j).toInt = 1 → NumOK (g j) (h j)) (hv : VOK A B s k v) (e1 : f' = upd f n s) (e2 : g' = upd g n k) (e3 : h' = vp_updL h n v) :
    ∀ j : Nat, (f' j).toInt = 1 → NumOK (g' j) (h' j) := by
  intro j
  rw [e1, e2, e3]
  by_cases q : j = n
  · rw [q, upd_at, upd_at, updL_at]; exact hv.2.2.2
  · rw [upd_ne f s q, upd_ne g k q, updL_ne h v q]; exact H j
end Mrk0
