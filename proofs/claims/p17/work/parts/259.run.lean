section Run0
/-- a value of the run: what its number may name -/
def VOK (ar cr : Int) (s k : Int32) (v : Int64) : Prop := (0 ≤ s.toInt ∧ s.toInt ≤ 3) ∧ (s.toInt = 3 → 0 ≤ v.toInt ∧ v.toInt < ar) ∧ (s.toInt = 2 → 0 ≤ v.toInt ∧ v.toInt < cr) ∧ (s.toInt = 1 → NumOK k v)
def AOK (cls frm lng : Nat → Int32) (ce : Int) (a : Nat) : Prop := (20 ≤ (cls a).toInt ∧ (cls a).toInt ≤ 79) ∧ 0 ≤ (frm a).toInt ∧ (0 ≤ (lng a).toInt ∧ (lng a).toInt ≤ 500) ∧ (frm a).toInt + (lng a).toInt ≤ ce
/-- a cell of array a -/
def COK (ar cr : Int) (cls cs ck : Nat → Int32) (cv : Nat → Int64) (a c : Nat) : Prop := VOK ar cr (cs c) (ck c) (cv c) ∧ ((cs c).toInt = 3 → (cls (cv c).toInt.toNat).toInt / 20 + 1 = (cls a).toInt / 20) ∧ ((cls a).toInt < 28 → (cs c).toInt = 1)
/-- the run's arrays, creatures and variables -/
def RUN (vs vk : Nat → Int32) (vv : Nat → Int64) (ar ce cr : Int32) (cls frm lng cs ck : Nat → Int32) (cv : Nat → Int64) : Prop :=
  ((0 ≤ ar.toInt ∧ ar.toInt ≤ 200) ∧ (0 ≤ ce.toInt ∧ ce.toInt ≤ 4000) ∧ (0 ≤ cr.toInt ∧ cr.toInt ≤ 100)) ∧
  (∀ a : Nat, (a : Int) < ar.toInt → AOK cls frm lng ce.toInt a) ∧ (∀ j : Nat, j < 26 → VOK ar.toInt cr.toInt (vs j) (vk j) (vv j)) ∧
  (∀ a i : Nat, (a : Int) < ar.toInt → (i : Int) < (lng a).toInt → COK ar.toInt cr.toInt cls cs ck cv a ((frm a).toNatClampNeg + i)) ∧
  (∀ a b : Nat, a < b → (b : Int) < ar.toInt → (frm a).toInt + (lng a).toInt ≤ (frm b).toInt)
theorem VOK.none {ar cr : Int} {s k : Int32} {v : Int64} (h : s.toInt = 0) : VOK ar cr s k v := ⟨⟨by omega, by omega⟩, fun q => by omega, fun q => by omega, fun q => by omega⟩
theorem RUN.zero {vs vk : Nat → Int32} {vv : Nat → Int64} {ar ce cr : Int32} {cls frm lng cs ck : Nat → Int32} {cv : Nat → Int64} (h1 : ar.toInt = 0) (h2 : ce.toInt = 0) (h3 : cr.toInt = 0) (h4 : ∀ j : Nat, j < 26 → (vs j).toInt = 0) : RUN vs vk vv ar ce cr cls frm lng cs ck cv :=
  ⟨⟨⟨by omega, by omega⟩, ⟨by omega, by omega⟩, by omega, by omega⟩, fun a h => by omega, fun j hj => VOK.none (h4 j hj), fun a i h => by omega, fun a b _ h => by omega⟩
theorem upd_z {f g : Nat → Int32} {x : Int32} {n m : Int32} (h : ∀ j : Nat, (j : Int) < n.toInt → (f j).toInt = 0) (hn : 0 ≤ n.toInt) (hm : m.toInt = n.toInt + 1) (hx : x.toInt = 0) (e : g = upd f n.toNatClampNeg x) : ∀ j : Nat, (j : Int) < m.toInt → (g j).toInt = 0 := by
  intro j hj
  have ht := tn hn
  rw [e]
  by_cases q : j = n.toNatClampNeg
  · rw [q, upd_at]; exact hx
  · rw [upd_ne f x q]; exact h j (by omega)
theorem upd_c {f g t : Nat → Int32} {x : Int32} {n m : Int32} (h : ∀ j : Nat, (j : Int) < n.toInt → f j = t j) (hn : 0 ≤ n.toInt) (hm : m.toInt = n.toInt + 1) (hx : x = t n.toNatClampNeg) (e : g = upd f n.toNatClampNeg x) : ∀ j : Nat, (j : Int) < m.toInt → g j = t j := by
  intro j hj
  have ht := tn hn
  rw [e]
  by_cases q : j = n.toNatClampNeg
  · rw [q, upd_at]; exact hx
  · rw [upd_ne f x q]; exact h j (by omega)
end Run0
