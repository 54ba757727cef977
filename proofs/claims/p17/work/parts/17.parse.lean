section Parse0
def LX0 (size to isBeyond : Int32) : Prop := (0 ≤ size.toInt ∧ size.toInt ≤ 3100) ∧ (0 ≤ to.toInt ∧ to.toInt ≤ size.toInt) ∧ (isBeyond.toInt = 0 ∨ isBeyond.toInt = 1)
/-- the reference's reader stands at a token -/
def LX (tape : Nat → Int32) (size to frm kind : Int32) (letters : Int64) (letterMany isBeyond : Int32) : Prop := LX0 size to isBeyond ∧ (0 ≤ frm.toInt ∧ frm.toInt ≤ to.toInt) ∧ (kind.toInt = 2 → letterMany.toInt = 1 → 1 ≤ letters.toInt ∧ letters.toInt ≤ 26) ∧ (kind.toInt = 4 → 1 ≤ to.toInt ∧ letters.toInt = (tape (to.toNatClampNeg - 1)).toInt) ∧ (kind.toInt = 1 ∨ ph tape to ≤ ph tape frm + 1)
theorem LX.z {tape : Nat → Int32} {size to frm kind : Int32} {letters : Int64} {letterMany isBeyond : Int32} (h : LX tape size to frm kind letters letterMany isBeyond) : LX0 size to isBeyond := h.1
theorem l2iT {x : Int64} {z : Int32} (e : z = x.toInt32) (h0 : -2147483648 ≤ x.toInt) (h1 : x.toInt ≤ 2147483647) : z.toInt = x.toInt := by
  rw [e, Int64.toInt_toInt32]
  obtain ⟨k, hk⟩ := bm32 x.toInt
  have h2 := iB x.toInt32
  rw [Int64.toInt_toInt32] at h2
  have h3 : x.toInt.bmod (2 ^ 32) = x.toInt.bmod 4294967296 := rfl
  omega
def R25 (f : Nat → Int32) : Prop := ∀ j, 0 ≤ (f j).toInt ∧ (f j).toInt ≤ 25
def Rm25 (f : Nat → Int32) : Prop := ∀ j, -1 ≤ (f j).toInt ∧ (f j).toInt ≤ 25
def R03 (f : Nat → Int32) : Prop := ∀ j, 0 ≤ (f j).toInt ∧ (f j).toInt ≤ 3
theorem R25.upd {f g : Nat → Int32} {k : Nat} {x : Int32} (h : R25 f) (h1 : 0 ≤ x.toInt) (h2 : x.toInt ≤ 25) (e : g = upd f k x) : R25 g := by
  rw [e]; exact upd_all (P := fun y => 0 ≤ y.toInt ∧ y.toInt ≤ 25) h ⟨h1, h2⟩
theorem Rm25.upd {f g : Nat → Int32} {k : Nat} {x : Int32} (h : Rm25 f) (h1 : -1 ≤ x.toInt) (h2 : x.toInt ≤ 25) (e : g = upd f k x) : Rm25 g := by
  rw [e]; exact upd_all (P := fun y => -1 ≤ y.toInt ∧ y.toInt ≤ 25) h ⟨h1, h2⟩
theorem R03.upd {f g : Nat → Int32} {k : Nat} {x : Int32} (h : R03 f) (h1 : 0 ≤ x.toInt) (h2 : x.toInt ≤ 3) (e : g = upd f k x) : R03 g := by
  rw [e]; exact upd_all (P := fun y => 0 ≤ y.toInt ∧ y.toInt ≤ 3) h ⟨h1, h2⟩
/-- but for one place the same -/
def SAME (f g : Nat → Int32) (k : Nat) : Prop := ∀ j, j ≠ k → f j = g j
theorem SAME.rf (f : Nat → Int32) (k : Nat) : SAME f f k := fun _ _ => rfl
theorem SAME.trans {f g h : Nat → Int32} {k : Nat} (a : SAME f g k) (b : SAME g h k) : SAME f h k := fun j hj => (a j hj).trans (b j hj)
theorem SAME.upd {f g h : Nat → Int32} {k : Nat} {x : Int32} (e : f = upd g k x) (b : SAME g h k) : SAME f h k := fun j hj => by
  rw [e, upd_ne g x hj]; exact b j hj
theorem at_upd {f g : Nat → Int32} {k : Nat} {x : Int32} (e : f = upd g k x) : f k = x := by rw [e, upd_at]
/-- atoms: a variable's number, or a number that its kind has -/
def ATM (f g : Nat → Int32) (h : Nat → Int64) : Prop := ∀ j, ((f j).toInt = 1 → 0 ≤ (h j).toInt ∧ (h j).toInt ≤ 25) ∧ ((f j).toInt = 2 → NumOK (g j) (h j))
theorem ATM.set {f g f' g' : Nat → Int32} {h h' : Nat → Int64} {k : Nat} (H : ATM f g h) (e1 : ∀ j, j ≠ k → f' j = f j) (e2 : ∀ j, j ≠ k → g' j = g j) (e3 : ∀ j, j ≠ k → h' j = h j)
    (P : ((f' k).toInt = 1 → 0 ≤ (h' k).toInt ∧ (h' k).toInt ≤ 25) ∧ ((f' k).toInt = 2 → NumOK (g' k) (h' k))) : ATM f' g' h' := by
  intro j
  by_cases hj : j = k
  · rw [hj]; exact P
  · rw [e1 j hj, e2 j hj, e3 j hj]; exact H j
theorem updL_at (f : Nat → Int64) (k : Nat) (x : Int64) : vp_updL f k x k = x := by simp [vp_updL]
theorem updL_ne (f : Nat → Int64) {k j : Nat} (x : Int64) (h : j ≠ k) : vp_updL f k x j = f j := by simp [vp_updL, h]
theorem ATM.var {f g f' : Nat → Int32} {h h' : Nat → Int64} {k : Nat} {a : Int32} {c : Int64} (H : ATM f g h) (e1 : f' = upd f k a) (e3 : h' = vp_updL h k c) (ha : a.toInt = 1) (h0 : 0 ≤ c.toInt) (h1 : c.toInt ≤ 25) : ATM f' g h' := by
  subst e1; subst e3
  refine H.set (fun j hj => upd_ne f a hj) (fun _ _ => rfl) (fun j hj => updL_ne h c hj) ?_
  rw [upd_at, updL_at]
  exact ⟨fun _ => ⟨h0, h1⟩, fun q => absurd q (by omega)⟩
theorem ATM.num {f g f' g' : Nat → Int32} {h h' : Nat → Int64} {k : Nat} {a b : Int32} {c : Int64} (H : ATM f g h) (e1 : f' = upd f k a) (e2 : g' = upd g k b) (e3 : h' = vp_updL h k c) (ha : a.toInt = 2) (hn : NumOK b c) : ATM f' g' h' := by
  subst e1; subst e2; subst e3
  refine H.set (fun j hj => upd_ne f a hj) (fun j hj => upd_ne g b hj) (fun j hj => updL_ne h c hj) ?_
  rw [upd_at, upd_at, updL_at]
  exact ⟨fun q => absurd q (by omega), fun _ => hn⟩
theorem ATM.non {f g f' : Nat → Int32} {h : Nat → Int64} {k : Nat} {a : Int32} (H : ATM f g h) (e1 : f' = upd f k a) (ha : 2 < a.toInt) : ATM f' g h := by
  subst e1
  refine H.set (fun j hj => upd_ne f a hj) (fun _ _ => rfl) (fun _ _ => rfl) ?_
  rw [upd_at]
  exact ⟨fun q => absurd q (by omega), fun q => absurd q (by omega)⟩
theorem ATM.neu {f g f' g' : Nat → Int32} {h : Nat → Int64} {k : Nat} {a b : Int32} (H : ATM f g h) (e1 : f' = upd f k a) (e2 : g' = upd g k b) (ha : 2 < a.toInt) : ATM f' g' h := by
  subst e1; subst e2
  refine H.set (fun j hj => upd_ne f a hj) (fun j hj => upd_ne g b hj) (fun _ _ => rfl) ?_
  rw [upd_at]
  exact ⟨fun q => absurd q (by omega), fun q => absurd q (by omega)⟩
end Parse0
