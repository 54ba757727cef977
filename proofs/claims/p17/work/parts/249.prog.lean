section Prog0
def STPk (act ats what : Nat → Int32) (k : Nat) : Prop := ((2 ≤ (act k).toInt ∧ (act k).toInt ≤ 7) → 1 ≤ (ats k).toInt) ∧ ((act k).toInt = 8 → 1 ≤ (ats k).toInt ∧ 20 * (ats k).toInt ≤ (what k).toInt ∧ (what k).toInt ≤ 79)
/-- a step's text: it ends behind a sign, and few tokens begin in it -/
def SPN (beg fin tape : Nat → Int32) (size : Int32) (k : Nat) : Prop := (0 ≤ (beg k).toInt ∧ (beg k).toInt ≤ (fin k).toInt) ∧ (1 ≤ (fin k).toInt ∧ (fin k).toInt ≤ size.toInt) ∧ (tape ((fin k).toNatClampNeg - 1)).toInt = 59 ∧ ph tape (fin k) ≤ ph tape (beg k) + 30
theorem SPN.mk {beg fin tape : Nat → Int32} {size : Int32} {k : Nat} {b t : Int32} (hb : (beg k).toInt = b.toInt) (hf : (fin k).toInt = t.toInt) (h0 : 0 ≤ b.toInt) (h1 : b.toInt ≤ t.toInt) (h2 : t.toInt ≤ size.toInt) (h3 : 1 ≤ t.toInt) (h4 : (tape (t.toNatClampNeg - 1)).toInt = 59) (h5 : ph tape t ≤ ph tape b + 30) : SPN beg fin tape size k := by
  have e1 : beg k = b := iEq.mpr hb
  have e2 : fin k = t := iEq.mpr hf
  unfold SPN
  rw [e1, e2]
  exact ⟨⟨h0, h1⟩, ⟨h3, h2⟩, h4, h5⟩
def PRG (act ats what beg fin tape : Nat → Int32) (size : Int32) (b : Nat) (n : Int32) : Prop := ∀ i : Nat, (i : Int) < n.toInt → STPk act ats what (b + i) ∧ SPN beg fin tape size (b + i)
theorem STPk.eq {act ats what act' ats' what' : Nat → Int32} {k j : Nat} (h : STPk act ats what j) (e1 : act' k = act j) (e2 : ats' k = ats j) (e3 : what' k = what j) : STPk act' ats' what' k := by
  unfold STPk at *
  rw [e1, e2, e3]; exact h
theorem SPN.eq {beg fin tape beg' fin' : Nat → Int32} {size : Int32} {k j : Nat} (h : SPN beg fin tape size j) (e1 : beg' k = beg j) (e2 : fin' k = fin j) : SPN beg' fin' tape size k := by
  unfold SPN at *
  rw [e1, e2]; exact h
/-- one step more -/
theorem PRG.add {act ats what beg fin tape act' ats' what' beg' fin' : Nat → Int32} {size : Int32} {b : Nat} {n m : Int32} (h : PRG act ats what beg fin tape size b n) {k : Nat} (hk : (k : Int) = b + n.toInt) (hm : m.toInt = n.toInt + 1)
    (s1 : SAME act' act k) (s2 : SAME ats' ats k) (s3 : SAME what' what k) (s4 : SAME beg' beg k) (s5 : SAME fin' fin k) (hs : STPk act' ats' what' k) (hp : SPN beg' fin' tape size k) : PRG act' ats' what' beg' fin' tape size b m := by
  intro i hi
  by_cases e : b + i = k
  · rw [e]; exact ⟨hs, hp⟩
  · have hi2 : (i : Int) < n.toInt := by omega
    obtain ⟨h1, h2⟩ := h i hi2
    exact ⟨h1.eq (s1 _ e) (s2 _ e) (s3 _ e), h2.eq (s4 _ e) (s5 _ e)⟩
theorem PRG.same {act ats what beg fin tape act' ats' what' beg' fin' : Nat → Int32} {size : Int32} {b : Nat} {n : Int32} (h : PRG act ats what beg fin tape size b n) {k : Nat} (hk : (k : Int) < b ∨ (b : Int) + n.toInt ≤ k)
    (s1 : SAME act' act k) (s2 : SAME ats' ats k) (s3 : SAME what' what k) (s4 : SAME beg' beg k) (s5 : SAME fin' fin k) : PRG act' ats' what' beg' fin' tape size b n := by
  intro i hi
  have e : b + i ≠ k := by omega
  obtain ⟨h1, h2⟩ := h i hi
  exact ⟨h1.eq (s1 _ e) (s2 _ e) (s3 _ e), h2.eq (s4 _ e) (s5 _ e)⟩
theorem PRG.zero {act ats what beg fin tape : Nat → Int32} {size : Int32} {b : Nat} {n : Int32} (h : n.toInt ≤ 0) : PRG act ats what beg fin tape size b n := fun i hi => by omega
/-- the text is a copy -/
theorem SPN.copy {beg fin tape text : Nat → Int32} {size : Int32} {k : Nat} (h : SPN beg fin tape size k) (hc : ∀ j : Nat, (j : Int) < size.toInt → text j = tape j) : SPN beg fin text size k := by
  obtain ⟨⟨h0, h1⟩, ⟨h2, h3⟩, h4, h5⟩ := h
  have hf := tn (i := fin k) (by omega)
  have hb := tn (i := beg k) h0
  refine ⟨⟨h0, h1⟩, ⟨h2, h3⟩, ?_, ?_⟩
  · rw [hc _ (by omega)]; exact h4
  · have e1 : ph text (fin k) = ph tape (fin k) := cnt_congr (fun j hj => hc j (by omega))
    have e2 : ph text (beg k) = ph tape (beg k) := cnt_congr (fun j hj => hc j (by omega))
    rw [e1, e2]; exact h5
theorem SPN.wide {beg fin tape : Nat → Int32} {size size' : Int32} {k : Nat} (h : SPN beg fin tape size k) (hs : size.toInt ≤ size'.toInt) : SPN beg fin tape size' k := ⟨h.1, ⟨h.2.1.1, Int.le_trans h.2.1.2 hs⟩, h.2.2⟩
theorem PRG.copy {act ats what beg fin tape text : Nat → Int32} {size size' : Int32} {b : Nat} {n : Int32} (h : PRG act ats what beg fin tape size b n) (hc : ∀ j : Nat, (j : Int) < size.toInt → text j = tape j) (hs : size.toInt ≤ size'.toInt) : PRG act ats what beg fin text size' b n := fun i hi => ⟨(h i hi).1, ((h i hi).2.copy hc).wide hs⟩
theorem ATM.copy {f g f' g' : Nat → Int32} {h h' : Nat → Int64} {k s : Nat} {a b : Int32} {c : Int64} (H : ATM f g h) (e1 : f' = upd f k a) (e2 : g' = upd g k b) (e3 : h' = vp_updL h k c) (ea : a = f s) (eb : b = g s) (ec : c = h s) : ATM f' g' h' := by
  subst e1; subst e2; subst e3
  refine H.set (fun j hj => upd_ne f a hj) (fun j hj => upd_ne g b hj) (fun j hj => updL_ne h c hj) ?_
  rw [upd_at, upd_at, updL_at, ea, eb, ec]
  exact H s
theorem cp25 {f g : Nat → Int32} {k s : Nat} {x : Int32} (h : R25 f) (e : g = upd f k x) (ex : x = f s) : R25 g := R25.upd h (by rw [ex]; exact (h s).1) (by rw [ex]; exact (h s).2) e
theorem cpm25 {f g : Nat → Int32} {k s : Nat} {x : Int32} (h : Rm25 f) (e : g = upd f k x) (ex : x = f s) : Rm25 g := Rm25.upd h (by rw [ex]; exact (h s).1) (by rw [ex]; exact (h s).2) e
theorem cp03 {f g : Nat → Int32} {k s : Nat} {x : Int32} (h : R03 f) (e : g = upd f k x) (ex : x = f s) : R03 g := R03.upd h (by rw [ex]; exact (h s).1) (by rw [ex]; exact (h s).2) e
theorem cp_at {f g : Nat → Int32} {k s : Nat} {x : Int32} (e : g = upd f k x) (ex : x = f s) : g k = f s := by rw [e, upd_at, ex]
end Prog0
