section Lem0
/-- a letter or a digit -/
abbrev isAl (c : Int32) : Prop := (97 ≤ c.toInt ∧ c.toInt ≤ 122) ∨ (48 ≤ c.toInt ∧ c.toInt ≤ 57)
abbrev isBl (c : Int32) : Prop := c.toInt = 32 ∨ c.toInt = 10
/-- a place where a token may begin -/
def tks (f : Nat → Int32) (j : Nat) : Prop := ¬ isBl (f j) ∧ ¬ (isAl (f j) ∧ 0 < j ∧ isAl (f (j - 1)))
noncomputable def cntB (p : Prop) : Nat := @ite Nat p (Classical.propDecidable p) 1 0
theorem cntB_le (p : Prop) : cntB p ≤ 1 := by
  unfold cntB
  split <;> omega
theorem cntB_no {p : Prop} (h : ¬ p) : cntB p = 0 := by
  unfold cntB
  rw [if_neg h]
/-- how many such places are from a on below b -/
noncomputable def cnt (f : Nat → Int32) (a : Nat) : Nat → Nat
  | 0 => 0
  | b + 1 => cnt f a b + cntB (a ≤ b ∧ tks f b)
theorem cnt_self (f : Nat → Int32) {a : Nat} : ∀ {b : Nat}, b ≤ a → cnt f a b = 0
  | 0, _ => rfl
  | b + 1, h => by
    show cnt f a b + _ = 0
    rw [cnt_self f (show b ≤ a by omega), cntB_no (fun q => by omega)]
theorem cnt_no {f : Nat → Int32} {a b : Nat} (h : ¬ tks f b) : cnt f a (b + 1) = cnt f a b := by
  show cnt f a b + _ = _
  rw [cntB_no (fun q => h q.2)]; rfl
theorem cnt_le (f : Nat → Int32) (a b : Nat) : cnt f a (b + 1) ≤ cnt f a b + 1 := by
  show cnt f a b + _ ≤ _
  have := cntB_le (a ≤ b ∧ tks f b)
  omega
theorem cnt_add (f : Nat → Int32) {a b : Nat} (h : a ≤ b) : ∀ {c : Nat}, b ≤ c → cnt f a c = cnt f a b + cnt f b c
  | 0, h2 => by
    have : b = 0 := by omega
    subst this
    rfl
  | c + 1, h2 => by
    by_cases hc : b = c + 1
    · subst hc
      rw [cnt_self f (Nat.le_refl (c + 1))]; rfl
    · show cnt f a c + _ = cnt f a b + (cnt f b c + _)
      rw [cnt_add f h (show b ≤ c by omega)]
      have e : cntB (a ≤ c ∧ tks f c) = cntB (b ≤ c ∧ tks f c) := by
        congr 1
        exact propext ⟨fun q => ⟨by omega, q.2⟩, fun q => ⟨by omega, q.2⟩⟩
      rw [e, Nat.add_assoc]
theorem cnt_congr {f g : Nat → Int32} {a : Nat} : ∀ {b : Nat}, (∀ j, j < b → f j = g j) → cnt f a b = cnt g a b
  | 0, _ => rfl
  | b + 1, h => by
    show cnt f a b + _ = cnt g a b + _
    rw [cnt_congr (fun j hj => h j (by omega))]
    have e : tks f b = tks g b := by
      unfold tks
      rw [h b (by omega), h (b - 1) (by omega)]
    rw [e]
theorem bl_no {f : Nat → Int32} {j : Nat} (h : isBl (f j)) : ¬ tks f j := fun q => q.1 h
theorem al_no {f : Nat → Int32} {j : Nat} (h : isAl (f j)) (h0 : 0 < j) (h1 : isAl (f (j - 1))) : ¬ tks f j := fun q => q.2 ⟨h, h0, h1⟩
theorem tn_succ {x z : Int32} (h0 : 0 ≤ x.toInt) (h : z.toInt = x.toInt + 1) : z.toNatClampNeg = x.toNatClampNeg + 1 := by
  have h1 := tn h0
  have h2 := tn (i := z) (by omega)
  omega
theorem tn_pred {x z : Int32} (h0 : 1 ≤ x.toInt) (h : z.toInt = x.toInt - 1) : z.toNatClampNeg = x.toNatClampNeg - 1 := by
  have h1 := tn (i := x) (by omega)
  have h2 := tn (i := z) (by omega)
  omega
theorem tn_eq {x z : Int32} (h : z.toInt = x.toInt) : z.toNatClampNeg = x.toNatClampNeg := by
  rw [show z = x from iEq.mpr h]
theorem tn_le {x z : Int32} (h0 : 0 ≤ x.toInt) (h : x.toInt ≤ z.toInt) : x.toNatClampNeg ≤ z.toNatClampNeg := by
  have h1 := tn h0
  have h2 := tn (i := z) (by omega)
  omega
theorem upd_all {f : Nat → Int32} {P : Int32 → Prop} {k : Nat} {x : Int32} (h : ∀ j, P (f j)) (hx : P x) : ∀ j, P (upd f k x j) := by
  intro j
  unfold upd
  split
  · exact hx
  · exact h j
theorem upd_at (f : Nat → Int32) (k : Nat) (x : Int32) : upd f k x k = x := by simp [upd]
theorem upd_ne (f : Nat → Int32) {k j : Nat} (x : Int32) (h : j ≠ k) : upd f k x j = f j := by simp [upd, h]
end Lem0
section Lem1
noncomputable def ph (f : Nat → Int32) (x : Int32) : Nat := cnt f 0 x.toNatClampNeg
theorem ph_eq {f : Nat → Int32} {x z : Int32} (h : z.toInt = x.toInt) : ph f z = ph f x := by
  rw [show z = x from iEq.mpr h]
theorem ph_bl {f : Nat → Int32} {x z : Int32} (h0 : 0 ≤ x.toInt) (h : z.toInt = x.toInt + 1) (hb : isBl (f x.toNatClampNeg)) : ph f z = ph f x := by
  unfold ph
  rw [tn_succ h0 h, cnt_no (bl_no hb)]
theorem ph_1 {f : Nat → Int32} {x z : Int32} (h0 : 0 ≤ x.toInt) (h : z.toInt = x.toInt + 1) : ph f z ≤ ph f x + 1 := by
  unfold ph
  rw [tn_succ h0 h]
  exact cnt_le f 0 _
theorem ph_al {f : Nat → Int32} {x z : Int32} (h0 : 0 < x.toInt) (h : z.toInt = x.toInt + 1) (hb : isAl (f x.toNatClampNeg)) (hc : isAl (f (x.toNatClampNeg - 1))) : ph f z = ph f x := by
  unfold ph
  have h1 := tn (i := x) (by omega)
  rw [tn_succ (by omega) h, cnt_no (al_no hb (by omega) hc)]
end Lem1
section Lem2
theorem chr_all : ∀ n, n < 128 → (((nI n &&& 255).toUInt32 % 65536).toInt32 = nI n ∧ narrow .char (.int (nI n)) = .int (nI n)) := by decide +kernel
theorem small_nI {x : Int32} {N : Nat} (h0 : 0 ≤ x.toInt) (h1 : x.toInt < N) : ∃ n, n < N ∧ x = nI n := by
  have h2 : ¬ x < 0 := fun h => by
    have := iLt.mp h
    have hz : (0 : Int32).toInt = 0 := rfl
    omega
  obtain ⟨j, hj, e⟩ := nI_of h2
  subst e
  rw [nI_toInt hj] at h1
  exact ⟨j, by omega, rfl⟩
theorem chr9 {b x y z : Int32} (h0 : 32 ≤ b.toInt) (h1 : b.toInt ≤ 126) (e1 : x = b) (e2 : y = x &&& 255) (e3 : z = (y.toUInt32 % 65536).toInt32) : z = b ∧ narrow .char (.int z) = .int z := by
  obtain ⟨n, hn, e⟩ := small_nI (x := b) (N := 128) (by omega) (by omega)
  subst e1; subst e2; subst e3; subst e
  have h := chr_all n hn
  rw [h.1]
  exact ⟨rfl, h.2⟩
theorem chrN {b : Int32} (h0 : 0 ≤ b.toInt) (h1 : b.toInt ≤ 127) : narrow .char (.int b) = .int b := by
  obtain ⟨n, hn, e⟩ := small_nI (x := b) (N := 128) h0 (by omega)
  subst e
  exact (chr_all n hn).2
theorem shr0 {x y : Int32} (h : y.toInt = 0) : x >>> (y &&& 31) = x := by
  rw [show y = 0 from iEq.mpr h]
  have e : ((0 : Int32) &&& 31) = 0 := by decide
  rw [e]
  exact Int32.shiftRight_zero
end Lem2
