section Cls0
theorem isBit_all : ∀ r, r < 9 → ∀ o, o < 20 → 8 ≤ o → (((st_IS.getD r 0) >>> (nI o &&& 31)) &&& 1 = (1 : Int32) ↔ ((r : Int) + 8 = (o : Int) ∨ ((o : Int) = 8 ∧ 8 < (r : Int) + 8 ∧ (r : Int) + 8 < 15) ∨ ((o : Int) = 9 ∧ (r : Int) + 8 = 10) ∨ ((o : Int) = 12 ∧ (r : Int) + 8 = 13) ∨ ((o : Int) = 15 ∧ 11 < (r : Int) + 8 ∧ (r : Int) + 8 < 15) ∨ ((o : Int) = 16 ∧ ((r : Int) + 8 = 11 ∨ (r : Int) + 8 = 13)))) := by decide +kernel
theorem wdBit_all : ∀ a, a < 8 → ∀ b, b < 8 → (((st_WIDENS.getD a 0) >>> (nI b &&& 31)) &&& 1 = (1 : Int32) ↔ ((a : Int) = (b : Int) ∨ ((a : Int) = 1 ∧ ((b : Int) = 2 ∨ (3 < (b : Int) ∧ (b : Int) < 8))) ∨ (((a : Int) = 2 ∨ (a : Int) = 3) ∧ 3 < (b : Int) ∧ (b : Int) < 8) ∨ ((a : Int) = 4 ∧ 4 < (b : Int) ∧ (b : Int) < 8) ∨ ((a : Int) = 5 ∧ 5 < (b : Int) ∧ (b : Int) < 8) ∨ ((a : Int) = 6 ∧ (b : Int) = 7))) := by decide +kernel
theorem isBit {r o x y z : Int32} (h0 : 0 ≤ r.toInt) (h1 : r.toInt < 9) (h2 : 8 ≤ o.toInt) (h3 : o.toInt < 20) (e1 : x = st_IS.getD r.toNatClampNeg 0) (e2 : y = x >>> (o &&& 31)) (e3 : z = y &&& 1) : z.toInt = 1 ↔ KOp (r.toInt + 8) o.toInt := by
  obtain ⟨n, hn, e⟩ := small_nI (x := r) (N := 9) h0 h1
  obtain ⟨k, hk, e'⟩ := small_nI (x := o) (N := 20) (by omega) h3
  subst e; subst e'
  rw [nI_toInt (by omega)] at h2
  rw [nI_clamp (by omega)] at e1
  have h := isBit_all n hn k hk (by omega)
  rw [nI_toInt (by omega), nI_toInt (by omega)]
  subst e1; subst e2; subst e3
  have q : ((st_IS.getD n 0 >>> (nI k &&& 31)) &&& 1).toInt = 1 ↔ ((st_IS.getD n 0) >>> (nI k &&& 31)) &&& 1 = (1 : Int32) := (iEq (x := (st_IS.getD n 0 >>> (nI k &&& 31)) &&& 1) (y := 1)).symm
  exact q.trans h
theorem wdBit {r o x y z : Int32} (h0 : 0 ≤ r.toInt) (h1 : r.toInt < 8) (h2 : 0 ≤ o.toInt) (h3 : o.toInt < 8) (e1 : x = st_WIDENS.getD r.toNatClampNeg 0) (e2 : y = x >>> (o &&& 31)) (e3 : z = y &&& 1) : z.toInt = 1 ↔ WDp r.toInt o.toInt := by
  obtain ⟨n, hn, e⟩ := small_nI (x := r) (N := 8) h0 h1
  obtain ⟨k, hk, e'⟩ := small_nI (x := o) (N := 8) (by omega) h3
  subst e; subst e'
  rw [nI_clamp (by omega)] at e1
  have h := wdBit_all n hn k hk
  rw [nI_toInt (by omega), nI_toInt (by omega)]
  subst e1; subst e2; subst e3
  have q : ((st_WIDENS.getD n 0 >>> (nI k &&& 31)) &&& 1).toInt = 1 ↔ ((st_WIDENS.getD n 0) >>> (nI k &&& 31)) &&& 1 = (1 : Int32) := (iEq (x := (st_WIDENS.getD n 0 >>> (nI k &&& 31)) &&& 1) (y := 1)).symm
  exact q.trans h
theorem BLp.big {a b : Int} (hn : a ≠ b) (h : 17 ≤ a % 20) : ¬ BLp a b := by
  intro q
  rcases q with q | ⟨q1, q2, q3, q4⟩
  · exact hn q
  · unfold KOp at q4
    omega
end Cls0
