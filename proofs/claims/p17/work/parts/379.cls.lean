section Cls0
def koB (a b : Nat) : Bool := a == b || (b == 8 && (decide (8 < a) && decide (a < 15))) || (b == 9 && a == 10) || (b == 12 && a == 13) || (b == 15 && (decide (11 < a) && decide (a < 15))) || (b == 16 && (a == 11 || a == 13))
def wdB (a b : Nat) : Bool := a == b || (a == 1 && (b == 2 || (decide (3 < b) && decide (b < 8)))) || ((a == 2 || a == 3) && (decide (3 < b) && decide (b < 8))) || (a == 4 && (decide (4 < b) && decide (b < 8))) || (a == 5 && (decide (5 < b) && decide (b < 8))) || (a == 6 && b == 7)
theorem isBit_all0 : ∀ r, r < 9 → ∀ o, o < 20 → (decide (8 ≤ o → decide (((st_IS.getD r 0) >>> (nI o &&& 31)) &&& 1 = (1 : Int32)) = koB (r + 8) o)) = true := by decide +kernel
theorem wdBit_all0 : ∀ a, a < 8 → ∀ b, b < 8 → decide (((st_WIDENS.getD a 0) >>> (nI b &&& 31)) &&& 1 = (1 : Int32)) = wdB a b := by decide +kernel
theorem isBit_all {r o : Nat} (h1 : r < 9) (h2 : o < 20) (h3 : 8 ≤ o) : ((st_IS.getD r 0) >>> (nI o &&& 31)) &&& 1 = (1 : Int32) ↔ KOp ((r : Int) + 8) (o : Int) := by
  have h := of_decide_eq_true (isBit_all0 r h1 o h2) h3
  rw [← decide_eq_true_iff (p := ((st_IS.getD r 0) >>> (nI o &&& 31)) &&& 1 = (1 : Int32)), h]
  unfold koB KOp
  simp only [Bool.or_eq_true, Bool.and_eq_true, beq_iff_eq, decide_eq_true_eq]
  omega
theorem wdBit_all {a b : Nat} (h1 : a < 8) (h2 : b < 8) : ((st_WIDENS.getD a 0) >>> (nI b &&& 31)) &&& 1 = (1 : Int32) ↔ WDp (a : Int) (b : Int) := by
  have h := wdBit_all0 a h1 b h2
  rw [← decide_eq_true_iff (p := ((st_WIDENS.getD a 0) >>> (nI b &&& 31)) &&& 1 = (1 : Int32)), h]
  unfold wdB WDp
  simp only [Bool.or_eq_true, Bool.and_eq_true, beq_iff_eq, decide_eq_true_eq]
  omega
theorem isBit {r o x y z : Int32} (h0 : 0 ≤ r.toInt) (h1 : r.toInt < 9) (h2 : 8 ≤ o.toInt) (h3 : o.toInt < 20) (e1 : x = st_IS.getD r.toNatClampNeg 0) (e2 : y = x >>> (o &&& 31)) (e3 : z = y &&& 1) : z.toInt = 1 ↔ KOp (r.toInt + 8) o.toInt := by
  obtain ⟨n, hn, e⟩ := small_nI (x := r) (N := 9) h0 h1
  obtain ⟨k, hk, e'⟩ := small_nI (x := o) (N := 20) (by omega) h3
  subst e; subst e'
  rw [nI_toInt (by omega)] at h2
  rw [nI_clamp (by omega)] at e1
  have h := isBit_all hn hk (by omega)
  rw [nI_toInt (by omega), nI_toInt (by omega)]
  subst e1; subst e2; subst e3
  have q : ((st_IS.getD n 0 >>> (nI k &&& 31)) &&& 1).toInt = 1 ↔ ((st_IS.getD n 0) >>> (nI k &&& 31)) &&& 1 = (1 : Int32) := (iEq (x := (st_IS.getD n 0 >>> (nI k &&& 31)) &&& 1) (y := 1)).symm
  exact q.trans h
theorem wdBit {r o x y z : Int32} (h0 : 0 ≤ r.toInt) (h1 : r.toInt < 8) (h2 : 0 ≤ o.toInt) (h3 : o.toInt < 8) (e1 : x = st_WIDENS.getD r.toNatClampNeg 0) (e2 : y = x >>> (o &&& 31)) (e3 : z = y &&& 1) : z.toInt = 1 ↔ WDp r.toInt o.toInt := by
  obtain ⟨n, hn, e⟩ := small_nI (x := r) (N := 8) h0 h1
  obtain ⟨k, hk, e'⟩ := small_nI (x := o) (N := 8) (by omega) h3
  subst e; subst e'
  rw [nI_clamp (by omega)] at e1
  have h := wdBit_all hn hk
  rw [nI_toInt (by omega), nI_toInt (by omega)]
  subst e1; subst e2; subst e3
  have q : ((st_WIDENS.getD n 0 >>> (nI k &&& 31)) &&& 1).toInt = 1 ↔ ((st_WIDENS.getD n 0) >>> (nI k &&& 31)) &&& 1 = (1 : Int32) := (iEq (x := (st_WIDENS.getD n 0 >>> (nI k &&& 31)) &&& 1) (y := 1)).symm
  exact q.trans h
theorem BLp.big {a b : Int} (hn : a ≠ b) (h : 17 ≤ a % 20) : ¬ BLp a b := by
  intro q
  rcases q with q | ⟨q1, q2, q3, q4⟩
  · exact hn q
  · unfold KOp at q4
    omega
end Cls0
