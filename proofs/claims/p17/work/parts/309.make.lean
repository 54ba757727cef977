section Make0
theorem lmulT {x y z : Int64} (e : z = x * y) (hx0 : 0 ≤ x.toInt) (hx : x.toInt ≤ 500) (hy0 : 0 ≤ y.toInt) (hy : y.toInt ≤ 2147483647) : z.toInt = x.toInt * y.toInt ∧ 0 ≤ z.toInt ∧ z.toInt ≤ 1073741823500 := by
  have h1 : 0 ≤ x.toInt * y.toInt := Int.mul_nonneg hx0 hy0
  have h2 : x.toInt * y.toInt ≤ 500 * 2147483647 := Int.mul_le_mul hx hy hy0 (by decide)
  have h3 : z.toInt = x.toInt * y.toInt := by
    rw [e, Int64.toInt_mul]
    exact Int.bmod_eq_of_le (by omega) (by omega)
  exact ⟨h3, by omega, by omega⟩
def PR (f : Nat → Int32) : Nat → Int
  | 0 => 1
  | k + 1 => PR f k * (f k).toInt
def SA (f : Nat → Int32) : Nat → Int
  | 0 => 0
  | k + 1 => SA f k + PR f k
def SC (f : Nat → Int32) : Nat → Int
  | 0 => 0
  | k + 1 => SC f k + PR f (k + 1)
theorem SC_one (f : Nat → Int32) : SC f 1 = (f 0).toInt := by
  show 0 + 1 * (f 0).toInt = (f 0).toInt
  omega
theorem SA_one (f : Nat → Int32) : SA f 1 = 1 := rfl
theorem PR_pred {f : Nat → Int32} {k : Nat} (h : 1 ≤ k) : PR f k = PR f (k - 1) * (f (k - 1)).toInt := by
  cases k with
  | zero => omega
  | succ k => rfl
theorem PR.nn {f : Nat → Int32} {n : Nat} (h : ∀ j : Nat, j < n → 0 ≤ (f j).toInt) : ∀ k, k ≤ n → 0 ≤ PR f k
  | 0, _ => by unfold PR; decide
  | k + 1, hk => by unfold PR; exact Int.mul_nonneg (PR.nn h k (by omega)) (h k (by omega))
theorem SA.mono {f : Nat → Int32} {n : Nat} (h : ∀ j : Nat, j < n → 0 ≤ (f j).toInt) : ∀ m k, k ≤ m → m ≤ n → SA f k ≤ SA f m
  | 0, k, hk, _ => by rw [show k = 0 by omega]; exact Int.le_refl _
  | m + 1, k, hk, hm => by
    by_cases e : k = m + 1
    · rw [e]; exact Int.le_refl _
    · have h1 := SA.mono h m k (by omega) (by omega)
      have h2 := PR.nn h m (by omega)
      show SA f k ≤ SA f m + PR f m
      omega
theorem SC.mono {f : Nat → Int32} {n : Nat} (h : ∀ j : Nat, j < n → 0 ≤ (f j).toInt) : ∀ m k, k ≤ m → m ≤ n → SC f k ≤ SC f m
  | 0, k, hk, _ => by rw [show k = 0 by omega]; exact Int.le_refl _
  | m + 1, k, hk, hm => by
    by_cases e : k = m + 1
    · rw [e]; exact Int.le_refl _
    · have h1 := SC.mono h m k (by omega) (by omega)
      have h2 := PR.nn h (m + 1) hm
      show SC f k ≤ SC f m + PR f (m + 1)
      omega
theorem mk_room {f : Nat → Int32} {k n : Nat} {d m l t : Int} (hf : ∀ j : Nat, j < n → 0 ≤ (f j).toInt) (hk1 : 1 ≤ k) (hk : k < n) (hd : 0 ≤ d) (hdm : d < m) (hm : m = PR f (k - 1)) (hl0 : 0 ≤ l) (hl : l < (f (k - 1)).toInt) (ht : t = d * (f (k - 1)).toInt + l) :
    0 ≤ t ∧ t + 1 ≤ PR f k ∧ SA f k + PR f k ≤ SA f n ∧ (t + 1) * (f k).toInt ≤ PR f (k + 1) ∧ SC f k + PR f (k + 1) ≤ SC f n ∧ 0 ≤ SC f k ∧ (t + 1) * (f k).toInt = t * (f k).toInt + (f k).toInt ∧ 0 ≤ t * (f k).toInt ∧ 0 ≤ (f k).toInt := by
  have e1 : PR f k = m * (f (k - 1)).toInt := by rw [hm]; cases k with | zero => omega | succ k => rfl
  have i1 := hf (k - 1) (by omega)
  have i2 := hf k hk
  have h1 : 0 ≤ d * (f (k - 1)).toInt := Int.mul_nonneg hd i1
  have h2 : (d + 1) * (f (k - 1)).toInt ≤ m * (f (k - 1)).toInt := Int.mul_le_mul_of_nonneg_right (by omega) i1
  have h3 : (d + 1) * (f (k - 1)).toInt = d * (f (k - 1)).toInt + (f (k - 1)).toInt := by rw [Int.add_mul, Int.one_mul]
  have h4 : t + 1 ≤ PR f k := by omega
  have h5 : (t + 1) * (f k).toInt ≤ PR f k * (f k).toInt := Int.mul_le_mul_of_nonneg_right h4 i2
  have h6 : (t + 1) * (f k).toInt = t * (f k).toInt + (f k).toInt := by rw [Int.add_mul, Int.one_mul]
  have h7 := SA.mono hf n (k + 1) (by omega) (by omega)
  have h8 := SC.mono hf n (k + 1) (by omega) (by omega)
  have h9 := SC.mono hf k 0 (by omega) (by omega)
  exact ⟨by omega, h4, h7, h5, h8, h9, h6, Int.mul_nonneg (by omega) i2, i2⟩
/-- arrays a .. b-1 are of class c and length n -/
def LVL (cls lng : Nat → Int32) (a b c : Int) (n : Int32) : Prop := ∀ j : Nat, a ≤ j → (j : Int) < b → (cls j).toInt = c ∧ lng j = n
variable {cls lng cls' lng' : Nat → Int32} {a b b' c : Int} {n ar x y : Int32}
theorem LVL.nil (h : b ≤ a) : LVL cls lng a b c n := fun j h1 h2 => by omega
theorem LVL.keep (h : LVL cls lng a b c n) (h0 : 0 ≤ ar.toInt) (h1 : b ≤ ar.toInt) (e1 : cls' = upd cls ar.toNatClampNeg x) (e2 : lng' = upd lng ar.toNatClampNeg y) : LVL cls' lng' a b c n := by
  intro j hj hb
  have t := tn h0
  rw [e1, e2, upd_ne cls x (show j ≠ ar.toNatClampNeg by omega), upd_ne lng y (show j ≠ ar.toNatClampNeg by omega)]
  exact h j hj hb
theorem LVL.more (h : LVL cls lng a b c n) (h0 : 0 ≤ ar.toInt) (h1 : b = ar.toInt) (h2 : b' = b + 1) (hx : x.toInt = c) (hy : y = n) (e1 : cls' = upd cls ar.toNatClampNeg x) (e2 : lng' = upd lng ar.toNatClampNeg y) : LVL cls' lng' a b' c n := by
  intro j hj hb
  have t := tn h0
  by_cases q : j = ar.toNatClampNeg
  · rw [e1, e2, q, upd_at, upd_at]; exact ⟨hx, hy⟩
  · rw [e1, e2, upd_ne cls x q, upd_ne lng y q]
    exact h j hj (by omega)
end Make0
