section Law0
theorem ICp.nn {c : Int} (h : ICp c) : 0 ≤ c := h.1
/-- what a plain write of a value of class b to elements e answers -/
def WRq (e b r : Int) : Prop := (e < 8 ∧ b < 8 ∧ WDp b e ∧ r = 0) ∨ (e < 8 ∧ ¬ (b < 8 ∧ WDp b e) ∧ r = 6) ∨ (8 ≤ e ∧ b < 8 ∧ r = 6) ∨ (8 ≤ e ∧ 8 ≤ b ∧ BLp b e ∧ r = 0) ∨ (8 ≤ e ∧ 8 ≤ b ∧ ¬ BLp b e ∧ r = 4)
theorem WRq.a {e b r : Int} (h1 : e < 8) (h2 : b < 8) (h3 : WDp b e) (hr : r = 0) : WRq e b r := Or.inl ⟨h1, h2, h3, hr⟩
theorem WRq.b {e b r : Int} (h1 : e < 8) (h2 : ¬ (b < 8 ∧ WDp b e)) (hr : r = 6) : WRq e b r := Or.inr (Or.inl ⟨h1, h2, hr⟩)
theorem WRq.c {e b r : Int} (h1 : 8 ≤ e) (h2 : b < 8) (hr : r = 6) : WRq e b r := Or.inr (Or.inr (Or.inl ⟨h1, h2, hr⟩))
theorem WRq.d {e b r : Int} (h1 : 8 ≤ e) (h2 : 8 ≤ b) (h3 : BLp b e) (hr : r = 0) : WRq e b r := Or.inr (Or.inr (Or.inr (Or.inl ⟨h1, h2, h3, hr⟩)))
theorem WRq.e {e b r : Int} (h1 : 8 ≤ e) (h2 : 8 ≤ b) (h3 : ¬ BLp b e) (hr : r = 4) : WRq e b r := Or.inr (Or.inr (Or.inr (Or.inr ⟨h1, h2, h3, hr⟩)))
theorem WRq.uniq {e b r r' : Int} (h : WRq e b r) (h' : WRq e b r') : r = r' := by
  rcases h with ⟨a1, a2, a3, a4⟩ | ⟨a1, a2, a3⟩ | ⟨a1, a2, a3⟩ | ⟨a1, a2, a3, a4⟩ | ⟨a1, a2, a3, a4⟩ <;> rcases h' with ⟨b1, b2, b3, b4⟩ | ⟨b1, b2, b3⟩ | ⟨b1, b2, b3⟩ | ⟨b1, b2, b3, b4⟩ | ⟨b1, b2, b3, b4⟩ <;> first | omega | exact absurd ⟨a2, a3⟩ b2 | exact absurd ⟨b2, b3⟩ a2 | exact absurd a3 b3 | exact absurd b3 a3
theorem WRq.big {e b : Int} (h : WRq e b 0) (he : 8 ≤ e) : 8 ≤ b := by
  rcases h with ⟨a1, a2, a3, a4⟩ | ⟨a1, a2, a3⟩ | ⟨a1, a2, a3⟩ | ⟨a1, a2, a3, a4⟩ | ⟨a1, a2, a3, a4⟩ <;> omega
theorem WRq.split {e b r : Int} (h : WRq e b r) (he : 8 ≤ e) (hb : 8 ≤ b) : (BLp b e ∧ r = 0) ∨ (¬ BLp b e ∧ r = 4) := by
  rcases h with ⟨a1, a2, a3, a4⟩ | ⟨a1, a2, a3⟩ | ⟨a1, a2, a3⟩ | ⟨a1, a2, a3, a4⟩ | ⟨a1, a2, a3, a4⟩
  · omega
  · omega
  · omega
  · exact Or.inl ⟨a3, a4⟩
  · exact Or.inr ⟨a3, a4⟩
def VAq (a b : Int) : Prop := 20 ≤ a ∧ ICp a ∧ ICp b
/-- what stores(a, b) answers -/
def STq (a b r : Int) : Prop := (¬ VAq a b ∧ r = -1) ∨ (VAq a b ∧ WRq (a - 20) b r)
theorem STq.bad {a b r : Int} (hr : r = -1) (h : ¬ VAq a b) : STq a b r := Or.inl ⟨h, hr⟩
theorem STq.ok {a b r : Int} (hV : VAq a b) (h : WRq (a - 20) b r) : STq a b r := Or.inr ⟨hV, h⟩
theorem STq.uniq {a b r r' : Int} (h : STq a b r) (h' : STq a b r') : r = r' := by
  rcases h with ⟨h1, h2⟩ | ⟨h1, h2⟩ <;> rcases h' with ⟨k1, k2⟩ | ⟨k1, k2⟩
  · omega
  · exact absurd k1 h1
  · exact absurd h1 k1
  · exact h2.uniq k2
theorem STq.val {a b : Int} (h : STq a b 0) : VAq a b ∧ WRq (a - 20) b 0 := by
  rcases h with ⟨h1, h2⟩ | h
  · omega
  · exact h
def CVq (a b c : Int) : Prop := STq a b 0 ∧ 20 ≤ c ∧ ICp c
/-- what copies(a, b, c) answers -/
def CPq (a b c r : Int) : Prop := (¬ CVq a b c ∧ r = -1) ∨ (CVq a b c ∧ (((a < 28 ∨ c < 28) ∧ a = c ∧ r = 0) ∨ ((a < 28 ∨ c < 28) ∧ a ≠ c ∧ r = 6) ∨ (28 ≤ a ∧ 28 ≤ c ∧ BLp b (c - 20) ∧ r = 0) ∨ (28 ≤ a ∧ 28 ≤ c ∧ ¬ BLp b (c - 20) ∧ r = 4)))
theorem CPq.bad {a b c r : Int} (hr : r = -1) (h : ¬ CVq a b c) : CPq a b c r := Or.inl ⟨h, hr⟩
theorem CPq.eq {a b c r : Int} (hV : CVq a b c) (h1 : a < 28 ∨ c < 28) (h2 : a = c) (hr : r = 0) : CPq a b c r := Or.inr ⟨hV, Or.inl ⟨h1, h2, hr⟩⟩
theorem CPq.ne {a b c r : Int} (hV : CVq a b c) (h1 : a < 28 ∨ c < 28) (h2 : a ≠ c) (hr : r = 6) : CPq a b c r := Or.inr ⟨hV, Or.inr (Or.inl ⟨h1, h2, hr⟩)⟩
theorem CPq.yes {a b c r : Int} (hV : CVq a b c) (h1 : 28 ≤ a) (h2 : 28 ≤ c) (h3 : BLp b (c - 20)) (hr : r = 0) : CPq a b c r := Or.inr ⟨hV, Or.inr (Or.inr (Or.inl ⟨h1, h2, h3, hr⟩))⟩
theorem CPq.not {a b c r : Int} (hV : CVq a b c) (h1 : 28 ≤ a) (h2 : 28 ≤ c) (h3 : ¬ BLp b (c - 20)) (hr : r = 4) : CPq a b c r := Or.inr ⟨hV, Or.inr (Or.inr (Or.inr ⟨h1, h2, h3, hr⟩))⟩
theorem CPq.last {a b c r : Int} (hV : CVq a b c) (h1 : 28 ≤ a) (h2 : 28 ≤ c) (hw : WRq (c - 20) b r) : CPq a b c r := by
  have hb := hV.1.val.2.big (by omega)
  rcases hw.split (by omega) hb with ⟨k1, k2⟩ | ⟨k1, k2⟩
  · exact CPq.yes hV h1 h2 k1 k2
  · exact CPq.not hV h1 h2 k1 k2
theorem CPq.uniq {a b c r r' : Int} (h : CPq a b c r) (h' : CPq a b c r') : r = r' := by
  rcases h with ⟨h1, h2⟩ | ⟨h1, h2⟩ <;> rcases h' with ⟨k1, k2⟩ | ⟨k1, k2⟩
  · omega
  · exact absurd k1 h1
  · exact absurd h1 k1
  · rcases h2 with ⟨a1, a2, a3⟩ | ⟨a1, a2, a3⟩ | ⟨a1, a2, a3, a4⟩ | ⟨a1, a2, a3, a4⟩ <;> rcases k2 with ⟨b1, b2, b3⟩ | ⟨b1, b2, b3⟩ | ⟨b1, b2, b3, b4⟩ | ⟨b1, b2, b3, b4⟩ <;> first | omega | exact absurd a3 b3 | exact absurd b3 a3
/-- what name(c, i) answers -/
def NMq (c i r : Int) : Prop := (¬ (ICp c ∧ 0 ≤ i) ∧ r = -1) ∨ ((ICp c ∧ 0 ≤ i) ∧ ∃ w : List Int32, w = kwL.getD (c % 20).toNat [] ∧ ((i < (w.length : Int) ∧ r = (w.getD i.toNat 0).toInt) ∨ ((w.length : Int) ≤ i ∧ c / 20 * 2 ≤ i - (w.length : Int) ∧ r = -1) ∨ ((w.length : Int) ≤ i ∧ i - (w.length : Int) < c / 20 * 2 ∧ (i - (w.length : Int)) % 2 = 0 ∧ r = 91) ∨ ((w.length : Int) ≤ i ∧ i - (w.length : Int) < c / 20 * 2 ∧ (i - (w.length : Int)) % 2 ≠ 0 ∧ r = 93)))
theorem NMq.bad {c i r : Int} (hr : r = -1) (h : ¬ (ICp c ∧ 0 ≤ i)) : NMq c i r := Or.inl ⟨h, hr⟩
theorem NMq.chr {c i r : Int} {w : List Int32} (hc : ICp c) (hi : 0 ≤ i) (e : w = kwL.getD (c % 20).toNat []) (h : i < (w.length : Int)) (hr : r = (w.getD i.toNat 0).toInt) : NMq c i r := Or.inr ⟨⟨hc, hi⟩, w, e, Or.inl ⟨h, hr⟩⟩
theorem NMq.out {c i r : Int} {w : List Int32} (hc : ICp c) (hi : 0 ≤ i) (e : w = kwL.getD (c % 20).toNat []) (h : (w.length : Int) ≤ i) (h2 : c / 20 * 2 ≤ i - (w.length : Int)) (hr : r = -1) : NMq c i r := Or.inr ⟨⟨hc, hi⟩, w, e, Or.inr (Or.inl ⟨h, h2, hr⟩)⟩
theorem NMq.opn {c i r : Int} {w : List Int32} (hc : ICp c) (hi : 0 ≤ i) (e : w = kwL.getD (c % 20).toNat []) (h : (w.length : Int) ≤ i) (h2 : i - (w.length : Int) < c / 20 * 2) (h3 : (i - (w.length : Int)) % 2 = 0) (hr : r = 91) : NMq c i r := Or.inr ⟨⟨hc, hi⟩, w, e, Or.inr (Or.inr (Or.inl ⟨h, h2, h3, hr⟩))⟩
theorem NMq.cls {c i r : Int} {w : List Int32} (hc : ICp c) (hi : 0 ≤ i) (e : w = kwL.getD (c % 20).toNat []) (h : (w.length : Int) ≤ i) (h2 : i - (w.length : Int) < c / 20 * 2) (h3 : (i - (w.length : Int)) % 2 ≠ 0) (hr : r = 93) : NMq c i r := Or.inr ⟨⟨hc, hi⟩, w, e, Or.inr (Or.inr (Or.inr ⟨h, h2, h3, hr⟩))⟩
theorem NMq.uniq {c i r r' : Int} (h : NMq c i r) (h' : NMq c i r') : r = r' := by
  rcases h with ⟨h1, h2⟩ | ⟨h1, w, e, h2⟩ <;> rcases h' with ⟨k1, k2⟩ | ⟨k1, w', e', k2⟩
  · omega
  · exact absurd k1 h1
  · exact absurd h1 k1
  · rw [← e] at e'
    subst e'
    rcases h2 with ⟨a1, a2⟩ | ⟨a1, a2, a3⟩ | ⟨a1, a2, a3, a4⟩ | ⟨a1, a2, a3, a4⟩ <;> rcases k2 with ⟨b1, b2⟩ | ⟨b1, b2, b3⟩ | ⟨b1, b2, b3, b4⟩ | ⟨b1, b2, b3, b4⟩ <;> omega
def nmT : List Int32 := [116, 114, 117, 116, 104, 32, 98, 121, 116, 101, 32, 115, 104, 111, 114, 116, 32, 99, 104, 97, 114, 32, 105, 110, 116, 32, 108, 111, 110, 103, 32, 102, 108, 111, 97, 116, 32, 100, 111, 117, 98, 108, 101, 32, 98, 101, 97, 115, 116, 32, 99, 97, 116, 32, 108, 105, 111, 110, 32, 100, 111, 103, 32, 98, 105, 114, 100, 32, 100, 117, 99, 107, 32, 98, 97, 116, 32, 102, 108, 105, 101, 114, 32, 115, 119, 105, 109, 109, 101, 114]
def nmS (n : Nat) : Int := ([0, 0, 0, 0, 0, 0, 1, 1, 1, 1, 1, 2, 2, 2, 2, 2, 2, 3, 3, 3, 3, 3, 4, 4, 4, 4, 5, 5, 5, 5, 5, 6, 6, 6, 6, 6, 6, 7, 7, 7, 7, 7, 7, 7, 8, 8, 8, 8, 8, 8, 9, 9, 9, 9, 10, 10, 10, 10, 10, 11, 11, 11, 11, 12, 12, 12, 12, 12, 13, 13, 13, 13, 13, 14, 14, 14, 14, 15, 15, 15, 15, 15, 15, 16, 16, 16, 16, 16, 16, 16, 16] : List Int).getD n 0
def nmB (k : Nat) : Int := ([0, 6, 11, 17, 22, 26, 31, 37, 44, 50, 54, 59, 63, 68, 73, 77, 83] : List Int).getD k 0
def nmE (n : Nat) : Int := ([5, 5, 5, 5, 5, 5, 10, 10, 10, 10, 10, 16, 16, 16, 16, 16, 16, 21, 21, 21, 21, 21, 25, 25, 25, 25, 30, 30, 30, 30, 30, 36, 36, 36, 36, 36, 36, 43, 43, 43, 43, 43, 43, 43, 49, 49, 49, 49, 49, 49, 53, 53, 53, 53, 58, 58, 58, 58, 58, 62, 62, 62, 62, 67, 67, 67, 67, 67, 72, 72, 72, 72, 72, 76, 76, 76, 76, 82, 82, 82, 82, 82, 82, 90, 90, 90, 90, 90, 90, 90, 90] : List Int).getD n 0
theorem nmS_all : ∀ n : Nat, n < 90 → ((nmT.getD n 0).toInt = 32 → nmS (n + 1) = nmS n + 1) ∧ ((nmT.getD n 0).toInt ≠ 32 → nmS (n + 1) = nmS n) := by decide +kernel
theorem nmB_all : ∀ k : Nat, k < 17 → 0 ≤ nmB k ∧ nmB k ≤ 83 ∧ nmS (nmB k).toNat = k ∧ nmE (nmB k).toNat - nmB k = ((kwL.getD k []).length : Int) := by decide +kernel
theorem nmB_one : ∀ k : Nat, k < 17 → ∀ n : Nat, n < 91 → (n : Int) ≤ nmB k → nmS n = k → (n : Int) = nmB k := by decide +kernel
theorem nmE_all : ∀ n : Nat, n < 91 → (n : Int) ≤ nmE n ∧ nmE n ≤ 90 := by decide +kernel
theorem nmE_at : ∀ n : Nat, n < 91 → (nmE n).toNat = 90 ∨ (nmT.getD (nmE n).toNat 0).toInt = 32 := by decide +kernel
theorem nmE_to : ∀ n : Nat, n < 91 → ∀ j : Nat, j < 91 → n ≤ j ∧ (j : Int) < nmE n → j ≠ 90 ∧ (nmT.getD j 0).toInt ≠ 32 := by decide +kernel
theorem nmE_one (n : Nat) (hn : n < 91) (j : Nat) (hj : j < 91) (h1 : n ≤ j) (h2 : (j : Int) ≤ nmE n) : ((j : Int) = nmE n → j = 90 ∨ (nmT.getD j 0).toInt = 32) ∧ ((j = 90 ∨ (nmT.getD j 0).toInt = 32) → (j : Int) = nmE n) := by
  refine ⟨fun e => ?_, fun e => ?_⟩
  · have h := nmE_at n hn
    rw [show (nmE n).toNat = j by omega] at h
    exact h
  · rcases Int.lt_or_le (j : Int) (nmE n) with q | q
    · have h := nmE_to n hn j hj ⟨h1, q⟩
      rcases e with e | e
      · exact absurd e h.1
      · exact absurd e h.2
    · omega
theorem nm_chr : ∀ k : Nat, k < 17 → ∀ i : Nat, i < 10 → i < (kwL.getD k []).length → nmT.getD ((nmB k).toNat + i) 0 = (kwL.getD k []).getD i 0 := by decide +kernel
theorem nm_len : ∀ k : Nat, k < 17 → (kwL.getD k []).length < 10 := by decide +kernel
theorem tnN {i : Int32} (h : 0 ≤ i.toInt) : i.toNatClampNeg = i.toInt.toNat := by have := tn h; omega
end Law0
