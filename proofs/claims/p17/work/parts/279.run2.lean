section Run1
variable {vs vk vs' vk' : Nat → Int32} {vv vv' : Nat → Int64} {ar ce cr cr' : Int32} {cls frm lng cs ck cs' ck' : Nat → Int32} {cv cv' : Nat → Int64}
theorem RUN.setVar {n : Nat} {s k : Int32} {v : Int64} (h : RUN vs vk vv ar ce cr cls frm lng cs ck cv) (hv : VOK ar.toInt cr.toInt s k v) (e1 : vs' = upd vs n s) (e2 : vk' = upd vk n k) (e3 : vv' = vp_updL vv n v) : RUN vs' vk' vv' ar ce cr cls frm lng cs ck cv := by
  subst e1; subst e2; subst e3
  refine ⟨h.1, h.2.1, fun j hj => ?_, h.2.2.2⟩
  by_cases e : j = n
  · rw [e, upd_at, upd_at, updL_at]; exact hv
  · rw [upd_ne vs s e, upd_ne vk k e, updL_ne vv v e]; exact h.2.2.1 j hj
theorem RUN.setCell {a i c : Nat} {s k : Int32} {v : Int64} (h : RUN vs vk vv ar ce cr cls frm lng cs ck cv) (ha : (a : Int) < ar.toInt) (hi : (i : Int) < (lng a).toInt) (hc : c = (frm a).toNatClampNeg + i) (hv : VOK ar.toInt cr.toInt s k v)
    (h3 : s.toInt = 3 → (cls v.toInt.toNat).toInt / 20 + 1 = (cls a).toInt / 20) (h1 : (cls a).toInt < 28 → s.toInt = 1) (e1 : cs' = upd cs c s) (e2 : ck' = upd ck c k) (e3 : cv' = vp_updL cv c v) : RUN vs vk vv ar ce cr cls frm lng cs' ck' cv' := by
  subst e1; subst e2; subst e3
  refine ⟨h.1, h.2.1, h.2.2.1, fun b j hb hj => ?_, h.2.2.2.2⟩
  have fa := (h.2.1 a ha).2.1
  have fb := (h.2.1 b hb).2.1
  have ta := tn fa
  have tb := tn fb
  by_cases e : (frm b).toNatClampNeg + j = c
  · have hab : b = a := by
      rcases Nat.lt_trichotomy a b with q | q | q
      · have := h.2.2.2.2 a b q hb
        omega
      · exact q.symm
      · have := h.2.2.2.2 b a q ha
        omega
    subst hab
    rw [e]
    refine ⟨?_, ?_, ?_⟩
    · rw [upd_at, upd_at, updL_at]; exact hv
    · rw [upd_at, updL_at]; exact h3
    · rw [upd_at]; exact h1
  · have hh := h.2.2.2.1 b j hb hj
    refine ⟨?_, ?_, ?_⟩
    · rw [upd_ne cs s e, upd_ne ck k e, updL_ne cv v e]; exact hh.1
    · rw [upd_ne cs s e, updL_ne cv v e]; exact hh.2.1
    · rw [upd_ne cs s e]; exact hh.2.2
theorem VOK.mono {A B C E : Int} {s k : Int32} {v : Int64} (h : VOK A B s k v) (h1 : A ≤ C) (h2 : B ≤ E) : VOK C E s k v := ⟨h.1, fun q => ⟨(h.2.1 q).1, Int.lt_of_lt_of_le (h.2.1 q).2 h1⟩, fun q => ⟨(h.2.2.1 q).1, Int.lt_of_lt_of_le (h.2.2.1 q).2 h2⟩, h.2.2.2⟩
theorem RUN.moreCr (h : RUN vs vk vv ar ce cr cls frm lng cs ck cv) (h1 : cr.toInt ≤ cr'.toInt) (h2 : cr'.toInt ≤ 100) : RUN vs vk vv ar ce cr' cls frm lng cs ck cv := by
  obtain ⟨⟨a1, a2, a3, a4⟩, b, c, d, e⟩ := h
  exact ⟨⟨a1, a2, by omega, h2⟩, b, fun j hj => (c j hj).mono (Int.le_refl _) h1, fun a i ha hi => ⟨(d a i ha hi).1.mono (Int.le_refl _) h1, (d a i ha hi).2⟩, e⟩
theorem l2n {x : Int64} {z : Int32} (e : z = x.toInt32) (h0 : 0 ≤ x.toInt) (h1 : x.toInt ≤ 2147483647) : z.toNatClampNeg = x.toInt.toNat := by
  have h2 := l2iT e (by omega) h1
  have h3 := tn (i := z) (by omega)
  omega
end Run1
