section Pool0
theorem vaP_eq {D : va_G} {cl : List vw_C} {w w' : va_W} {H : Heap} (e : w = w') (h : va_P D cl w H) : va_P D cl w' H := e ▸ h
theorem vaD_eq {A : Nat → Prop} {w w' : va_W} (e : w = w') (h : va_D A w) : va_D A w' := e ▸ h
def pf (cI : ClassId) (K : Nat → Nat) (vc : Nat → Int32) (vd : Nat → Int64) (si : Nat → Nat → Int32) (sj : Nat → Int64) (iv inn : Nat → Nat) (ac : Nat → Nat → Int32) : Nat → va_E := fun a => if K a = 0 then .inr (7, [.int (vc a), .long (vd a)]) else if K a = 1 then .inr (5, [.int (si a 0), .int (si a 1), .int (si a 2), .int (si a 3), .int (si a 4), .int (si a 5), .int (si a 6), .int (si a 7), .int (si a 8), .int (si a 9), .ref (iv a), .ref (inn a), .int (si a 10), .int (si a 11), .long (sj a)]) else .inl (cI, (3, .inl (ac a)))
def aV (L : List Nat) (K : Nat → Nat) (a : Nat) : Prop := a ∈ L ∧ K a = 0
def aS (L : List Nat) (K : Nat → Nat) (a : Nat) : Prop := a ∈ L ∧ K a = 1
def aR (L : List Nat) (K : Nat → Nat) (a : Nat) : Prop := a ∈ L ∧ K a = 2
def up2 (f : Nat → Nat → Int32) (a j : Nat) (v : Int32) : Nat → Nat → Int32 := fun b i => if b = a ∧ i = j then v else f b i
theorem up2_ne (f : Nat → Nat → Int32) {a j b i : Nat} (v : Int32) (h : i ≠ j) : up2 f a j v b i = f b i := by simp [up2, h]
theorem up2_at (f : Nat → Nat → Int32) (a j : Nat) (v : Int32) : up2 f a j v a j = v := by simp [up2]
theorem up2_nb (f : Nat → Nat → Int32) {a j b i : Nat} (v : Int32) (h : b ≠ a) : up2 f a j v b i = f b i := by simp [up2, h]
theorem pf_V {cI : ClassId} {K : Nat → Nat} {vc : Nat → Int32} {vd : Nat → Int64} {si : Nat → Nat → Int32} {sj : Nat → Int64} {iv inn : Nat → Nat} {ac : Nat → Nat → Int32} {a : Nat} (h : K a = 0) : pf cI K vc vd si sj iv inn ac a = .inr (7, [.int (vc a), .long (vd a)]) := by
  unfold pf
  simp [h]
theorem pl_V {cI : ClassId} {L : List Nat} {K : Nat → Nat} {vc : Nat → Int32} {vd : Nat → Int64} {si : Nat → Nat → Int32} {sj : Nat → Int64} {iv inn : Nat → Nat} {ac : Nat → Nat → Int32} {X : va_W} {a : Nat} (h : aV L K a) : ∃ k : Nat, (X ++ va_pl L (pf cI K vc vd si sj iv inn ac))[k]? = some (a, .inr (7, [.int (vc a), .long (vd a)])) := by
  obtain ⟨k, hk⟩ := va_pl_get (X := X) (f := pf cI K vc vd si sj iv inn ac) h.1
  exact ⟨k, by rw [hk, pf_V h.2]⟩
theorem pf_S {cI : ClassId} {K : Nat → Nat} {vc : Nat → Int32} {vd : Nat → Int64} {si : Nat → Nat → Int32} {sj : Nat → Int64} {iv inn : Nat → Nat} {ac : Nat → Nat → Int32} {a : Nat} (h : K a = 1) : pf cI K vc vd si sj iv inn ac a = .inr (5, [.int (si a 0), .int (si a 1), .int (si a 2), .int (si a 3), .int (si a 4), .int (si a 5), .int (si a 6), .int (si a 7), .int (si a 8), .int (si a 9), .ref (iv a), .ref (inn a), .int (si a 10), .int (si a 11), .long (sj a)]) := by
  unfold pf
  simp [h]
theorem pl_S {cI : ClassId} {L : List Nat} {K : Nat → Nat} {vc : Nat → Int32} {vd : Nat → Int64} {si : Nat → Nat → Int32} {sj : Nat → Int64} {iv inn : Nat → Nat} {ac : Nat → Nat → Int32} {X : va_W} {a : Nat} (h : aS L K a) : ∃ k : Nat, (X ++ va_pl L (pf cI K vc vd si sj iv inn ac))[k]? = some (a, .inr (5, [.int (si a 0), .int (si a 1), .int (si a 2), .int (si a 3), .int (si a 4), .int (si a 5), .int (si a 6), .int (si a 7), .int (si a 8), .int (si a 9), .ref (iv a), .ref (inn a), .int (si a 10), .int (si a 11), .long (sj a)])) := by
  obtain ⟨k, hk⟩ := va_pl_get (X := X) (f := pf cI K vc vd si sj iv inn ac) h.1
  exact ⟨k, by rw [hk, pf_S h.2]⟩
theorem pf_A {cI : ClassId} {K : Nat → Nat} {vc : Nat → Int32} {vd : Nat → Int64} {si : Nat → Nat → Int32} {sj : Nat → Int64} {iv inn : Nat → Nat} {ac : Nat → Nat → Int32} {a : Nat} (h : K a = 2) : pf cI K vc vd si sj iv inn ac a = .inl (cI, (3, .inl (ac a))) := by
  unfold pf
  simp [h]
theorem pl_A {cI : ClassId} {L : List Nat} {K : Nat → Nat} {vc : Nat → Int32} {vd : Nat → Int64} {si : Nat → Nat → Int32} {sj : Nat → Int64} {iv inn : Nat → Nat} {ac : Nat → Nat → Int32} {X : va_W} {a : Nat} (h : aR L K a) : ∃ k : Nat, (X ++ va_pl L (pf cI K vc vd si sj iv inn ac))[k]? = some (a, .inl (cI, (3, .inl (ac a)))) := by
  obtain ⟨k, hk⟩ := va_pl_get (X := X) (f := pf cI K vc vd si sj iv inn ac) h.1
  exact ⟨k, by rw [hk, pf_A h.2]⟩
theorem pu_cls {cI : ClassId} {L : List Nat} {K : Nat → Nat} {vc : Nat → Int32} {vd : Nat → Int64} {si : Nat → Nat → Int32} {sj : Nat → Int64} {iv inn : Nat → Nat} {ac : Nat → Nat → Int32} {X : va_W} {A : Nat → Prop} {a k : Nat} (hD : va_D A (X ++ va_pl L (pf cI K vc vd si sj iv inn ac))) (h : aV L K a) (hk : (X ++ va_pl L (pf cI K vc vd si sj iv inn ac))[k]? = some (a, .inr (7, [.int (vc a), .long (vd a)]))) (c : Int32) : (X ++ va_pl L (pf cI K vc vd si sj iv inn ac)).set k (a, .inr (7, [.int c, .long (vd a)])) = X ++ va_pl L (pf cI K (va_up vc a c) vd si sj iv inn ac) := by
  have hk2 : (X ++ va_pl L (pf cI K vc vd si sj iv inn ac))[k]? = some (a, pf cI K vc vd si sj iv inn ac a) := by rw [hk, pf_V h.2]
  rw [va_pl_set hD h.1 hk2]
  refine congrArg (fun l => X ++ l) (va_pl_congr (fun b => ?_))
  by_cases e : b = a
  · subst e
    rw [va_up_self, pf_V h.2]
    simp [va_up]
  · rw [va_up_ne _ _ e]
    unfold pf
    simp [va_up, e]
theorem pu_datum {cI : ClassId} {L : List Nat} {K : Nat → Nat} {vc : Nat → Int32} {vd : Nat → Int64} {si : Nat → Nat → Int32} {sj : Nat → Int64} {iv inn : Nat → Nat} {ac : Nat → Nat → Int32} {X : va_W} {A : Nat → Prop} {a k : Nat} (hD : va_D A (X ++ va_pl L (pf cI K vc vd si sj iv inn ac))) (h : aV L K a) (hk : (X ++ va_pl L (pf cI K vc vd si sj iv inn ac))[k]? = some (a, .inr (7, [.int (vc a), .long (vd a)]))) (c : Int64) : (X ++ va_pl L (pf cI K vc vd si sj iv inn ac)).set k (a, .inr (7, [.int (vc a), .long c])) = X ++ va_pl L (pf cI K vc (va_up vd a c) si sj iv inn ac) := by
  have hk2 : (X ++ va_pl L (pf cI K vc vd si sj iv inn ac))[k]? = some (a, pf cI K vc vd si sj iv inn ac a) := by rw [hk, pf_V h.2]
  rw [va_pl_set hD h.1 hk2]
  refine congrArg (fun l => X ++ l) (va_pl_congr (fun b => ?_))
  by_cases e : b = a
  · subst e
    rw [va_up_self, pf_V h.2]
    simp [va_up]
  · rw [va_up_ne _ _ e]
    unfold pf
    simp [va_up, e]
theorem pu_act_ {cI : ClassId} {L : List Nat} {K : Nat → Nat} {vc : Nat → Int32} {vd : Nat → Int64} {si : Nat → Nat → Int32} {sj : Nat → Int64} {iv inn : Nat → Nat} {ac : Nat → Nat → Int32} {X : va_W} {A : Nat → Prop} {a k : Nat} (hD : va_D A (X ++ va_pl L (pf cI K vc vd si sj iv inn ac))) (h : aS L K a) (hk : (X ++ va_pl L (pf cI K vc vd si sj iv inn ac))[k]? = some (a, .inr (5, [.int (si a 0), .int (si a 1), .int (si a 2), .int (si a 3), .int (si a 4), .int (si a 5), .int (si a 6), .int (si a 7), .int (si a 8), .int (si a 9), .ref (iv a), .ref (inn a), .int (si a 10), .int (si a 11), .long (sj a)]))) (c : Int32) : (X ++ va_pl L (pf cI K vc vd si sj iv inn ac)).set k (a, .inr (5, [.int c, .int (si a 1), .int (si a 2), .int (si a 3), .int (si a 4), .int (si a 5), .int (si a 6), .int (si a 7), .int (si a 8), .int (si a 9), .ref (iv a), .ref (inn a), .int (si a 10), .int (si a 11), .long (sj a)])) = X ++ va_pl L (pf cI K vc vd (up2 si a 0 c) sj iv inn ac) := by
  have hk2 : (X ++ va_pl L (pf cI K vc vd si sj iv inn ac))[k]? = some (a, pf cI K vc vd si sj iv inn ac a) := by rw [hk, pf_S h.2]
  rw [va_pl_set hD h.1 hk2]
  refine congrArg (fun l => X ++ l) (va_pl_congr (fun b => ?_))
  by_cases e : b = a
  · subst e
    rw [va_up_self, pf_S h.2]
    simp [va_up, up2]
  · rw [va_up_ne _ _ e]
    unfold pf
    simp [va_up, e, up2]
theorem pu_guess_ {cI : ClassId} {L : List Nat} {K : Nat → Nat} {vc : Nat → Int32} {vd : Nat → Int64} {si : Nat → Nat → Int32} {sj : Nat → Int64} {iv inn : Nat → Nat} {ac : Nat → Nat → Int32} {X : va_W} {A : Nat → Prop} {a k : Nat} (hD : va_D A (X ++ va_pl L (pf cI K vc vd si sj iv inn ac))) (h : aS L K a) (hk : (X ++ va_pl L (pf cI K vc vd si sj iv inn ac))[k]? = some (a, .inr (5, [.int (si a 0), .int (si a 1), .int (si a 2), .int (si a 3), .int (si a 4), .int (si a 5), .int (si a 6), .int (si a 7), .int (si a 8), .int (si a 9), .ref (iv a), .ref (inn a), .int (si a 10), .int (si a 11), .long (sj a)]))) (c : Int32) : (X ++ va_pl L (pf cI K vc vd si sj iv inn ac)).set k (a, .inr (5, [.int (si a 0), .int c, .int (si a 2), .int (si a 3), .int (si a 4), .int (si a 5), .int (si a 6), .int (si a 7), .int (si a 8), .int (si a 9), .ref (iv a), .ref (inn a), .int (si a 10), .int (si a 11), .long (sj a)])) = X ++ va_pl L (pf cI K vc vd (up2 si a 1 c) sj iv inn ac) := by
  have hk2 : (X ++ va_pl L (pf cI K vc vd si sj iv inn ac))[k]? = some (a, pf cI K vc vd si sj iv inn ac a) := by rw [hk, pf_S h.2]
  rw [va_pl_set hD h.1 hk2]
  refine congrArg (fun l => X ++ l) (va_pl_congr (fun b => ?_))
  by_cases e : b = a
  · subst e
    rw [va_up_self, pf_S h.2]
    simp [va_up, up2]
  · rw [va_up_ne _ _ e]
    unfold pf
    simp [va_up, e, up2]
theorem pu_take_ {cI : ClassId} {L : List Nat} {K : Nat → Nat} {vc : Nat → Int32} {vd : Nat → Int64} {si : Nat → Nat → Int32} {sj : Nat → Int64} {iv inn : Nat → Nat} {ac : Nat → Nat → Int32} {X : va_W} {A : Nat → Prop} {a k : Nat} (hD : va_D A (X ++ va_pl L (pf cI K vc vd si sj iv inn ac))) (h : aS L K a) (hk : (X ++ va_pl L (pf cI K vc vd si sj iv inn ac))[k]? = some (a, .inr (5, [.int (si a 0), .int (si a 1), .int (si a 2), .int (si a 3), .int (si a 4), .int (si a 5), .int (si a 6), .int (si a 7), .int (si a 8), .int (si a 9), .ref (iv a), .ref (inn a), .int (si a 10), .int (si a 11), .long (sj a)]))) (c : Int32) : (X ++ va_pl L (pf cI K vc vd si sj iv inn ac)).set k (a, .inr (5, [.int (si a 0), .int (si a 1), .int c, .int (si a 3), .int (si a 4), .int (si a 5), .int (si a 6), .int (si a 7), .int (si a 8), .int (si a 9), .ref (iv a), .ref (inn a), .int (si a 10), .int (si a 11), .long (sj a)])) = X ++ va_pl L (pf cI K vc vd (up2 si a 2 c) sj iv inn ac) := by
  have hk2 : (X ++ va_pl L (pf cI K vc vd si sj iv inn ac))[k]? = some (a, pf cI K vc vd si sj iv inn ac a) := by rw [hk, pf_S h.2]
  rw [va_pl_set hD h.1 hk2]
  refine congrArg (fun l => X ++ l) (va_pl_congr (fun b => ?_))
  by_cases e : b = a
  · subst e
    rw [va_up_self, pf_S h.2]
    simp [va_up, up2]
  · rw [va_up_ne _ _ e]
    unfold pf
    simp [va_up, e, up2]
theorem pu_place_ {cI : ClassId} {L : List Nat} {K : Nat → Nat} {vc : Nat → Int32} {vd : Nat → Int64} {si : Nat → Nat → Int32} {sj : Nat → Int64} {iv inn : Nat → Nat} {ac : Nat → Nat → Int32} {X : va_W} {A : Nat → Prop} {a k : Nat} (hD : va_D A (X ++ va_pl L (pf cI K vc vd si sj iv inn ac))) (h : aS L K a) (hk : (X ++ va_pl L (pf cI K vc vd si sj iv inn ac))[k]? = some (a, .inr (5, [.int (si a 0), .int (si a 1), .int (si a 2), .int (si a 3), .int (si a 4), .int (si a 5), .int (si a 6), .int (si a 7), .int (si a 8), .int (si a 9), .ref (iv a), .ref (inn a), .int (si a 10), .int (si a 11), .long (sj a)]))) (c : Int32) : (X ++ va_pl L (pf cI K vc vd si sj iv inn ac)).set k (a, .inr (5, [.int (si a 0), .int (si a 1), .int (si a 2), .int c, .int (si a 4), .int (si a 5), .int (si a 6), .int (si a 7), .int (si a 8), .int (si a 9), .ref (iv a), .ref (inn a), .int (si a 10), .int (si a 11), .long (sj a)])) = X ++ va_pl L (pf cI K vc vd (up2 si a 3 c) sj iv inn ac) := by
  have hk2 : (X ++ va_pl L (pf cI K vc vd si sj iv inn ac))[k]? = some (a, pf cI K vc vd si sj iv inn ac a) := by rw [hk, pf_S h.2]
  rw [va_pl_set hD h.1 hk2]
  refine congrArg (fun l => X ++ l) (va_pl_congr (fun b => ?_))
  by_cases e : b = a
  · subst e
    rw [va_up_self, pf_S h.2]
    simp [va_up, up2]
  · rw [va_up_ne _ _ e]
    unfold pf
    simp [va_up, e, up2]
theorem pu_target_ {cI : ClassId} {L : List Nat} {K : Nat → Nat} {vc : Nat → Int32} {vd : Nat → Int64} {si : Nat → Nat → Int32} {sj : Nat → Int64} {iv inn : Nat → Nat} {ac : Nat → Nat → Int32} {X : va_W} {A : Nat → Prop} {a k : Nat} (hD : va_D A (X ++ va_pl L (pf cI K vc vd si sj iv inn ac))) (h : aS L K a) (hk : (X ++ va_pl L (pf cI K vc vd si sj iv inn ac))[k]? = some (a, .inr (5, [.int (si a 0), .int (si a 1), .int (si a 2), .int (si a 3), .int (si a 4), .int (si a 5), .int (si a 6), .int (si a 7), .int (si a 8), .int (si a 9), .ref (iv a), .ref (inn a), .int (si a 10), .int (si a 11), .long (sj a)]))) (c : Int32) : (X ++ va_pl L (pf cI K vc vd si sj iv inn ac)).set k (a, .inr (5, [.int (si a 0), .int (si a 1), .int (si a 2), .int (si a 3), .int c, .int (si a 5), .int (si a 6), .int (si a 7), .int (si a 8), .int (si a 9), .ref (iv a), .ref (inn a), .int (si a 10), .int (si a 11), .long (sj a)])) = X ++ va_pl L (pf cI K vc vd (up2 si a 4 c) sj iv inn ac) := by
  have hk2 : (X ++ va_pl L (pf cI K vc vd si sj iv inn ac))[k]? = some (a, pf cI K vc vd si sj iv inn ac a) := by rw [hk, pf_S h.2]
  rw [va_pl_set hD h.1 hk2]
  refine congrArg (fun l => X ++ l) (va_pl_congr (fun b => ?_))
  by_cases e : b = a
  · subst e
    rw [va_up_self, pf_S h.2]
    simp [va_up, up2]
  · rw [va_up_ne _ _ e]
    unfold pf
    simp [va_up, e, up2]
theorem pu_first_ {cI : ClassId} {L : List Nat} {K : Nat → Nat} {vc : Nat → Int32} {vd : Nat → Int64} {si : Nat → Nat → Int32} {sj : Nat → Int64} {iv inn : Nat → Nat} {ac : Nat → Nat → Int32} {X : va_W} {A : Nat → Prop} {a k : Nat} (hD : va_D A (X ++ va_pl L (pf cI K vc vd si sj iv inn ac))) (h : aS L K a) (hk : (X ++ va_pl L (pf cI K vc vd si sj iv inn ac))[k]? = some (a, .inr (5, [.int (si a 0), .int (si a 1), .int (si a 2), .int (si a 3), .int (si a 4), .int (si a 5), .int (si a 6), .int (si a 7), .int (si a 8), .int (si a 9), .ref (iv a), .ref (inn a), .int (si a 10), .int (si a 11), .long (sj a)]))) (c : Int32) : (X ++ va_pl L (pf cI K vc vd si sj iv inn ac)).set k (a, .inr (5, [.int (si a 0), .int (si a 1), .int (si a 2), .int (si a 3), .int (si a 4), .int c, .int (si a 6), .int (si a 7), .int (si a 8), .int (si a 9), .ref (iv a), .ref (inn a), .int (si a 10), .int (si a 11), .long (sj a)])) = X ++ va_pl L (pf cI K vc vd (up2 si a 5 c) sj iv inn ac) := by
  have hk2 : (X ++ va_pl L (pf cI K vc vd si sj iv inn ac))[k]? = some (a, pf cI K vc vd si sj iv inn ac a) := by rw [hk, pf_S h.2]
  rw [va_pl_set hD h.1 hk2]
  refine congrArg (fun l => X ++ l) (va_pl_congr (fun b => ?_))
  by_cases e : b = a
  · subst e
    rw [va_up_self, pf_S h.2]
    simp [va_up, up2]
  · rw [va_up_ne _ _ e]
    unfold pf
    simp [va_up, e, up2]
theorem pu_second_ {cI : ClassId} {L : List Nat} {K : Nat → Nat} {vc : Nat → Int32} {vd : Nat → Int64} {si : Nat → Nat → Int32} {sj : Nat → Int64} {iv inn : Nat → Nat} {ac : Nat → Nat → Int32} {X : va_W} {A : Nat → Prop} {a k : Nat} (hD : va_D A (X ++ va_pl L (pf cI K vc vd si sj iv inn ac))) (h : aS L K a) (hk : (X ++ va_pl L (pf cI K vc vd si sj iv inn ac))[k]? = some (a, .inr (5, [.int (si a 0), .int (si a 1), .int (si a 2), .int (si a 3), .int (si a 4), .int (si a 5), .int (si a 6), .int (si a 7), .int (si a 8), .int (si a 9), .ref (iv a), .ref (inn a), .int (si a 10), .int (si a 11), .long (sj a)]))) (c : Int32) : (X ++ va_pl L (pf cI K vc vd si sj iv inn ac)).set k (a, .inr (5, [.int (si a 0), .int (si a 1), .int (si a 2), .int (si a 3), .int (si a 4), .int (si a 5), .int c, .int (si a 7), .int (si a 8), .int (si a 9), .ref (iv a), .ref (inn a), .int (si a 10), .int (si a 11), .long (sj a)])) = X ++ va_pl L (pf cI K vc vd (up2 si a 6 c) sj iv inn ac) := by
  have hk2 : (X ++ va_pl L (pf cI K vc vd si sj iv inn ac))[k]? = some (a, pf cI K vc vd si sj iv inn ac a) := by rw [hk, pf_S h.2]
  rw [va_pl_set hD h.1 hk2]
  refine congrArg (fun l => X ++ l) (va_pl_congr (fun b => ?_))
  by_cases e : b = a
  · subst e
    rw [va_up_self, pf_S h.2]
    simp [va_up, up2]
  · rw [va_up_ne _ _ e]
    unfold pf
    simp [va_up, e, up2]
theorem pu_cls_ {cI : ClassId} {L : List Nat} {K : Nat → Nat} {vc : Nat → Int32} {vd : Nat → Int64} {si : Nat → Nat → Int32} {sj : Nat → Int64} {iv inn : Nat → Nat} {ac : Nat → Nat → Int32} {X : va_W} {A : Nat → Prop} {a k : Nat} (hD : va_D A (X ++ va_pl L (pf cI K vc vd si sj iv inn ac))) (h : aS L K a) (hk : (X ++ va_pl L (pf cI K vc vd si sj iv inn ac))[k]? = some (a, .inr (5, [.int (si a 0), .int (si a 1), .int (si a 2), .int (si a 3), .int (si a 4), .int (si a 5), .int (si a 6), .int (si a 7), .int (si a 8), .int (si a 9), .ref (iv a), .ref (inn a), .int (si a 10), .int (si a 11), .long (sj a)]))) (c : Int32) : (X ++ va_pl L (pf cI K vc vd si sj iv inn ac)).set k (a, .inr (5, [.int (si a 0), .int (si a 1), .int (si a 2), .int (si a 3), .int (si a 4), .int (si a 5), .int (si a 6), .int c, .int (si a 8), .int (si a 9), .ref (iv a), .ref (inn a), .int (si a 10), .int (si a 11), .long (sj a)])) = X ++ va_pl L (pf cI K vc vd (up2 si a 7 c) sj iv inn ac) := by
  have hk2 : (X ++ va_pl L (pf cI K vc vd si sj iv inn ac))[k]? = some (a, pf cI K vc vd si sj iv inn ac a) := by rw [hk, pf_S h.2]
  rw [va_pl_set hD h.1 hk2]
  refine congrArg (fun l => X ++ l) (va_pl_congr (fun b => ?_))
  by_cases e : b = a
  · subst e
    rw [va_up_self, pf_S h.2]
    simp [va_up, up2]
  · rw [va_up_ne _ _ e]
    unfold pf
    simp [va_up, e, up2]
theorem pu_blankDims_ {cI : ClassId} {L : List Nat} {K : Nat → Nat} {vc : Nat → Int32} {vd : Nat → Int64} {si : Nat → Nat → Int32} {sj : Nat → Int64} {iv inn : Nat → Nat} {ac : Nat → Nat → Int32} {X : va_W} {A : Nat → Prop} {a k : Nat} (hD : va_D A (X ++ va_pl L (pf cI K vc vd si sj iv inn ac))) (h : aS L K a) (hk : (X ++ va_pl L (pf cI K vc vd si sj iv inn ac))[k]? = some (a, .inr (5, [.int (si a 0), .int (si a 1), .int (si a 2), .int (si a 3), .int (si a 4), .int (si a 5), .int (si a 6), .int (si a 7), .int (si a 8), .int (si a 9), .ref (iv a), .ref (inn a), .int (si a 10), .int (si a 11), .long (sj a)]))) (c : Int32) : (X ++ va_pl L (pf cI K vc vd si sj iv inn ac)).set k (a, .inr (5, [.int (si a 0), .int (si a 1), .int (si a 2), .int (si a 3), .int (si a 4), .int (si a 5), .int (si a 6), .int (si a 7), .int c, .int (si a 9), .ref (iv a), .ref (inn a), .int (si a 10), .int (si a 11), .long (sj a)])) = X ++ va_pl L (pf cI K vc vd (up2 si a 8 c) sj iv inn ac) := by
  have hk2 : (X ++ va_pl L (pf cI K vc vd si sj iv inn ac))[k]? = some (a, pf cI K vc vd si sj iv inn ac a) := by rw [hk, pf_S h.2]
  rw [va_pl_set hD h.1 hk2]
  refine congrArg (fun l => X ++ l) (va_pl_congr (fun b => ?_))
  by_cases e : b = a
  · subst e
    rw [va_up_self, pf_S h.2]
    simp [va_up, up2]
  · rw [va_up_ne _ _ e]
    unfold pf
    simp [va_up, e, up2]
theorem pu_indexes_ {cI : ClassId} {L : List Nat} {K : Nat → Nat} {vc : Nat → Int32} {vd : Nat → Int64} {si : Nat → Nat → Int32} {sj : Nat → Int64} {iv inn : Nat → Nat} {ac : Nat → Nat → Int32} {X : va_W} {A : Nat → Prop} {a k : Nat} (hD : va_D A (X ++ va_pl L (pf cI K vc vd si sj iv inn ac))) (h : aS L K a) (hk : (X ++ va_pl L (pf cI K vc vd si sj iv inn ac))[k]? = some (a, .inr (5, [.int (si a 0), .int (si a 1), .int (si a 2), .int (si a 3), .int (si a 4), .int (si a 5), .int (si a 6), .int (si a 7), .int (si a 8), .int (si a 9), .ref (iv a), .ref (inn a), .int (si a 10), .int (si a 11), .long (sj a)]))) (c : Int32) : (X ++ va_pl L (pf cI K vc vd si sj iv inn ac)).set k (a, .inr (5, [.int (si a 0), .int (si a 1), .int (si a 2), .int (si a 3), .int (si a 4), .int (si a 5), .int (si a 6), .int (si a 7), .int (si a 8), .int c, .ref (iv a), .ref (inn a), .int (si a 10), .int (si a 11), .long (sj a)])) = X ++ va_pl L (pf cI K vc vd (up2 si a 9 c) sj iv inn ac) := by
  have hk2 : (X ++ va_pl L (pf cI K vc vd si sj iv inn ac))[k]? = some (a, pf cI K vc vd si sj iv inn ac a) := by rw [hk, pf_S h.2]
  rw [va_pl_set hD h.1 hk2]
  refine congrArg (fun l => X ++ l) (va_pl_congr (fun b => ?_))
  by_cases e : b = a
  · subst e
    rw [va_up_self, pf_S h.2]
    simp [va_up, up2]
  · rw [va_up_ne _ _ e]
    unfold pf
    simp [va_up, e, up2]
theorem pu_atomVar_ {cI : ClassId} {L : List Nat} {K : Nat → Nat} {vc : Nat → Int32} {vd : Nat → Int64} {si : Nat → Nat → Int32} {sj : Nat → Int64} {iv inn : Nat → Nat} {ac : Nat → Nat → Int32} {X : va_W} {A : Nat → Prop} {a k : Nat} (hD : va_D A (X ++ va_pl L (pf cI K vc vd si sj iv inn ac))) (h : aS L K a) (hk : (X ++ va_pl L (pf cI K vc vd si sj iv inn ac))[k]? = some (a, .inr (5, [.int (si a 0), .int (si a 1), .int (si a 2), .int (si a 3), .int (si a 4), .int (si a 5), .int (si a 6), .int (si a 7), .int (si a 8), .int (si a 9), .ref (iv a), .ref (inn a), .int (si a 10), .int (si a 11), .long (sj a)]))) (c : Int32) : (X ++ va_pl L (pf cI K vc vd si sj iv inn ac)).set k (a, .inr (5, [.int (si a 0), .int (si a 1), .int (si a 2), .int (si a 3), .int (si a 4), .int (si a 5), .int (si a 6), .int (si a 7), .int (si a 8), .int (si a 9), .ref (iv a), .ref (inn a), .int c, .int (si a 11), .long (sj a)])) = X ++ va_pl L (pf cI K vc vd (up2 si a 10 c) sj iv inn ac) := by
  have hk2 : (X ++ va_pl L (pf cI K vc vd si sj iv inn ac))[k]? = some (a, pf cI K vc vd si sj iv inn ac a) := by rw [hk, pf_S h.2]
  rw [va_pl_set hD h.1 hk2]
  refine congrArg (fun l => X ++ l) (va_pl_congr (fun b => ?_))
  by_cases e : b = a
  · subst e
    rw [va_up_self, pf_S h.2]
    simp [va_up, up2]
  · rw [va_up_ne _ _ e]
    unfold pf
    simp [va_up, e, up2]
theorem pu_atomClass_ {cI : ClassId} {L : List Nat} {K : Nat → Nat} {vc : Nat → Int32} {vd : Nat → Int64} {si : Nat → Nat → Int32} {sj : Nat → Int64} {iv inn : Nat → Nat} {ac : Nat → Nat → Int32} {X : va_W} {A : Nat → Prop} {a k : Nat} (hD : va_D A (X ++ va_pl L (pf cI K vc vd si sj iv inn ac))) (h : aS L K a) (hk : (X ++ va_pl L (pf cI K vc vd si sj iv inn ac))[k]? = some (a, .inr (5, [.int (si a 0), .int (si a 1), .int (si a 2), .int (si a 3), .int (si a 4), .int (si a 5), .int (si a 6), .int (si a 7), .int (si a 8), .int (si a 9), .ref (iv a), .ref (inn a), .int (si a 10), .int (si a 11), .long (sj a)]))) (c : Int32) : (X ++ va_pl L (pf cI K vc vd si sj iv inn ac)).set k (a, .inr (5, [.int (si a 0), .int (si a 1), .int (si a 2), .int (si a 3), .int (si a 4), .int (si a 5), .int (si a 6), .int (si a 7), .int (si a 8), .int (si a 9), .ref (iv a), .ref (inn a), .int (si a 10), .int c, .long (sj a)])) = X ++ va_pl L (pf cI K vc vd (up2 si a 11 c) sj iv inn ac) := by
  have hk2 : (X ++ va_pl L (pf cI K vc vd si sj iv inn ac))[k]? = some (a, pf cI K vc vd si sj iv inn ac a) := by rw [hk, pf_S h.2]
  rw [va_pl_set hD h.1 hk2]
  refine congrArg (fun l => X ++ l) (va_pl_congr (fun b => ?_))
  by_cases e : b = a
  · subst e
    rw [va_up_self, pf_S h.2]
    simp [va_up, up2]
  · rw [va_up_ne _ _ e]
    unfold pf
    simp [va_up, e, up2]
theorem pu_atomNumber_ {cI : ClassId} {L : List Nat} {K : Nat → Nat} {vc : Nat → Int32} {vd : Nat → Int64} {si : Nat → Nat → Int32} {sj : Nat → Int64} {iv inn : Nat → Nat} {ac : Nat → Nat → Int32} {X : va_W} {A : Nat → Prop} {a k : Nat} (hD : va_D A (X ++ va_pl L (pf cI K vc vd si sj iv inn ac))) (h : aS L K a) (hk : (X ++ va_pl L (pf cI K vc vd si sj iv inn ac))[k]? = some (a, .inr (5, [.int (si a 0), .int (si a 1), .int (si a 2), .int (si a 3), .int (si a 4), .int (si a 5), .int (si a 6), .int (si a 7), .int (si a 8), .int (si a 9), .ref (iv a), .ref (inn a), .int (si a 10), .int (si a 11), .long (sj a)]))) (c : Int64) : (X ++ va_pl L (pf cI K vc vd si sj iv inn ac)).set k (a, .inr (5, [.int (si a 0), .int (si a 1), .int (si a 2), .int (si a 3), .int (si a 4), .int (si a 5), .int (si a 6), .int (si a 7), .int (si a 8), .int (si a 9), .ref (iv a), .ref (inn a), .int (si a 10), .int (si a 11), .long c])) = X ++ va_pl L (pf cI K vc vd si (va_up sj a c) iv inn ac) := by
  have hk2 : (X ++ va_pl L (pf cI K vc vd si sj iv inn ac))[k]? = some (a, pf cI K vc vd si sj iv inn ac a) := by rw [hk, pf_S h.2]
  rw [va_pl_set hD h.1 hk2]
  refine congrArg (fun l => X ++ l) (va_pl_congr (fun b => ?_))
  by_cases e : b = a
  · subst e
    rw [va_up_self, pf_S h.2]
    simp [va_up]
  · rw [va_up_ne _ _ e]
    unfold pf
    simp [va_up, e]
theorem pu_row {cI : ClassId} {L : List Nat} {K : Nat → Nat} {vc : Nat → Int32} {vd : Nat → Int64} {si : Nat → Nat → Int32} {sj : Nat → Int64} {iv inn : Nat → Nat} {ac : Nat → Nat → Int32} {X : va_W} {A : Nat → Prop} {a k : Nat} (hD : va_D A (X ++ va_pl L (pf cI K vc vd si sj iv inn ac))) (h : aR L K a) (hk : (X ++ va_pl L (pf cI K vc vd si sj iv inn ac))[k]? = some (a, .inl (cI, (3, .inl (ac a))))) (g : Nat → Int32) : (X ++ va_pl L (pf cI K vc vd si sj iv inn ac)).set k (a, .inl (cI, (3, .inl g))) = X ++ va_pl L (pf cI K vc vd si sj iv inn (va_up ac a g)) := by
  have hk2 : (X ++ va_pl L (pf cI K vc vd si sj iv inn ac))[k]? = some (a, pf cI K vc vd si sj iv inn ac a) := by rw [hk, pf_A h.2]
  rw [va_pl_set hD h.1 hk2]
  refine congrArg (fun l => X ++ l) (va_pl_congr (fun b => ?_))
  by_cases e : b = a
  · subst e
    rw [va_up_self, pf_A h.2]
    simp [va_up]
  · rw [va_up_ne _ _ e]
    unfold pf
    simp [va_up, e]
def PI (L : List Nat) (K : Nat → Nat) (si : Nat → Nat → Int32) (iv inn : Nat → Nat) : Prop := ∀ a, aS L K a → aR L K (iv a) ∧ aR L K (inn a) ∧ 0 ≤ (si a 9).toInt ∧ (si a 9).toInt ≤ 3
theorem PI.at {L : List Nat} {K : Nat → Nat} {si : Nat → Nat → Int32} {iv inn : Nat → Nat} {a : Nat} (h : PI L K si iv inn) (ha : aS L K a) : aR L K (iv a) ∧ aR L K (inn a) ∧ 0 ≤ (si a 9).toInt ∧ (si a 9).toInt ≤ 3 := h a ha
theorem PI.up {L : List Nat} {K : Nat → Nat} {si si' : Nat → Nat → Int32} {iv inn : Nat → Nat} {a j : Nat} {v : Int32} (h : PI L K si iv inn) (e : si' = up2 si a j v) (hj : j ≠ 9) : PI L K si' iv inn := by
  subst e
  intro b hb
  rw [up2_ne si v (fun q => hj q.symm)]
  exact h b hb
theorem PI.up9 {L : List Nat} {K : Nat → Nat} {si si' : Nat → Nat → Int32} {iv inn : Nat → Nat} {a j : Nat} {v : Int32} (h : PI L K si iv inn) (e : si' = up2 si a j v) (h0 : 0 ≤ v.toInt) (h1 : v.toInt ≤ 3) : PI L K si' iv inn := by
  subst e
  intro b hb
  obtain ⟨q1, q2, q3, q4⟩ := h b hb
  refine ⟨q1, q2, ?_⟩
  unfold up2
  split
  · exact ⟨h0, h1⟩
  · exact ⟨q3, q4⟩
def RF (L : List Nat) (K : Nat → Nat) (gB hB rS : Nat) (gS hS : Nat → Option Nat) (uA uO uH : Nat) (vs ms : Nat → Option Nat) : Prop := aS L K gB ∧ aS L K hB ∧ aS L K rS ∧ (∀ j : Nat, j < 100 → gS j = none ∨ ∃ a, gS j = some a ∧ aS L K a) ∧ (∀ j : Nat, j < 100 → hS j = none ∨ ∃ a, hS j = some a ∧ aS L K a) ∧ aV L K uA ∧ aV L K uO ∧ aV L K uH ∧ (∀ j : Nat, j < 26 → ∃ a, vs j = some a ∧ aV L K a) ∧ (∀ j : Nat, j < 50 → ∃ a, ms j = some a ∧ aV L K a)
variable {L : List Nat} {K : Nat → Nat} {gB hB rS : Nat} {gS hS : Nat → Option Nat} {uA uO uH : Nat} {vs ms : Nat → Option Nat}
theorem RF.z_gB (h : RF L K gB hB rS gS hS uA uO uH vs ms) : aS L K gB := h.1
theorem RF.z_hB (h : RF L K gB hB rS gS hS uA uO uH vs ms) : aS L K hB := h.2.1
theorem RF.z_rS (h : RF L K gB hB rS gS hS uA uO uH vs ms) : aS L K rS := h.2.2.1
theorem RF.z_uA (h : RF L K gB hB rS gS hS uA uO uH vs ms) : aV L K uA := h.2.2.2.2.2.1
theorem RF.z_uO (h : RF L K gB hB rS gS hS uA uO uH vs ms) : aV L K uO := h.2.2.2.2.2.2.1
theorem RF.z_uH (h : RF L K gB hB rS gS hS uA uO uH vs ms) : aV L K uH := h.2.2.2.2.2.2.2.1
theorem RF.z_vs (h : RF L K gB hB rS gS hS uA uO uH vs ms) : ∀ j : Nat, j < 26 → ∃ a, vs j = some a ∧ aV L K a := h.2.2.2.2.2.2.2.2.1
theorem RF.z_ms (h : RF L K gB hB rS gS hS uA uO uH vs ms) : ∀ j : Nat, j < 50 → ∃ a, ms j = some a ∧ aV L K a := h.2.2.2.2.2.2.2.2.2
theorem RF.z_gS (h : RF L K gB hB rS gS hS uA uO uH vs ms) : ∀ j : Nat, j < 100 → gS j = none ∨ ∃ a, gS j = some a ∧ aS L K a := h.2.2.2.1
theorem RF.z_hS (h : RF L K gB hB rS gS hS uA uO uH vs ms) : ∀ j : Nat, j < 100 → hS j = none ∨ ∃ a, hS j = some a ∧ aS L K a := h.2.2.2.2.1
end Pool0
section Pool1
variable {p : Program} {l : Launch} {e : Env} {R : Room} {s : State} {m : MethodId} {args : Array Value} {below : List Frame} {meth : Method} {c : Code} {H : Heap} {locs : List Loc} {cells slots : Nat} {Q : State → Prop}
variable {cc : ByteArray} {pc : Nat} {ls : Array Slot} {rest : List Value}
variable {D : va_G} {cl : List vw_C} {A : Nat → Prop} {a : Nat} {tys : List (ClassId × FieldType)} {ws : va_W} {H0 : Heap}
theorem m_aldq (hx : p.tables.exec = Jvm.exec) (hb : c.code = cc) (hK : va_K D cl tys s) (hP : va_P D cl ws H) (q0 t0 : Nat) {cA : ClassId} {C : String} {n : Nat} {f : Nat → Option Nat} (ha : ws[q0]? = some (a, .inl (cA, n, .inr (.inr (.inr (.inr f)))))) (ht : tys[t0]? = some (cA, .object C)) {i : Int32} (hin : vp_in i n) {r : Nat} (hf : f i.toNatClampNeg = some r) (hdg : decode cc pc = .ok (.aaload, 1))
    (k : W p l e R s m args below meth c H locs cells slots Q (F0 m (pc + 1) ls (.ref r :: rest))) : W p l e R s m args below meth c H locs cells slots Q (F0 m pc ls (.int i :: .ref a :: rest)) := by
  refine va_aldq hx hb hK hP q0 t0 ha ht hin hdg ?_
  rw [hf]; exact k
theorem m_aldn (hx : p.tables.exec = Jvm.exec) (hb : c.code = cc) (hK : va_K D cl tys s) (hP : va_P D cl ws H) (q0 t0 : Nat) {cA : ClassId} {C : String} {n : Nat} {f : Nat → Option Nat} (ha : ws[q0]? = some (a, .inl (cA, n, .inr (.inr (.inr (.inr f)))))) (ht : tys[t0]? = some (cA, .object C)) {i : Int32} (hin : vp_in i n) (hf : f i.toNatClampNeg = none) (hdg : decode cc pc = .ok (.aaload, 1))
    (k : W p l e R s m args below meth c H locs cells slots Q (F0 m (pc + 1) ls (.null :: rest))) : W p l e R s m args below meth c H locs cells slots Q (F0 m pc ls (.int i :: .ref a :: rest)) := by
  refine va_aldq hx hb hK hP q0 t0 ha ht hin hdg ?_
  rw [hf]; exact k
theorem m_alen (hx : p.tables.exec = Jvm.exec) (hb : c.code = cc) (hK : va_K D cl tys s) (hP : va_P D cl ws H) (q0 t0 : Nat) {cA : ClassId} {x : vp_A} (ha : ws[q0]? = some (a, .inl (cA, x))) {ty : FieldType} (ht : tys[t0]? = some (cA, ty)) (hn : x.1 < 2147483648) (hdg : decode cc pc = .ok (.arraylength, 1))
    (k : ∀ z : Int32, z.toInt = x.1 → W p l e R s m args below meth c H locs cells slots Q (F0 m (pc + 1) ls (.int z :: rest))) : W p l e R s m args below meth c H locs cells slots Q (F0 m pc ls (.ref a :: rest)) := va_alen hx hb hK hP q0 t0 ha ht rfl hdg (k _ (by
  have h := nI_toInt (n := x.1) (by omega)
  exact h))
end Pool1
abbrev twX (cs : Nat → ClassId) (q : Nat → Nat) (v_t_tapeSize : Int32) (v_t_textSize : Int32) (v_t_faultKind : Int32) (a_t_tape : Nat → Int32) (a_t_text : Nat → Int32) (a_g_beyond : Nat) (v_g_size : Int32) (a_g_steps : Nat → Option Nat) (a_h_beyond : Nat) (v_h_size : Int32) (a_h_steps : Nat → Option Nat) (a_r_scratch : Nat) (a_r_now : Nat) (v_r_takes : Int32) (v_r_negative : Int32) (v_r_namePlace : Int32) (v_r_faultKind : Int32) (v_r_faultPlace : Int32) (v_a_size : Int32) (v_a_limit : Int32) (v_a_digits : Int32) (v_a_kind : Int32) (v_a_from : Int32) (v_a_to : Int32) (v_o_size : Int32) (a_o_out : Nat → Int32) (v_b_size : Int32) (v_b_limit : Int32) (v_b_digits : Int32) (v_b_kind : Int32) (v_b_from : Int32) (v_b_to : Int32) (a_u_atom : Nat) (a_u_other : Nat) (a_u_hand : Nat) (v_u_marksMade : Int32) (v_u_came : Int32) (v_u_guesses : Int32) (v_u_right : Int32) (v_u_taken : Int32) (a_u_vars : Nat → Option Nat) (a_u_marks : Nat → Option Nat) (a_u_outcomes : Nat → Int32) (a_u_indexes : Nat → Int32) (v_s_things : Int32) (v_s_looked : Int32) (v_s_lookedTooOften : Int32) (v_s_arraysMade : Int32) (v_s_cellsMade : Int32) (a_s_classes : Nat → Int32) (a_s_starts : Nat → Int32) (a_s_lengths : Nat → Int32) (a_s_cells : Nat → Int64) : va_W := [(q 0, .inr (8, [.ref (q 1), .int v_t_tapeSize, .ref (q 2), .int v_t_textSize, .ref (q 3), .ref (q 5), .int v_t_faultKind, .ref (q 7), .ref (q 9), .ref (q 12)])), (q 1, .inl (cs 2, (3100, .inl a_t_tape))), (q 2, .inl (cs 2, (3000, .inl a_t_text))), (q 3, .inr (2, [.ref (q 4), .ref a_g_beyond, .int v_g_size])), (q 4, .inl (cs 4, (100, .inr (.inr (.inr (.inr a_g_steps)))))), (q 5, .inr (2, [.ref (q 6), .ref a_h_beyond, .int v_h_size])), (q 6, .inl (cs 4, (100, .inr (.inr (.inr (.inr a_h_steps)))))), (q 7, .inr (1, [.ref (q 8), .ref a_r_scratch, .ref a_r_now, .int v_r_takes, .int v_r_negative, .int v_r_namePlace, .int v_r_faultKind, .int v_r_faultPlace])), (q 8, .inr (0, [.ref (q 1), .int v_a_size, .int v_a_limit, .int v_a_digits, .int v_a_kind, .int v_a_from, .int v_a_to])), (q 9, .inr (4, [.ref (q 11), .ref (q 10), .int v_o_size])), (q 10, .inl (cs 2, (256, .inl a_o_out))), (q 11, .inr (0, [.ref (q 2), .int v_b_size, .int v_b_limit, .int v_b_digits, .int v_b_kind, .int v_b_from, .int v_b_to])), (q 12, .inr (3, [.ref (q 17), .ref (q 13), .ref (q 14), .ref (q 15), .ref (q 16), .ref a_u_atom, .ref a_u_other, .ref a_u_hand, .int v_u_marksMade, .int v_u_came, .int v_u_guesses, .int v_u_right, .int v_u_taken])), (q 13, .inl (cs 3, (26, .inr (.inr (.inr (.inr a_u_vars)))))), (q 14, .inl (cs 3, (50, .inr (.inr (.inr (.inr a_u_marks)))))), (q 15, .inl (cs 0, (100, .inl a_u_outcomes))), (q 16, .inl (cs 0, (3, .inl a_u_indexes))), (q 17, .inr (6, [.ref (q 18), .ref (q 19), .ref (q 20), .ref (q 21), .int v_s_things, .int v_s_looked, .int v_s_lookedTooOften, .int v_s_arraysMade, .int v_s_cellsMade])), (q 18, .inl (cs 0, (301, .inl a_s_classes))), (q 19, .inl (cs 0, (301, .inl a_s_starts))), (q 20, .inl (cs 0, (301, .inl a_s_lengths))), (q 21, .inl (cs 1, (4000, .inr (.inl a_s_cells))))]
abbrev twP (cs : Nat → ClassId) (a_L : List Nat) (a_K : Nat → Nat) (a_vc : Nat → Int32) (a_vd : Nat → Int64) (a_si : Nat → Nat → Int32) (a_sj : Nat → Int64) (a_iv : Nat → Nat) (a_inn : Nat → Nat) (a_ac : Nat → Nat → Int32) : va_W := va_pl a_L (pf (cs 0) a_K a_vc a_vd a_si a_sj a_iv a_inn a_ac)
abbrev tw (cs : Nat → ClassId) (q : Nat → Nat) (v_t_tapeSize : Int32) (v_t_textSize : Int32) (v_t_faultKind : Int32) (a_t_tape : Nat → Int32) (a_t_text : Nat → Int32) (a_g_beyond : Nat) (v_g_size : Int32) (a_g_steps : Nat → Option Nat) (a_h_beyond : Nat) (v_h_size : Int32) (a_h_steps : Nat → Option Nat) (a_r_scratch : Nat) (a_r_now : Nat) (v_r_takes : Int32) (v_r_negative : Int32) (v_r_namePlace : Int32) (v_r_faultKind : Int32) (v_r_faultPlace : Int32) (v_a_size : Int32) (v_a_limit : Int32) (v_a_digits : Int32) (v_a_kind : Int32) (v_a_from : Int32) (v_a_to : Int32) (v_o_size : Int32) (a_o_out : Nat → Int32) (v_b_size : Int32) (v_b_limit : Int32) (v_b_digits : Int32) (v_b_kind : Int32) (v_b_from : Int32) (v_b_to : Int32) (a_u_atom : Nat) (a_u_other : Nat) (a_u_hand : Nat) (v_u_marksMade : Int32) (v_u_came : Int32) (v_u_guesses : Int32) (v_u_right : Int32) (v_u_taken : Int32) (a_u_vars : Nat → Option Nat) (a_u_marks : Nat → Option Nat) (a_u_outcomes : Nat → Int32) (a_u_indexes : Nat → Int32) (v_s_things : Int32) (v_s_looked : Int32) (v_s_lookedTooOften : Int32) (v_s_arraysMade : Int32) (v_s_cellsMade : Int32) (a_s_classes : Nat → Int32) (a_s_starts : Nat → Int32) (a_s_lengths : Nat → Int32) (a_s_cells : Nat → Int64) (a_L : List Nat) (a_K : Nat → Nat) (a_vc : Nat → Int32) (a_vd : Nat → Int64) (a_si : Nat → Nat → Int32) (a_sj : Nat → Int64) (a_iv : Nat → Nat) (a_inn : Nat → Nat) (a_ac : Nat → Nat → Int32) : va_W := twX cs q v_t_tapeSize v_t_textSize v_t_faultKind a_t_tape a_t_text a_g_beyond v_g_size a_g_steps a_h_beyond v_h_size a_h_steps a_r_scratch a_r_now v_r_takes v_r_negative v_r_namePlace v_r_faultKind v_r_faultPlace v_a_size v_a_limit v_a_digits v_a_kind v_a_from v_a_to v_o_size a_o_out v_b_size v_b_limit v_b_digits v_b_kind v_b_from v_b_to a_u_atom a_u_other a_u_hand v_u_marksMade v_u_came v_u_guesses v_u_right v_u_taken a_u_vars a_u_marks a_u_outcomes a_u_indexes v_s_things v_s_looked v_s_lookedTooOften v_s_arraysMade v_s_cellsMade a_s_classes a_s_starts a_s_lengths a_s_cells ++ twP cs a_L a_K a_vc a_vd a_si a_sj a_iv a_inn a_ac
abbrev twT (cs : Nat → ClassId) : List (ClassId × FieldType) := [(cs 0, .int), (cs 1, .long), (cs 2, .byte), (cs 3, .object RX8), (cs 4, .object RX6)]
