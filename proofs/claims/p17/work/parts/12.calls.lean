section Ct0
abbrev cPre (D : va_G) (tys : List (ClassId × FieldType)) (K : Nat → Nat → Nat) (av : List Value) (sz : Nat) (w : va_W) : Array Value → State → Prop := va_Pc av (fun U => U.heap.size = sz ∧ va_P D vwCl w U.heap ∧ va_K D vwCl tys U ∧ va_D (fun _ => True) w ∧ sEnv K (va_A w sz) U U.heap)
abbrev cB (D : va_G) (tys : List (ClassId × FieldType)) (sz : Nat) (w : va_W) (w1 : va_W) (t : State) : Prop := va_P D vwCl w1 t.heap ∧ va_K D vwCl tys t ∧ va_D (va_A w sz) w1
abbrev CtI (l : Launch) (y : MethodName) (ws : List Cond) (rm : Room) (D : va_G) (tys : List (ClassId × FieldType)) (K : Nat → Nat → Nat) (av : List Value) (w : va_W) (post : Int32 → va_W → Prop) (mc ms : Nat) : Prop := ∀ sz : Nat, Met l y ws rm (cPre D tys K av sz w) (va_Qi post (cB D tys sz w) (va_A w sz)) mc ms (va_A w sz)
abbrev CtJ (l : Launch) (y : MethodName) (ws : List Cond) (rm : Room) (D : va_G) (tys : List (ClassId × FieldType)) (K : Nat → Nat → Nat) (av : List Value) (w : va_W) (post : Int64 → va_W → Prop) (mc ms : Nat) : Prop := ∀ sz : Nat, Met l y ws rm (cPre D tys K av sz w) (va_Ql post (cB D tys sz w) (va_A w sz)) mc ms (va_A w sz)
abbrev CtV (l : Launch) (y : MethodName) (ws : List Cond) (rm : Room) (D : va_G) (tys : List (ClassId × FieldType)) (K : Nat → Nat → Nat) (av : List Value) (w : va_W) (post : va_W → Prop) (mc ms : Nat) : Prop := ∀ sz : Nat, Met l y ws rm (cPre D tys K av sz w) (va_Qv post (cB D tys sz w) (va_A w sz)) mc ms (va_A w sz)
abbrev CtR (l : Launch) (y : MethodName) (ws : List Cond) (rm : Room) (D : va_G) (tys : List (ClassId × FieldType)) (K : Nat → Nat → Nat) (av : List Value) (w : va_W) (post : Nat → va_W → Prop) (mc ms : Nat) : Prop := ∀ sz : Nat, Met l y ws rm (cPre D tys K av sz w) (va_Qr (fun _ => True) (fun w1 ra t => post ra w1 ∧ cB D tys sz w w1 t) (va_A w sz)) mc ms (va_A w sz)
theorem cBlind {D : va_G} {tys : List (ClassId × FieldType)} {K : Nat → Nat → Nat} {av : List Value} {sz : Nat} {w : va_W} : FrameBlind (cPre D tys K av sz w) := fun a U g mk q => by
  obtain ⟨q0, q1, qP, qK, qD, qE⟩ := q
  exact ⟨q0, q1, qP, va_K.moved (u := U) (U := U.calling g mk a) (Vm.Alike.refl U.vm) qK, qD, sEnv.same (s := U) (U := U.calling g mk a) rfl qE⟩
theorem cFree {A : Nat → Prop} {w : va_W} {H0 H : Heap} {locs : List Loc} (hD : va_D A w) (hS : va_S A H0 H locs) (hA : ∀ q, H0.size ≤ q → A q) : ∀ q, va_A w H.size q → A q := by
  intro q h
  rcases h with ⟨k, e, h⟩ | h
  · exact hD.2 k (q, e) h
  · exact hA q (Nat.le_trans hS.1 h)
theorem cFree0 {A : Nat → Prop} {H0 H : Heap} {locs : List Loc} (hS : va_S A H0 H locs) (hA : ∀ q, H0.size ≤ q → A q) : ∀ q, va_A [] H.size q → A q := by
  intro q h
  rcases h with ⟨k, e, h⟩ | h
  · simp at h
  · exact hA q (Nat.le_trans hS.1 h)
theorem cD0 : va_D (fun _ => True) [] := ⟨fun i j p q h => by simp at h, fun k q h => by simp at h⟩
theorem cP0 {D : va_G} {H : Heap} : va_P D vwCl [] H := fun k q h => by simp at h
theorem tmodB (a : Int) {Y : Int} (hp : 0 < Y) : (0 ≤ a → 0 ≤ a.tmod Y ∧ a.tmod Y < Y) ∧ (a < 0 → -Y < a.tmod Y ∧ a.tmod Y ≤ 0) := by
  refine ⟨fun h => ⟨Int.tmod_nonneg Y h, Int.tmod_lt_of_pos a hp⟩, fun h => ⟨Int.lt_tmod_of_pos a hp, ?_⟩⟩
  have h1 := Int.tmod_nonneg (a := -a) Y (by omega)
  rw [Int.neg_tmod] at h1
  omega
theorem iDivT {x y z : Int32} {Y : Int} (hY : y.toInt = Y) (hp : 1 < Y) (h : z = x / y) : z.toInt = x.toInt.tdiv Y := by
  subst hY; subst h
  refine Int32.toInt_div_of_ne_right x y ?_
  intro h0
  rw [h0] at hp
  exact absurd hp (by decide)
theorem iDivL {x y z : Int32} {Y : Int} (hY : y.toInt = Y) (hp : 1 < Y) (h : z = x / y) : ∃ r : Int, x.toInt = Y * z.toInt + r ∧ (0 ≤ x.toInt → 0 ≤ r ∧ r < Y) ∧ (x.toInt < 0 → -Y < r ∧ r ≤ 0) := by
  have h1 := tmodB x.toInt (Y := Y) (by omega)
  refine ⟨x.toInt.tmod Y, ?_, h1.1, h1.2⟩
  rw [iDivT hY hp h]
  exact (Int.mul_tdiv_add_tmod x.toInt Y).symm
theorem iRemL {x y z : Int32} {Y : Int} (hY : y.toInt = Y) (hp : 1 < Y) (h : z = x - x / y * y) : ∃ r : Int, x.toInt = Y * r + z.toInt ∧ (0 ≤ x.toInt → 0 ≤ z.toInt ∧ z.toInt < Y) ∧ (x.toInt < 0 → -Y < z.toInt ∧ z.toInt ≤ 0) := by
  have h1 := tmodB x.toInt (Y := Y) (by omega)
  have h2 := Int.mul_tdiv_add_tmod x.toInt Y
  have hyb := iB y
  obtain ⟨k1, e1⟩ := iMul (x / y) y
  obtain ⟨k2, e2⟩ := iSub x (x / y * y)
  rw [iDivT hY hp rfl, hY, Int.mul_comm] at e1
  rw [← h] at e2
  have hz := iB z
  have e3 : z.toInt = x.toInt.tmod Y := by
    generalize Y * x.toInt.tdiv Y = u at *
    generalize x.toInt.tmod Y = v at *
    rcases Int.lt_or_le x.toInt 0 with hs | hs
    · have := h1.2 hs
      omega
    · have := h1.1 hs
      omega
  refine ⟨x.toInt.tdiv Y, ?_, ?_, ?_⟩
  · rw [e3]; exact h2.symm
  · rw [e3]; exact h1.1
  · rw [e3]; exact h1.2
end Ct0
theorem Met.mono {l : Launch} {y : MethodName} {ws : List Cond} {rm : Room} {Pc : Array Value → State → Prop} {Qc Qc' : Array Value → State → Outcome → State → Prop} {mc ms : Nat} {free : Addr → Prop} (h : Met l y ws rm Pc Qc mc ms free) (hq : ∀ a s o t, Qc a s o t → Qc' a s o t) : Met l y ws rm Pc Qc' mc ms free := by
  intro p e ha hc hk s m args below hf happ hP hK
  obtain ⟨k, o, h1, h2, h3, hQ⟩ := h p e ha hc hk s m args below hf happ hP hK
  exact ⟨k, o, h1, h2, h3, hq _ _ _ _ hQ.1, hQ.2⟩
theorem CtV.mono {l : Launch} {y : MethodName} {ws : List Cond} {rm : Room} {D : va_G} {tys : List (ClassId × FieldType)} {K : Nat → Nat → Nat} {av : List Value} {w : va_W} {post post' : va_W → Prop} {mc ms : Nat} (h : CtV l y ws rm D tys K av w post mc ms) (hp : ∀ w1, post w1 → post' w1) : CtV l y ws rm D tys K av w post' mc ms := fun sz => (h sz).mono (fun _ _ _ _ ⟨⟨u, h1, h2, h3⟩, h4⟩ => ⟨⟨u, h1, hp u h2, h3⟩, h4⟩)
theorem CtI.mono {l : Launch} {y : MethodName} {ws : List Cond} {rm : Room} {D : va_G} {tys : List (ClassId × FieldType)} {K : Nat → Nat → Nat} {av : List Value} {w : va_W} {post post' : Int32 → va_W → Prop} {mc ms : Nat} (h : CtI l y ws rm D tys K av w post mc ms) (hp : ∀ r w1, post r w1 → post' r w1) : CtI l y ws rm D tys K av w post' mc ms := fun sz => (h sz).mono (fun _ _ _ _ ⟨⟨r, u, h1, h2, h3⟩, h4⟩ => ⟨⟨r, u, h1, hp r u h2, h3⟩, h4⟩)
theorem metF {l : Launch} {y : MethodName} {ws ws' : List Cond} {rm : Room} {Pc : Array Value → State → Prop} {Qc : Array Value → State → Outcome → State → Prop} {mc ms : Nat} {free : Addr → Prop} {cc : ByteArray} {maxL : Nat} {ret : Option FieldType}
    (hy : plainFor y = true) (hw : ws = Cond.code y cc maxL ret :: ws')
    (body : ∀ p e s m args below meth c s₁, BodyLoose p l y (headSpec ws rm) cc maxL ret e s m args below meth c s₁ → c.maxLocals = maxL → Pc args s →
      W p l e (headSpec ws rm).room s m args below meth c s.heap [] 0 0 (MQ below Qc args s mc ms free) (entryFrame m args maxL)) : Met l y ws rm Pc Qc mc ms free := by
  refine MetFree.of_bodySF (code := cc) (maxLocals := maxL) (ret := ret) hy ?_ ?_
  · intro args s m h hn
    obtain ⟨meth, c, h1, h2, h3, h4, h5, h6, -, -⟩ := Cond.code_spec hn (atoms_spec (ws := ws) h _ (by rw [hw]; exact List.mem_cons_self))
    exact ⟨meth, c, h1, h2, h3, h4, h5, h6⟩
  · intro p e s m args below meth c s₁ B hml hP _
    have hh0 : s₁.heap = s.heap := by rw [B.state]; rfl
    obtain ⟨t, a1, o, b1, b2, b3⟩ := body p e s m args below meth c s₁ B hml hP s₁ hh0 (Stand.of_body B)
    exact ⟨t, o, a1, b1, b2, ⟨b3.1, b3.2⟩⟩
section Ct1
variable {p : Program} {l : Launch} {e : Env} {R : Room} {s : State} {m : MethodId} {args : Array Value} {below : List Frame} {meth : Method} {c : Code} {H : Heap} {locs : List Loc} {cells slots : Nat} {Q : State → Prop}
variable {cc : ByteArray} {pc : Nat} {ls : Array Slot} {rest : List Value}
variable {D : va_G} {A : Nat → Prop} {a : Nat} {tys tys' : List (ClassId × FieldType)} {w : va_W} {K : Nat → Nat → Nat}
variable {y : MethodName} {bytes : ByteArray} {maxL nL mc ms n index : Nat} {ret : Option FieldType} {ws : List Cond} {rm : Room} {Ts : List Cond} {own C : String} {b : Addr} {As : List Value} {st : List Value}
theorem wq {g : JFrame} (k : ∀ Q' : State → Prop, Q' = Q → W p l e R s m args below meth c H locs cells slots Q' g) : W p l e R s m args below meth c H locs cells slots Q g := k Q rfl
theorem wHL {g : JFrame} {H' : Heap} {locs' : List Loc} (hH : H' = H) (hl : locs' = locs) (k : W p l e R s m args below meth c H' locs' cells slots Q g) : W p l e R s m args below meth c H locs cells slots Q g := by
  subst hH; subst hl; exact k
theorem call_i {post : Int32 → va_W → Prop} (S9 : CallFix p m c cc nL s args Ts own) (hC : CtI l y ws rm D tys' K (.ref b :: As) w post mc ms) (cw : CallW R s args own C index y bytes maxL ret ws rm mc ms n) (hrc : ∃ cellB : Cell, H[b]? = some cellB ∧ cellB.vm.isStatics = false ∧ s.vm.findClass C = some cellB.cls) (hK : va_K D vwCl tys' s) (hP : va_P D vwCl w H) (hD : va_D A w) (hE : sEnv K A s s.heap) (hS : va_S A s.heap H locs) (hA : ∀ q, s.heap.size ≤ q → A q) (hn : As.length = n) (hsz : ls.size = nL) (hst : st = As.reverse ++ .ref b :: rest) (hW : (rest.map fun v => v.category).sum ≤ 8) (hdg : decode cc pc = .ok (.invokevirtual index, 3)) (hf : cells + mc ≤ R.cells ∧ slots + ms ≤ R.slots)
    (kk : ∀ (r : Int32) (w1 : va_W) (H1 : Heap) (locs1 : List Loc), post r w1 → va_P D vwCl w1 H1 → va_D A w1 → va_S A s.heap H1 locs1 → W p l e R s m args below meth c H1 locs1 (cells + mc) (slots + ms) Q (F0 m (pc + 3) ls (.int r :: rest))) : W p l e R s m args below meth c H locs cells slots Q (F0 m pc ls st) := by
  have hF : ∀ q, va_A w H.size q → A q := cFree hD hS hA
  refine va_calli (va_runV S9 (hC H.size) cw ⟨cBlind, hrc, fun U hU hW9 => ⟨rfl, by rw [hU], by rw [hU]; exact hP, va_K.moved hW9.alike hK, hD.weaken (fun _ _ _ _ => trivial), by rw [hU]; exact ((hE.kept hS.2.1).narrow hF).warm hW9⟩⟩ rfl hn hsz hst (lv_room hW) hdg hf) hS (fun q _ h => hF q h) hF (fun r w1 t H1 locs1 ht hvm hw hB hz hk hS1 => ?_)
  obtain ⟨hP1, hK1, hD1⟩ := hB
  rw [ht] at hP1
  exact kk r w1 H1 locs1 hw hP1 (hD1.weaken (fun k q _ h => hF q.1 h)) hS1
theorem call_iP {post : Int32 → va_W → Prop} (S9 : CallFix p m c cc nL s args Ts own) (hC : CtI l y ws rm D tys' K (.ref b :: As) [] post mc ms) (cw : CallW R s args own C index y bytes maxL ret ws rm mc ms n) (hrc : ∃ cellB : Cell, H[b]? = some cellB ∧ cellB.vm.isStatics = false ∧ s.vm.findClass C = some cellB.cls) (hK : va_K D vwCl tys' s) (hP : va_P D vwCl w H) (hD : va_D A w) (hE : sEnv K A s s.heap) (hS : va_S A s.heap H locs) (hA : ∀ q, s.heap.size ≤ q → A q) (hn : As.length = n) (hsz : ls.size = nL) (hst : st = As.reverse ++ .ref b :: rest) (hW : (rest.map fun v => v.category).sum ≤ 8) (hdg : decode cc pc = .ok (.invokevirtual index, 3)) (hf : cells + mc ≤ R.cells ∧ slots + ms ≤ R.slots)
    (kk : ∀ (r : Int32) (w1 : va_W) (H1 : Heap) (locs1 : List Loc), post r w1 → va_P D vwCl w H1 → va_D A w → va_S A s.heap H1 locs1 → W p l e R s m args below meth c H1 locs1 (cells + mc) (slots + ms) Q (F0 m (pc + 3) ls (.int r :: rest))) : W p l e R s m args below meth c H locs cells slots Q (F0 m pc ls st) := by
  have hF : ∀ q, va_A [] H.size q → A q := cFree0 hS hA
  refine va_calli (va_runV S9 (hC H.size) cw ⟨cBlind, hrc, fun U hU hW9 => ⟨rfl, by rw [hU], cP0, va_K.moved hW9.alike hK, cD0, by rw [hU]; exact ((hE.kept hS.2.1).narrow hF).warm hW9⟩⟩ rfl hn hsz hst (lv_room hW) hdg hf) hS (fun q _ h => hF q h) hF (fun r w1 t H1 locs1 ht hvm hw hB hz hk hS1 => ?_)
  obtain ⟨hP1, hK1, hD1⟩ := hB
  rw [ht] at hP1
  refine kk r w1 H1 locs1 hw (hP.kept (fun k q hq => hk q.1 (hP k q hq).lt ?_)) hD hS1
  intro h9
  rcases h9 with ⟨k9, e9, h9⟩ | h9
  · simp at h9
  · exact absurd (hP k q hq).lt (Nat.not_lt.mpr h9)
theorem call_iS {post : Int32 → va_W → Prop} (S9 : CallFix p m c cc nL s args Ts own) (hC : CtI l y ws rm D tys' K As w post mc ms) (cw : CallB R s args own index y bytes maxL ret ws rm mc ms n ∧ (Cond.static y).before args s = true) (hK : va_K D vwCl tys' s) (hP : va_P D vwCl w H) (hD : va_D A w) (hE : sEnv K A s s.heap) (hS : va_S A s.heap H locs) (hA : ∀ q, s.heap.size ≤ q → A q) (hn : As.length = n) (hsz : ls.size = nL) (hst : st = As.reverse ++ rest) (hW : (rest.map fun v => v.category).sum ≤ 8) (hdg : decode cc pc = .ok (.invokestatic index, 3)) (hf : cells + mc ≤ R.cells ∧ slots + ms ≤ R.slots)
    (kk : ∀ (r : Int32) (w1 : va_W) (H1 : Heap) (locs1 : List Loc), post r w1 → va_P D vwCl w1 H1 → va_D A w1 → va_S A s.heap H1 locs1 → W p l e R s m args below meth c H1 locs1 (cells + mc) (slots + ms) Q (F0 m (pc + 3) ls (.int r :: rest))) : W p l e R s m args below meth c H locs cells slots Q (F0 m pc ls st) := by
  have hF : ∀ q, va_A w H.size q → A q := cFree hD hS hA
  refine va_calli (va_runS S9 (hC H.size) cw ⟨cBlind, fun U hU hW9 => ⟨rfl, by rw [hU], by rw [hU]; exact hP, va_K.moved hW9.alike hK, hD.weaken (fun _ _ _ _ => trivial), by rw [hU]; exact ((hE.kept hS.2.1).narrow hF).warm hW9⟩⟩ rfl hn hsz hst (lv_room hW) hdg hf) hS (fun q _ h => hF q h) hF (fun r w1 t H1 locs1 ht hvm hw hB hz hk hS1 => ?_)
  obtain ⟨hP1, hK1, hD1⟩ := hB
  rw [ht] at hP1
  exact kk r w1 H1 locs1 hw hP1 (hD1.weaken (fun k q _ h => hF q.1 h)) hS1
theorem call_iSP {post : Int32 → va_W → Prop} (S9 : CallFix p m c cc nL s args Ts own) (hC : CtI l y ws rm D tys' K As [] post mc ms) (cw : CallB R s args own index y bytes maxL ret ws rm mc ms n ∧ (Cond.static y).before args s = true) (hK : va_K D vwCl tys' s) (hP : va_P D vwCl w H) (hD : va_D A w) (hE : sEnv K A s s.heap) (hS : va_S A s.heap H locs) (hA : ∀ q, s.heap.size ≤ q → A q) (hn : As.length = n) (hsz : ls.size = nL) (hst : st = As.reverse ++ rest) (hW : (rest.map fun v => v.category).sum ≤ 8) (hdg : decode cc pc = .ok (.invokestatic index, 3)) (hf : cells + mc ≤ R.cells ∧ slots + ms ≤ R.slots)
    (kk : ∀ (r : Int32) (w1 : va_W) (H1 : Heap) (locs1 : List Loc), post r w1 → va_P D vwCl w H1 → va_D A w → va_S A s.heap H1 locs1 → W p l e R s m args below meth c H1 locs1 (cells + mc) (slots + ms) Q (F0 m (pc + 3) ls (.int r :: rest))) : W p l e R s m args below meth c H locs cells slots Q (F0 m pc ls st) := by
  have hF : ∀ q, va_A [] H.size q → A q := cFree0 hS hA
  refine va_calli (va_runS S9 (hC H.size) cw ⟨cBlind, fun U hU hW9 => ⟨rfl, by rw [hU], cP0, va_K.moved hW9.alike hK, cD0, by rw [hU]; exact ((hE.kept hS.2.1).narrow hF).warm hW9⟩⟩ rfl hn hsz hst (lv_room hW) hdg hf) hS (fun q _ h => hF q h) hF (fun r w1 t H1 locs1 ht hvm hw hB hz hk hS1 => ?_)
  obtain ⟨hP1, hK1, hD1⟩ := hB
  rw [ht] at hP1
  refine kk r w1 H1 locs1 hw (hP.kept (fun k q hq => hk q.1 (hP k q hq).lt ?_)) hD hS1
  intro h9
  rcases h9 with ⟨k9, e9, h9⟩ | h9
  · simp at h9
  · exact absurd (hP k q hq).lt (Nat.not_lt.mpr h9)
theorem call_j {post : Int64 → va_W → Prop} (S9 : CallFix p m c cc nL s args Ts own) (hC : CtJ l y ws rm D tys' K (.ref b :: As) w post mc ms) (cw : CallW R s args own C index y bytes maxL ret ws rm mc ms n) (hrc : ∃ cellB : Cell, H[b]? = some cellB ∧ cellB.vm.isStatics = false ∧ s.vm.findClass C = some cellB.cls) (hK : va_K D vwCl tys' s) (hP : va_P D vwCl w H) (hD : va_D A w) (hE : sEnv K A s s.heap) (hS : va_S A s.heap H locs) (hA : ∀ q, s.heap.size ≤ q → A q) (hn : As.length = n) (hsz : ls.size = nL) (hst : st = As.reverse ++ .ref b :: rest) (hW : (rest.map fun v => v.category).sum ≤ 8) (hdg : decode cc pc = .ok (.invokevirtual index, 3)) (hf : cells + mc ≤ R.cells ∧ slots + ms ≤ R.slots)
    (kk : ∀ (r : Int64) (w1 : va_W) (H1 : Heap) (locs1 : List Loc), post r w1 → va_P D vwCl w1 H1 → va_D A w1 → va_S A s.heap H1 locs1 → W p l e R s m args below meth c H1 locs1 (cells + mc) (slots + ms) Q (F0 m (pc + 3) ls (.long r :: rest))) : W p l e R s m args below meth c H locs cells slots Q (F0 m pc ls st) := by
  have hF : ∀ q, va_A w H.size q → A q := cFree hD hS hA
  refine va_calll (va_runV S9 (hC H.size) cw ⟨cBlind, hrc, fun U hU hW9 => ⟨rfl, by rw [hU], by rw [hU]; exact hP, va_K.moved hW9.alike hK, hD.weaken (fun _ _ _ _ => trivial), by rw [hU]; exact ((hE.kept hS.2.1).narrow hF).warm hW9⟩⟩ rfl hn hsz hst (lv_room hW) hdg hf) hS (fun q _ h => hF q h) hF (fun r w1 t H1 locs1 ht hvm hw hB hz hk hS1 => ?_)
  obtain ⟨hP1, hK1, hD1⟩ := hB
  rw [ht] at hP1
  exact kk r w1 H1 locs1 hw hP1 (hD1.weaken (fun k q _ h => hF q.1 h)) hS1
theorem call_jP {post : Int64 → va_W → Prop} (S9 : CallFix p m c cc nL s args Ts own) (hC : CtJ l y ws rm D tys' K (.ref b :: As) [] post mc ms) (cw : CallW R s args own C index y bytes maxL ret ws rm mc ms n) (hrc : ∃ cellB : Cell, H[b]? = some cellB ∧ cellB.vm.isStatics = false ∧ s.vm.findClass C = some cellB.cls) (hK : va_K D vwCl tys' s) (hP : va_P D vwCl w H) (hD : va_D A w) (hE : sEnv K A s s.heap) (hS : va_S A s.heap H locs) (hA : ∀ q, s.heap.size ≤ q → A q) (hn : As.length = n) (hsz : ls.size = nL) (hst : st = As.reverse ++ .ref b :: rest) (hW : (rest.map fun v => v.category).sum ≤ 8) (hdg : decode cc pc = .ok (.invokevirtual index, 3)) (hf : cells + mc ≤ R.cells ∧ slots + ms ≤ R.slots)
    (kk : ∀ (r : Int64) (w1 : va_W) (H1 : Heap) (locs1 : List Loc), post r w1 → va_P D vwCl w H1 → va_D A w → va_S A s.heap H1 locs1 → W p l e R s m args below meth c H1 locs1 (cells + mc) (slots + ms) Q (F0 m (pc + 3) ls (.long r :: rest))) : W p l e R s m args below meth c H locs cells slots Q (F0 m pc ls st) := by
  have hF : ∀ q, va_A [] H.size q → A q := cFree0 hS hA
  refine va_calll (va_runV S9 (hC H.size) cw ⟨cBlind, hrc, fun U hU hW9 => ⟨rfl, by rw [hU], cP0, va_K.moved hW9.alike hK, cD0, by rw [hU]; exact ((hE.kept hS.2.1).narrow hF).warm hW9⟩⟩ rfl hn hsz hst (lv_room hW) hdg hf) hS (fun q _ h => hF q h) hF (fun r w1 t H1 locs1 ht hvm hw hB hz hk hS1 => ?_)
  obtain ⟨hP1, hK1, hD1⟩ := hB
  rw [ht] at hP1
  refine kk r w1 H1 locs1 hw (hP.kept (fun k q hq => hk q.1 (hP k q hq).lt ?_)) hD hS1
  intro h9
  rcases h9 with ⟨k9, e9, h9⟩ | h9
  · simp at h9
  · exact absurd (hP k q hq).lt (Nat.not_lt.mpr h9)
theorem call_jS {post : Int64 → va_W → Prop} (S9 : CallFix p m c cc nL s args Ts own) (hC : CtJ l y ws rm D tys' K As w post mc ms) (cw : CallB R s args own index y bytes maxL ret ws rm mc ms n ∧ (Cond.static y).before args s = true) (hK : va_K D vwCl tys' s) (hP : va_P D vwCl w H) (hD : va_D A w) (hE : sEnv K A s s.heap) (hS : va_S A s.heap H locs) (hA : ∀ q, s.heap.size ≤ q → A q) (hn : As.length = n) (hsz : ls.size = nL) (hst : st = As.reverse ++ rest) (hW : (rest.map fun v => v.category).sum ≤ 8) (hdg : decode cc pc = .ok (.invokestatic index, 3)) (hf : cells + mc ≤ R.cells ∧ slots + ms ≤ R.slots)
    (kk : ∀ (r : Int64) (w1 : va_W) (H1 : Heap) (locs1 : List Loc), post r w1 → va_P D vwCl w1 H1 → va_D A w1 → va_S A s.heap H1 locs1 → W p l e R s m args below meth c H1 locs1 (cells + mc) (slots + ms) Q (F0 m (pc + 3) ls (.long r :: rest))) : W p l e R s m args below meth c H locs cells slots Q (F0 m pc ls st) := by
  have hF : ∀ q, va_A w H.size q → A q := cFree hD hS hA
  refine va_calll (va_runS S9 (hC H.size) cw ⟨cBlind, fun U hU hW9 => ⟨rfl, by rw [hU], by rw [hU]; exact hP, va_K.moved hW9.alike hK, hD.weaken (fun _ _ _ _ => trivial), by rw [hU]; exact ((hE.kept hS.2.1).narrow hF).warm hW9⟩⟩ rfl hn hsz hst (lv_room hW) hdg hf) hS (fun q _ h => hF q h) hF (fun r w1 t H1 locs1 ht hvm hw hB hz hk hS1 => ?_)
  obtain ⟨hP1, hK1, hD1⟩ := hB
  rw [ht] at hP1
  exact kk r w1 H1 locs1 hw hP1 (hD1.weaken (fun k q _ h => hF q.1 h)) hS1
theorem call_jSP {post : Int64 → va_W → Prop} (S9 : CallFix p m c cc nL s args Ts own) (hC : CtJ l y ws rm D tys' K As [] post mc ms) (cw : CallB R s args own index y bytes maxL ret ws rm mc ms n ∧ (Cond.static y).before args s = true) (hK : va_K D vwCl tys' s) (hP : va_P D vwCl w H) (hD : va_D A w) (hE : sEnv K A s s.heap) (hS : va_S A s.heap H locs) (hA : ∀ q, s.heap.size ≤ q → A q) (hn : As.length = n) (hsz : ls.size = nL) (hst : st = As.reverse ++ rest) (hW : (rest.map fun v => v.category).sum ≤ 8) (hdg : decode cc pc = .ok (.invokestatic index, 3)) (hf : cells + mc ≤ R.cells ∧ slots + ms ≤ R.slots)
    (kk : ∀ (r : Int64) (w1 : va_W) (H1 : Heap) (locs1 : List Loc), post r w1 → va_P D vwCl w H1 → va_D A w → va_S A s.heap H1 locs1 → W p l e R s m args below meth c H1 locs1 (cells + mc) (slots + ms) Q (F0 m (pc + 3) ls (.long r :: rest))) : W p l e R s m args below meth c H locs cells slots Q (F0 m pc ls st) := by
  have hF : ∀ q, va_A [] H.size q → A q := cFree0 hS hA
  refine va_calll (va_runS S9 (hC H.size) cw ⟨cBlind, fun U hU hW9 => ⟨rfl, by rw [hU], cP0, va_K.moved hW9.alike hK, cD0, by rw [hU]; exact ((hE.kept hS.2.1).narrow hF).warm hW9⟩⟩ rfl hn hsz hst (lv_room hW) hdg hf) hS (fun q _ h => hF q h) hF (fun r w1 t H1 locs1 ht hvm hw hB hz hk hS1 => ?_)
  obtain ⟨hP1, hK1, hD1⟩ := hB
  rw [ht] at hP1
  refine kk r w1 H1 locs1 hw (hP.kept (fun k q hq => hk q.1 (hP k q hq).lt ?_)) hD hS1
  intro h9
  rcases h9 with ⟨k9, e9, h9⟩ | h9
  · simp at h9
  · exact absurd (hP k q hq).lt (Nat.not_lt.mpr h9)
theorem call_v {post : va_W → Prop} (S9 : CallFix p m c cc nL s args Ts own) (hC : CtV l y ws rm D tys' K (.ref b :: As) w post mc ms) (cw : CallW R s args own C index y bytes maxL ret ws rm mc ms n) (hrc : ∃ cellB : Cell, H[b]? = some cellB ∧ cellB.vm.isStatics = false ∧ s.vm.findClass C = some cellB.cls) (hK : va_K D vwCl tys' s) (hP : va_P D vwCl w H) (hD : va_D A w) (hE : sEnv K A s s.heap) (hS : va_S A s.heap H locs) (hA : ∀ q, s.heap.size ≤ q → A q) (hn : As.length = n) (hsz : ls.size = nL) (hst : st = As.reverse ++ .ref b :: rest) (hW : (rest.map fun v => v.category).sum ≤ 8) (hdg : decode cc pc = .ok (.invokevirtual index, 3)) (hf : cells + mc ≤ R.cells ∧ slots + ms ≤ R.slots)
    (kk : ∀ (w1 : va_W) (H1 : Heap) (locs1 : List Loc), post w1 → va_P D vwCl w1 H1 → va_D A w1 → va_S A s.heap H1 locs1 → W p l e R s m args below meth c H1 locs1 (cells + mc) (slots + ms) Q (F0 m (pc + 3) ls (rest))) : W p l e R s m args below meth c H locs cells slots Q (F0 m pc ls st) := by
  have hF : ∀ q, va_A w H.size q → A q := cFree hD hS hA
  refine va_callv (va_runV S9 (hC H.size) cw ⟨cBlind, hrc, fun U hU hW9 => ⟨rfl, by rw [hU], by rw [hU]; exact hP, va_K.moved hW9.alike hK, hD.weaken (fun _ _ _ _ => trivial), by rw [hU]; exact ((hE.kept hS.2.1).narrow hF).warm hW9⟩⟩ rfl hn hsz hst (lv_room hW) hdg hf) hS (fun q _ h => hF q h) hF (fun w1 t H1 locs1 ht hvm hw hB hz hk hS1 => ?_)
  obtain ⟨hP1, hK1, hD1⟩ := hB
  rw [ht] at hP1
  exact kk w1 H1 locs1 hw hP1 (hD1.weaken (fun k q _ h => hF q.1 h)) hS1
theorem call_vP {post : va_W → Prop} (S9 : CallFix p m c cc nL s args Ts own) (hC : CtV l y ws rm D tys' K (.ref b :: As) [] post mc ms) (cw : CallW R s args own C index y bytes maxL ret ws rm mc ms n) (hrc : ∃ cellB : Cell, H[b]? = some cellB ∧ cellB.vm.isStatics = false ∧ s.vm.findClass C = some cellB.cls) (hK : va_K D vwCl tys' s) (hP : va_P D vwCl w H) (hD : va_D A w) (hE : sEnv K A s s.heap) (hS : va_S A s.heap H locs) (hA : ∀ q, s.heap.size ≤ q → A q) (hn : As.length = n) (hsz : ls.size = nL) (hst : st = As.reverse ++ .ref b :: rest) (hW : (rest.map fun v => v.category).sum ≤ 8) (hdg : decode cc pc = .ok (.invokevirtual index, 3)) (hf : cells + mc ≤ R.cells ∧ slots + ms ≤ R.slots)
    (kk : ∀ (w1 : va_W) (H1 : Heap) (locs1 : List Loc), post w1 → va_P D vwCl w H1 → va_D A w → va_S A s.heap H1 locs1 → W p l e R s m args below meth c H1 locs1 (cells + mc) (slots + ms) Q (F0 m (pc + 3) ls (rest))) : W p l e R s m args below meth c H locs cells slots Q (F0 m pc ls st) := by
  have hF : ∀ q, va_A [] H.size q → A q := cFree0 hS hA
  refine va_callv (va_runV S9 (hC H.size) cw ⟨cBlind, hrc, fun U hU hW9 => ⟨rfl, by rw [hU], cP0, va_K.moved hW9.alike hK, cD0, by rw [hU]; exact ((hE.kept hS.2.1).narrow hF).warm hW9⟩⟩ rfl hn hsz hst (lv_room hW) hdg hf) hS (fun q _ h => hF q h) hF (fun w1 t H1 locs1 ht hvm hw hB hz hk hS1 => ?_)
  obtain ⟨hP1, hK1, hD1⟩ := hB
  rw [ht] at hP1
  refine kk w1 H1 locs1 hw (hP.kept (fun k q hq => hk q.1 (hP k q hq).lt ?_)) hD hS1
  intro h9
  rcases h9 with ⟨k9, e9, h9⟩ | h9
  · simp at h9
  · exact absurd (hP k q hq).lt (Nat.not_lt.mpr h9)
theorem call_vS {post : va_W → Prop} (S9 : CallFix p m c cc nL s args Ts own) (hC : CtV l y ws rm D tys' K As w post mc ms) (cw : CallB R s args own index y bytes maxL ret ws rm mc ms n ∧ (Cond.static y).before args s = true) (hK : va_K D vwCl tys' s) (hP : va_P D vwCl w H) (hD : va_D A w) (hE : sEnv K A s s.heap) (hS : va_S A s.heap H locs) (hA : ∀ q, s.heap.size ≤ q → A q) (hn : As.length = n) (hsz : ls.size = nL) (hst : st = As.reverse ++ rest) (hW : (rest.map fun v => v.category).sum ≤ 8) (hdg : decode cc pc = .ok (.invokestatic index, 3)) (hf : cells + mc ≤ R.cells ∧ slots + ms ≤ R.slots)
    (kk : ∀ (w1 : va_W) (H1 : Heap) (locs1 : List Loc), post w1 → va_P D vwCl w1 H1 → va_D A w1 → va_S A s.heap H1 locs1 → W p l e R s m args below meth c H1 locs1 (cells + mc) (slots + ms) Q (F0 m (pc + 3) ls (rest))) : W p l e R s m args below meth c H locs cells slots Q (F0 m pc ls st) := by
  have hF : ∀ q, va_A w H.size q → A q := cFree hD hS hA
  refine va_callv (va_runS S9 (hC H.size) cw ⟨cBlind, fun U hU hW9 => ⟨rfl, by rw [hU], by rw [hU]; exact hP, va_K.moved hW9.alike hK, hD.weaken (fun _ _ _ _ => trivial), by rw [hU]; exact ((hE.kept hS.2.1).narrow hF).warm hW9⟩⟩ rfl hn hsz hst (lv_room hW) hdg hf) hS (fun q _ h => hF q h) hF (fun w1 t H1 locs1 ht hvm hw hB hz hk hS1 => ?_)
  obtain ⟨hP1, hK1, hD1⟩ := hB
  rw [ht] at hP1
  exact kk w1 H1 locs1 hw hP1 (hD1.weaken (fun k q _ h => hF q.1 h)) hS1
theorem call_vSP {post : va_W → Prop} (S9 : CallFix p m c cc nL s args Ts own) (hC : CtV l y ws rm D tys' K As [] post mc ms) (cw : CallB R s args own index y bytes maxL ret ws rm mc ms n ∧ (Cond.static y).before args s = true) (hK : va_K D vwCl tys' s) (hP : va_P D vwCl w H) (hD : va_D A w) (hE : sEnv K A s s.heap) (hS : va_S A s.heap H locs) (hA : ∀ q, s.heap.size ≤ q → A q) (hn : As.length = n) (hsz : ls.size = nL) (hst : st = As.reverse ++ rest) (hW : (rest.map fun v => v.category).sum ≤ 8) (hdg : decode cc pc = .ok (.invokestatic index, 3)) (hf : cells + mc ≤ R.cells ∧ slots + ms ≤ R.slots)
    (kk : ∀ (w1 : va_W) (H1 : Heap) (locs1 : List Loc), post w1 → va_P D vwCl w H1 → va_D A w → va_S A s.heap H1 locs1 → W p l e R s m args below meth c H1 locs1 (cells + mc) (slots + ms) Q (F0 m (pc + 3) ls (rest))) : W p l e R s m args below meth c H locs cells slots Q (F0 m pc ls st) := by
  have hF : ∀ q, va_A [] H.size q → A q := cFree0 hS hA
  refine va_callv (va_runS S9 (hC H.size) cw ⟨cBlind, fun U hU hW9 => ⟨rfl, by rw [hU], cP0, va_K.moved hW9.alike hK, cD0, by rw [hU]; exact ((hE.kept hS.2.1).narrow hF).warm hW9⟩⟩ rfl hn hsz hst (lv_room hW) hdg hf) hS (fun q _ h => hF q h) hF (fun w1 t H1 locs1 ht hvm hw hB hz hk hS1 => ?_)
  obtain ⟨hP1, hK1, hD1⟩ := hB
  rw [ht] at hP1
  refine kk w1 H1 locs1 hw (hP.kept (fun k q hq => hk q.1 (hP k q hq).lt ?_)) hD hS1
  intro h9
  rcases h9 with ⟨k9, e9, h9⟩ | h9
  · simp at h9
  · exact absurd (hP k q hq).lt (Nat.not_lt.mpr h9)
theorem call_r {post : Nat → va_W → Prop} (S9 : CallFix p m c cc nL s args Ts own) (hC : CtR l y ws rm D tys' K (.ref b :: As) w post mc ms) (cw : CallW R s args own C index y bytes maxL ret ws rm mc ms n) (hrc : ∃ cellB : Cell, H[b]? = some cellB ∧ cellB.vm.isStatics = false ∧ s.vm.findClass C = some cellB.cls) (hK : va_K D vwCl tys' s) (hP : va_P D vwCl w H) (hD : va_D A w) (hE : sEnv K A s s.heap) (hS : va_S A s.heap H locs) (hA : ∀ q, s.heap.size ≤ q → A q) (hn : As.length = n) (hsz : ls.size = nL) (hst : st = As.reverse ++ .ref b :: rest) (hW : (rest.map fun v => v.category).sum ≤ 8) (hdg : decode cc pc = .ok (.invokevirtual index, 3)) (hf : cells + mc ≤ R.cells ∧ slots + ms ≤ R.slots)
    (kk : ∀ (r : Nat) (w1 : va_W) (H1 : Heap) (locs1 : List Loc), post r w1 → va_P D vwCl w1 H1 → va_D A w1 → va_S A s.heap H1 locs1 → W p l e R s m args below meth c H1 locs1 (cells + mc) (slots + ms) Q (F0 m (pc + 3) ls (.ref r :: rest))) : W p l e R s m args below meth c H locs cells slots Q (F0 m pc ls st) := by
  have hF : ∀ q, va_A w H.size q → A q := cFree hD hS hA
  refine va_callr (va_runV S9 (hC H.size) cw ⟨cBlind, hrc, fun U hU hW9 => ⟨rfl, by rw [hU], by rw [hU]; exact hP, va_K.moved hW9.alike hK, hD.weaken (fun _ _ _ _ => trivial), by rw [hU]; exact ((hE.kept hS.2.1).narrow hF).warm hW9⟩⟩ rfl hn hsz hst (lv_room hW) hdg hf) hS (fun q _ h => hF q h) hF (fun w1 r t H1 locs1 ht hvm hw hB hz hk hS1 => ?_)
  obtain ⟨hw, hP1, hK1, hD1⟩ := hB
  rw [ht] at hP1
  exact kk r w1 H1 locs1 hw hP1 (hD1.weaken (fun k q _ h => hF q.1 h)) hS1
theorem call_rP {post : Nat → va_W → Prop} (S9 : CallFix p m c cc nL s args Ts own) (hC : CtR l y ws rm D tys' K (.ref b :: As) [] post mc ms) (cw : CallW R s args own C index y bytes maxL ret ws rm mc ms n) (hrc : ∃ cellB : Cell, H[b]? = some cellB ∧ cellB.vm.isStatics = false ∧ s.vm.findClass C = some cellB.cls) (hK : va_K D vwCl tys' s) (hP : va_P D vwCl w H) (hD : va_D A w) (hE : sEnv K A s s.heap) (hS : va_S A s.heap H locs) (hA : ∀ q, s.heap.size ≤ q → A q) (hn : As.length = n) (hsz : ls.size = nL) (hst : st = As.reverse ++ .ref b :: rest) (hW : (rest.map fun v => v.category).sum ≤ 8) (hdg : decode cc pc = .ok (.invokevirtual index, 3)) (hf : cells + mc ≤ R.cells ∧ slots + ms ≤ R.slots)
    (kk : ∀ (r : Nat) (w1 : va_W) (H1 : Heap) (locs1 : List Loc), post r w1 → va_P D vwCl w H1 → va_D A w → va_S A s.heap H1 locs1 → W p l e R s m args below meth c H1 locs1 (cells + mc) (slots + ms) Q (F0 m (pc + 3) ls (.ref r :: rest))) : W p l e R s m args below meth c H locs cells slots Q (F0 m pc ls st) := by
  have hF : ∀ q, va_A [] H.size q → A q := cFree0 hS hA
  refine va_callr (va_runV S9 (hC H.size) cw ⟨cBlind, hrc, fun U hU hW9 => ⟨rfl, by rw [hU], cP0, va_K.moved hW9.alike hK, cD0, by rw [hU]; exact ((hE.kept hS.2.1).narrow hF).warm hW9⟩⟩ rfl hn hsz hst (lv_room hW) hdg hf) hS (fun q _ h => hF q h) hF (fun w1 r t H1 locs1 ht hvm hw hB hz hk hS1 => ?_)
  obtain ⟨hw, hP1, hK1, hD1⟩ := hB
  rw [ht] at hP1
  refine kk r w1 H1 locs1 hw (hP.kept (fun k q hq => hk q.1 (hP k q hq).lt ?_)) hD hS1
  intro h9
  rcases h9 with ⟨k9, e9, h9⟩ | h9
  · simp at h9
  · exact absurd (hP k q hq).lt (Nat.not_lt.mpr h9)
theorem call_rS {post : Nat → va_W → Prop} (S9 : CallFix p m c cc nL s args Ts own) (hC : CtR l y ws rm D tys' K As w post mc ms) (cw : CallB R s args own index y bytes maxL ret ws rm mc ms n ∧ (Cond.static y).before args s = true) (hK : va_K D vwCl tys' s) (hP : va_P D vwCl w H) (hD : va_D A w) (hE : sEnv K A s s.heap) (hS : va_S A s.heap H locs) (hA : ∀ q, s.heap.size ≤ q → A q) (hn : As.length = n) (hsz : ls.size = nL) (hst : st = As.reverse ++ rest) (hW : (rest.map fun v => v.category).sum ≤ 8) (hdg : decode cc pc = .ok (.invokestatic index, 3)) (hf : cells + mc ≤ R.cells ∧ slots + ms ≤ R.slots)
    (kk : ∀ (r : Nat) (w1 : va_W) (H1 : Heap) (locs1 : List Loc), post r w1 → va_P D vwCl w1 H1 → va_D A w1 → va_S A s.heap H1 locs1 → W p l e R s m args below meth c H1 locs1 (cells + mc) (slots + ms) Q (F0 m (pc + 3) ls (.ref r :: rest))) : W p l e R s m args below meth c H locs cells slots Q (F0 m pc ls st) := by
  have hF : ∀ q, va_A w H.size q → A q := cFree hD hS hA
  refine va_callr (va_runS S9 (hC H.size) cw ⟨cBlind, fun U hU hW9 => ⟨rfl, by rw [hU], by rw [hU]; exact hP, va_K.moved hW9.alike hK, hD.weaken (fun _ _ _ _ => trivial), by rw [hU]; exact ((hE.kept hS.2.1).narrow hF).warm hW9⟩⟩ rfl hn hsz hst (lv_room hW) hdg hf) hS (fun q _ h => hF q h) hF (fun w1 r t H1 locs1 ht hvm hw hB hz hk hS1 => ?_)
  obtain ⟨hw, hP1, hK1, hD1⟩ := hB
  rw [ht] at hP1
  exact kk r w1 H1 locs1 hw hP1 (hD1.weaken (fun k q _ h => hF q.1 h)) hS1
theorem call_rSP {post : Nat → va_W → Prop} (S9 : CallFix p m c cc nL s args Ts own) (hC : CtR l y ws rm D tys' K As [] post mc ms) (cw : CallB R s args own index y bytes maxL ret ws rm mc ms n ∧ (Cond.static y).before args s = true) (hK : va_K D vwCl tys' s) (hP : va_P D vwCl w H) (hD : va_D A w) (hE : sEnv K A s s.heap) (hS : va_S A s.heap H locs) (hA : ∀ q, s.heap.size ≤ q → A q) (hn : As.length = n) (hsz : ls.size = nL) (hst : st = As.reverse ++ rest) (hW : (rest.map fun v => v.category).sum ≤ 8) (hdg : decode cc pc = .ok (.invokestatic index, 3)) (hf : cells + mc ≤ R.cells ∧ slots + ms ≤ R.slots)
    (kk : ∀ (r : Nat) (w1 : va_W) (H1 : Heap) (locs1 : List Loc), post r w1 → va_P D vwCl w H1 → va_D A w → va_S A s.heap H1 locs1 → W p l e R s m args below meth c H1 locs1 (cells + mc) (slots + ms) Q (F0 m (pc + 3) ls (.ref r :: rest))) : W p l e R s m args below meth c H locs cells slots Q (F0 m pc ls st) := by
  have hF : ∀ q, va_A [] H.size q → A q := cFree0 hS hA
  refine va_callr (va_runS S9 (hC H.size) cw ⟨cBlind, fun U hU hW9 => ⟨rfl, by rw [hU], cP0, va_K.moved hW9.alike hK, cD0, by rw [hU]; exact ((hE.kept hS.2.1).narrow hF).warm hW9⟩⟩ rfl hn hsz hst (lv_room hW) hdg hf) hS (fun q _ h => hF q h) hF (fun w1 r t H1 locs1 ht hvm hw hB hz hk hS1 => ?_)
  obtain ⟨hw, hP1, hK1, hD1⟩ := hB
  rw [ht] at hP1
  refine kk r w1 H1 locs1 hw (hP.kept (fun k q hq => hk q.1 (hP k q hq).lt ?_)) hD hS1
  intro h9
  rcases h9 with ⟨k9, e9, h9⟩ | h9
  · simp at h9
  · exact absurd (hP k q hq).lt (Nat.not_lt.mpr h9)
end Ct1
