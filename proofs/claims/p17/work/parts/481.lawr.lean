section LawR0
theorem subL {D : va_G} {cl : List vw_C} {a b : va_W} {H : Heap} (hP : va_P D cl (a ++ b) H) : va_P D cl a H := fun k q h => hP k q (by rw [List.getElem?_append_left (List.getElem?_eq_some_iff.mp h).1]; exact h)
theorem subLD {A : Nat → Prop} {a b : va_W} (hD : va_D A (a ++ b)) : va_D A a := by
  have up : ∀ (k : Nat) (q : Nat × va_E), a[k]? = some q → (a ++ b)[k]? = some q := fun k q h => by rw [List.getElem?_append_left (List.getElem?_eq_some_iff.mp h).1]; exact h
  exact ⟨fun i j p q hi hj e => hD.1 i j p q (up i p hi) (up j q hj) e, fun k q h => hD.2 k q (up k q h)⟩
theorem freeQ {A0 : Nat → Prop} {X cx pl : va_W} {H0 H : Heap} {locs : List Loc} (hD : va_D A0 (X ++ pl)) (hS : va_S A0 H0 H locs) (hA : ∀ q, H0.size ≤ q → A0 q) (isC : List Nat) (hC : isC.map (fun i => X[i]?) = cx.map some) : ∀ q, va_A cx H.size q → A0 q := by
  intro q h
  refine va_freeP hD hS hA isC hC q ?_
  rcases h with ⟨k, e, h⟩ | h
  · exact Or.inl ⟨k, e, by rw [List.getElem?_append_left (List.getElem?_eq_some_iff.mp h).1]; exact h⟩
  · exact Or.inr h
end LawR0
section LawR1
variable {p : Program} {l : Launch} {e : Env} {R : Room} {s : State} {m : MethodId} {args : Array Value} {below : List Frame} {meth : Method} {c : Code} {H : Heap} {locs : List Loc} {cells slots : Nat} {Q : State → Prop}
variable {cc : ByteArray} {pc : Nat} {ls : Array Slot} {rest : List Value}
variable {D : va_G} {A : Nat → Prop} {a : Nat} {tys tys' : List (ClassId × FieldType)} {w wr wc X cx pl : va_W} {K : Nat → Nat → Nat}
variable {y : MethodName} {bytes : ByteArray} {maxL nL mc ms n index : Nat} {ret : Option FieldType} {ws : List Cond} {rm : Room} {Ts : List Cond} {own C host : String} {b : Addr} {As : List Value} {st : List Value}
theorem call_iLP {post : Int32 → va_W → Prop} (S9 : CallFix p m c cc nL s args Ts own) (hC9 : CtI l y ws rm D tys' K (.ref b :: As) (cx ++ pl) post mc ms) (cw : CallW R s args own C index y bytes maxL ret ws rm mc ms n) (hrc : ∃ cellB : Cell, H[b]? = some cellB ∧ cellB.vm.isStatics = false ∧ s.vm.findClass C = some cellB.cls) (hK : va_K D vwCl tys' s) (isC isR : List Nat) (hC : isC.map (fun i => X[i]?) = cx.map some) (hR : isR.map (fun i => X[i]?) = wr.map some) (hnC : va_nd isC = true) (hn : va_nd isR = true) (hdis : ∀ i ∈ isR, i ∉ isC) (hP : va_P D vwCl (X ++ pl) H) (hD : va_D A (X ++ pl)) (hE : sEnv K A s s.heap) (hS : va_S A s.heap H locs) (hA : ∀ q, s.heap.size ≤ q → A q) (hnn : As.length = n) (hsz : ls.size = nL) (hst : st = As.reverse ++ .ref b :: rest) (hW : (rest.map fun v => v.category).sum ≤ 8) (hdg : decode cc pc = .ok (.invokevirtual index, 3)) (hf : cells + mc ≤ R.cells ∧ slots + ms ≤ R.slots)
    (kk : ∀ (r : Int32) (w1 : va_W) (H1 : Heap) (locs1 : List Loc), post r w1 → (∀ rx pl1, w1 = rx ++ pl1 → va_P D vwCl ((wr ++ rx) ++ pl1) H1 ∧ va_D A ((wr ++ rx) ++ pl1)) → va_S A s.heap H1 locs1 → W p l e R s m args below meth c H1 locs1 (cells + mc) (slots + ms) Q (F0 m (pc + 3) ls (.int r :: rest))) : W p l e R s m args below meth c H locs cells slots Q (F0 m pc ls st) := by
  have hF : ∀ q, va_A (cx ++ pl) H.size q → A q := va_freeP hD hS hA isC hC
  refine va_calli (va_runV S9 (hC9 H.size) cw ⟨cBlind, hrc, fun U hU hW9 => ⟨rfl, by rw [hU], by rw [hU]; exact hP.part isC hC, va_K.moved hW9.alike hK, (hD.part isC hnC hC).weaken (fun _ _ _ _ => trivial), by rw [hU]; exact ((hE.kept hS.2.1).narrow hF).warm hW9⟩⟩ rfl hnn hsz hst (lv_room hW) hdg hf) hS (fun q _ h => hF q h) hF (fun r w1 t H1 locs1 ht hvm hw hB hz hk hS1 => ?_)
  obtain ⟨hP1, hK1, hD1⟩ := hB
  rw [ht] at hP1
  refine kk r w1 H1 locs1 hw ?_ hS1
  intro rx pl1 e9
  subst e9
  exact va_joinP hP hD isC isR hC hR hn hdis hk hF hP1 hD1
theorem call_iLQ {post : Int32 → va_W → Prop} (S9 : CallFix p m c cc nL s args Ts own) (hC9 : CtI l y ws rm D tys' K (.ref b :: As) cx post mc ms) (cw : CallW R s args own C index y bytes maxL ret ws rm mc ms n) (hrc : ∃ cellB : Cell, H[b]? = some cellB ∧ cellB.vm.isStatics = false ∧ s.vm.findClass C = some cellB.cls) (hK : va_K D vwCl tys' s) (isC isR : List Nat) (hC : isC.map (fun i => X[i]?) = cx.map some) (hR : isR.map (fun i => X[i]?) = wr.map some) (hnC : va_nd isC = true) (hn : va_nd isR = true) (hdis : ∀ i ∈ isR, i ∉ isC) (hP : va_P D vwCl (X ++ pl) H) (hD : va_D A (X ++ pl)) (hE : sEnv K A s s.heap) (hS : va_S A s.heap H locs) (hA : ∀ q, s.heap.size ≤ q → A q) (hnn : As.length = n) (hsz : ls.size = nL) (hst : st = As.reverse ++ .ref b :: rest) (hW : (rest.map fun v => v.category).sum ≤ 8) (hdg : decode cc pc = .ok (.invokevirtual index, 3)) (hf : cells + mc ≤ R.cells ∧ slots + ms ≤ R.slots)
    (kk : ∀ (r : Int32) (w1 : va_W) (H1 : Heap) (locs1 : List Loc), post r w1 → (va_P D vwCl ((wr ++ w1) ++ pl) H1 ∧ va_D A ((wr ++ w1) ++ pl)) → va_S A s.heap H1 locs1 → W p l e R s m args below meth c H1 locs1 (cells + mc) (slots + ms) Q (F0 m (pc + 3) ls (.int r :: rest))) : W p l e R s m args below meth c H locs cells slots Q (F0 m pc ls st) := by
  have hF : ∀ q, va_A cx H.size q → A q := freeQ hD hS hA isC hC
  refine va_calli (va_runV S9 (hC9 H.size) cw ⟨cBlind, hrc, fun U hU hW9 => ⟨rfl, by rw [hU], by rw [hU]; exact subL (hP.part isC hC), va_K.moved hW9.alike hK, (subLD (hD.part isC hnC hC)).weaken (fun _ _ _ _ => trivial), by rw [hU]; exact ((hE.kept hS.2.1).narrow hF).warm hW9⟩⟩ rfl hnn hsz hst (lv_room hW) hdg hf) hS (fun q _ h => hF q h) hF (fun r w1 t H1 locs1 ht hvm hw hB hz hk hS1 => ?_)
  obtain ⟨hP1, hK1, hD1⟩ := hB
  rw [ht] at hP1
  refine kk r w1 H1 locs1 hw ?_ hS1
  exact va_joinQ hP hD isC isR hC hR hn hdis hk hF hP1 hD1
theorem call_iLX {post : Int32 → va_W → Prop} {px : va_W → Prop} {E0 : String} (S9 : CallFix p m c cc nL s args Ts own) (hC9 : CtIX l y ws rm D tys' K (.ref b :: As) (cx ++ pl) post E0 px mc ms) (cw : CallW R s args own C index y bytes maxL ret ws rm mc ms n) (hrc : ∃ cellB : Cell, H[b]? = some cellB ∧ cellB.vm.isStatics = false ∧ s.vm.findClass C = some cellB.cls) (hK : va_K D vwCl tys' s) (isC isR : List Nat) (hC : isC.map (fun i => X[i]?) = cx.map some) (hR : isR.map (fun i => X[i]?) = wr.map some) (hnC : va_nd isC = true) (hn : va_nd isR = true) (hdis : ∀ i ∈ isR, i ∉ isC) (hP : va_P D vwCl (X ++ pl) H) (hD : va_D A (X ++ pl)) (hE : sEnv K A s s.heap) (hS : va_S A s.heap H locs) (hA : ∀ q, s.heap.size ≤ q → A q) (hnn : As.length = n) (hsz : ls.size = nL) (hst : st = As.reverse ++ .ref b :: rest) (hW : (rest.map fun v => v.category).sum ≤ 8) (hdg : decode cc pc = .ok (.invokevirtual index, 3)) (hf : cells + mc ≤ R.cells ∧ slots + ms ≤ R.slots)
    (kx : ∀ (ce : Cell) (q9 : Addr) (w1 : va_W) (H1 : Heap) (locs1 : List Loc), px w1 → (∀ rx pl1, w1 = rx ++ pl1 → va_P D vwCl ((wr ++ rx) ++ pl1) H1 ∧ va_D A ((wr ++ rx) ++ pl1)) → va_S A s.heap H1 locs1 → H1[q9]? = some ce → ce.vm = .none → s.vm.findClass E0 = some ce.cls → vx_W p l e R s m args below meth c H1 locs1 (cells + mc) (slots + ms) Q (F0 m pc ls rest) q9)
    (kk : ∀ (r : Int32) (w1 : va_W) (H1 : Heap) (locs1 : List Loc), post r w1 → (∀ rx pl1, w1 = rx ++ pl1 → va_P D vwCl ((wr ++ rx) ++ pl1) H1 ∧ va_D A ((wr ++ rx) ++ pl1)) → va_S A s.heap H1 locs1 → W p l e R s m args below meth c H1 locs1 (cells + mc) (slots + ms) Q (F0 m (pc + 3) ls (.int r :: rest))) : W p l e R s m args below meth c H locs cells slots Q (F0 m pc ls st) := by
  have hF : ∀ q, va_A (cx ++ pl) H.size q → A q := va_freeP hD hS hA isC hC
  refine vx_calli (vx_runV S9 (hC9 H.size) cw ⟨cBlind, hrc, fun U hU hW9 => ⟨rfl, by rw [hU], by rw [hU]; exact hP.part isC hC, va_K.moved hW9.alike hK, (hD.part isC hnC hC).weaken (fun _ _ _ _ => trivial), by rw [hU]; exact ((hE.kept hS.2.1).narrow hF).warm hW9⟩⟩ rfl hnn hsz hst (lv_room hW) hdg hf) hS (fun q _ h => hF q h) hF (fun q _ h => hF q h) (fun E ce q9 w1 t H1 locs1 ht hvm hw hB hz hk hS1 h1 h2 h3 => ?_) (fun r w1 t H1 locs1 ht hvm hw hB hz hk hS1 => ?_)
  · obtain ⟨rfl, hP1, hK1, hD1⟩ := hB
    rw [ht] at hP1
    refine kx ce q9 w1 H1 locs1 hw ?_ hS1 h1 h2 h3
    intro rx pl1 e9
    subst e9
    exact va_joinP hP hD isC isR hC hR hn hdis hk hF hP1 hD1
  · obtain ⟨hP1, hK1, hD1⟩ := hB
    rw [ht] at hP1
    refine kk r w1 H1 locs1 hw ?_ hS1
    intro rx pl1 e9
    subst e9
    exact va_joinP hP hD isC isR hC hR hn hdis hk hF hP1 hD1
theorem call_jLP {post : Int64 → va_W → Prop} (S9 : CallFix p m c cc nL s args Ts own) (hC9 : CtJ l y ws rm D tys' K (.ref b :: As) (cx ++ pl) post mc ms) (cw : CallW R s args own C index y bytes maxL ret ws rm mc ms n) (hrc : ∃ cellB : Cell, H[b]? = some cellB ∧ cellB.vm.isStatics = false ∧ s.vm.findClass C = some cellB.cls) (hK : va_K D vwCl tys' s) (isC isR : List Nat) (hC : isC.map (fun i => X[i]?) = cx.map some) (hR : isR.map (fun i => X[i]?) = wr.map some) (hnC : va_nd isC = true) (hn : va_nd isR = true) (hdis : ∀ i ∈ isR, i ∉ isC) (hP : va_P D vwCl (X ++ pl) H) (hD : va_D A (X ++ pl)) (hE : sEnv K A s s.heap) (hS : va_S A s.heap H locs) (hA : ∀ q, s.heap.size ≤ q → A q) (hnn : As.length = n) (hsz : ls.size = nL) (hst : st = As.reverse ++ .ref b :: rest) (hW : (rest.map fun v => v.category).sum ≤ 8) (hdg : decode cc pc = .ok (.invokevirtual index, 3)) (hf : cells + mc ≤ R.cells ∧ slots + ms ≤ R.slots)
    (kk : ∀ (r : Int64) (w1 : va_W) (H1 : Heap) (locs1 : List Loc), post r w1 → (∀ rx pl1, w1 = rx ++ pl1 → va_P D vwCl ((wr ++ rx) ++ pl1) H1 ∧ va_D A ((wr ++ rx) ++ pl1)) → va_S A s.heap H1 locs1 → W p l e R s m args below meth c H1 locs1 (cells + mc) (slots + ms) Q (F0 m (pc + 3) ls (.long r :: rest))) : W p l e R s m args below meth c H locs cells slots Q (F0 m pc ls st) := by
  have hF : ∀ q, va_A (cx ++ pl) H.size q → A q := va_freeP hD hS hA isC hC
  refine va_calll (va_runV S9 (hC9 H.size) cw ⟨cBlind, hrc, fun U hU hW9 => ⟨rfl, by rw [hU], by rw [hU]; exact hP.part isC hC, va_K.moved hW9.alike hK, (hD.part isC hnC hC).weaken (fun _ _ _ _ => trivial), by rw [hU]; exact ((hE.kept hS.2.1).narrow hF).warm hW9⟩⟩ rfl hnn hsz hst (lv_room hW) hdg hf) hS (fun q _ h => hF q h) hF (fun r w1 t H1 locs1 ht hvm hw hB hz hk hS1 => ?_)
  obtain ⟨hP1, hK1, hD1⟩ := hB
  rw [ht] at hP1
  refine kk r w1 H1 locs1 hw ?_ hS1
  intro rx pl1 e9
  subst e9
  exact va_joinP hP hD isC isR hC hR hn hdis hk hF hP1 hD1
theorem call_jLQ {post : Int64 → va_W → Prop} (S9 : CallFix p m c cc nL s args Ts own) (hC9 : CtJ l y ws rm D tys' K (.ref b :: As) cx post mc ms) (cw : CallW R s args own C index y bytes maxL ret ws rm mc ms n) (hrc : ∃ cellB : Cell, H[b]? = some cellB ∧ cellB.vm.isStatics = false ∧ s.vm.findClass C = some cellB.cls) (hK : va_K D vwCl tys' s) (isC isR : List Nat) (hC : isC.map (fun i => X[i]?) = cx.map some) (hR : isR.map (fun i => X[i]?) = wr.map some) (hnC : va_nd isC = true) (hn : va_nd isR = true) (hdis : ∀ i ∈ isR, i ∉ isC) (hP : va_P D vwCl (X ++ pl) H) (hD : va_D A (X ++ pl)) (hE : sEnv K A s s.heap) (hS : va_S A s.heap H locs) (hA : ∀ q, s.heap.size ≤ q → A q) (hnn : As.length = n) (hsz : ls.size = nL) (hst : st = As.reverse ++ .ref b :: rest) (hW : (rest.map fun v => v.category).sum ≤ 8) (hdg : decode cc pc = .ok (.invokevirtual index, 3)) (hf : cells + mc ≤ R.cells ∧ slots + ms ≤ R.slots)
    (kk : ∀ (r : Int64) (w1 : va_W) (H1 : Heap) (locs1 : List Loc), post r w1 → (va_P D vwCl ((wr ++ w1) ++ pl) H1 ∧ va_D A ((wr ++ w1) ++ pl)) → va_S A s.heap H1 locs1 → W p l e R s m args below meth c H1 locs1 (cells + mc) (slots + ms) Q (F0 m (pc + 3) ls (.long r :: rest))) : W p l e R s m args below meth c H locs cells slots Q (F0 m pc ls st) := by
  have hF : ∀ q, va_A cx H.size q → A q := freeQ hD hS hA isC hC
  refine va_calll (va_runV S9 (hC9 H.size) cw ⟨cBlind, hrc, fun U hU hW9 => ⟨rfl, by rw [hU], by rw [hU]; exact subL (hP.part isC hC), va_K.moved hW9.alike hK, (subLD (hD.part isC hnC hC)).weaken (fun _ _ _ _ => trivial), by rw [hU]; exact ((hE.kept hS.2.1).narrow hF).warm hW9⟩⟩ rfl hnn hsz hst (lv_room hW) hdg hf) hS (fun q _ h => hF q h) hF (fun r w1 t H1 locs1 ht hvm hw hB hz hk hS1 => ?_)
  obtain ⟨hP1, hK1, hD1⟩ := hB
  rw [ht] at hP1
  refine kk r w1 H1 locs1 hw ?_ hS1
  exact va_joinQ hP hD isC isR hC hR hn hdis hk hF hP1 hD1
theorem call_jLX {post : Int64 → va_W → Prop} {px : va_W → Prop} {E0 : String} (S9 : CallFix p m c cc nL s args Ts own) (hC9 : CtJX l y ws rm D tys' K (.ref b :: As) (cx ++ pl) post E0 px mc ms) (cw : CallW R s args own C index y bytes maxL ret ws rm mc ms n) (hrc : ∃ cellB : Cell, H[b]? = some cellB ∧ cellB.vm.isStatics = false ∧ s.vm.findClass C = some cellB.cls) (hK : va_K D vwCl tys' s) (isC isR : List Nat) (hC : isC.map (fun i => X[i]?) = cx.map some) (hR : isR.map (fun i => X[i]?) = wr.map some) (hnC : va_nd isC = true) (hn : va_nd isR = true) (hdis : ∀ i ∈ isR, i ∉ isC) (hP : va_P D vwCl (X ++ pl) H) (hD : va_D A (X ++ pl)) (hE : sEnv K A s s.heap) (hS : va_S A s.heap H locs) (hA : ∀ q, s.heap.size ≤ q → A q) (hnn : As.length = n) (hsz : ls.size = nL) (hst : st = As.reverse ++ .ref b :: rest) (hW : (rest.map fun v => v.category).sum ≤ 8) (hdg : decode cc pc = .ok (.invokevirtual index, 3)) (hf : cells + mc ≤ R.cells ∧ slots + ms ≤ R.slots)
    (kx : ∀ (ce : Cell) (q9 : Addr) (w1 : va_W) (H1 : Heap) (locs1 : List Loc), px w1 → (∀ rx pl1, w1 = rx ++ pl1 → va_P D vwCl ((wr ++ rx) ++ pl1) H1 ∧ va_D A ((wr ++ rx) ++ pl1)) → va_S A s.heap H1 locs1 → H1[q9]? = some ce → ce.vm = .none → s.vm.findClass E0 = some ce.cls → vx_W p l e R s m args below meth c H1 locs1 (cells + mc) (slots + ms) Q (F0 m pc ls rest) q9)
    (kk : ∀ (r : Int64) (w1 : va_W) (H1 : Heap) (locs1 : List Loc), post r w1 → (∀ rx pl1, w1 = rx ++ pl1 → va_P D vwCl ((wr ++ rx) ++ pl1) H1 ∧ va_D A ((wr ++ rx) ++ pl1)) → va_S A s.heap H1 locs1 → W p l e R s m args below meth c H1 locs1 (cells + mc) (slots + ms) Q (F0 m (pc + 3) ls (.long r :: rest))) : W p l e R s m args below meth c H locs cells slots Q (F0 m pc ls st) := by
  have hF : ∀ q, va_A (cx ++ pl) H.size q → A q := va_freeP hD hS hA isC hC
  refine vx_calll (vx_runV S9 (hC9 H.size) cw ⟨cBlind, hrc, fun U hU hW9 => ⟨rfl, by rw [hU], by rw [hU]; exact hP.part isC hC, va_K.moved hW9.alike hK, (hD.part isC hnC hC).weaken (fun _ _ _ _ => trivial), by rw [hU]; exact ((hE.kept hS.2.1).narrow hF).warm hW9⟩⟩ rfl hnn hsz hst (lv_room hW) hdg hf) hS (fun q _ h => hF q h) hF (fun q _ h => hF q h) (fun E ce q9 w1 t H1 locs1 ht hvm hw hB hz hk hS1 h1 h2 h3 => ?_) (fun r w1 t H1 locs1 ht hvm hw hB hz hk hS1 => ?_)
  · obtain ⟨rfl, hP1, hK1, hD1⟩ := hB
    rw [ht] at hP1
    refine kx ce q9 w1 H1 locs1 hw ?_ hS1 h1 h2 h3
    intro rx pl1 e9
    subst e9
    exact va_joinP hP hD isC isR hC hR hn hdis hk hF hP1 hD1
  · obtain ⟨hP1, hK1, hD1⟩ := hB
    rw [ht] at hP1
    refine kk r w1 H1 locs1 hw ?_ hS1
    intro rx pl1 e9
    subst e9
    exact va_joinP hP hD isC isR hC hR hn hdis hk hF hP1 hD1
end LawR1
