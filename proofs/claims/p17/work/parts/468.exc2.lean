section Exc2
abbrev xX (D : va_G) (tys : List (ClassId × FieldType)) (sz : Nat) (w : va_W) (E0 : String) (px : va_W → Prop) : String → State → State → Prop := vx_X px (fun E w1 t => E = E0 ∧ cB D tys sz w w1 t) (va_A w sz)
abbrev CtIX (l : Launch) (y : MethodName) (ws : List Cond) (rm : Room) (D : va_G) (tys : List (ClassId × FieldType)) (K : Nat → Nat → Nat) (av : List Value) (w : va_W) (post : Int32 → va_W → Prop) (E0 : String) (px : va_W → Prop) (mc ms : Nat) : Prop := ∀ sz : Nat, vx_Met l y ws rm (cPre D tys K av sz w) (va_Qi post (cB D tys sz w) (va_A w sz)) (xX D tys sz w E0 px) mc ms (va_A w sz)
abbrev CtJX (l : Launch) (y : MethodName) (ws : List Cond) (rm : Room) (D : va_G) (tys : List (ClassId × FieldType)) (K : Nat → Nat → Nat) (av : List Value) (w : va_W) (post : Int64 → va_W → Prop) (E0 : String) (px : va_W → Prop) (mc ms : Nat) : Prop := ∀ sz : Nat, vx_Met l y ws rm (cPre D tys K av sz w) (va_Ql post (cB D tys sz w) (va_A w sz)) (xX D tys sz w E0 px) mc ms (va_A w sz)
abbrev nsE : String := "java/util/NoSuchElementException"
abbrev isE : String := "java/lang/IllegalStateException"
abbrev exN : List String := ["java/lang/RuntimeException", "java/lang/Exception"]
theorem hat_ns {args : Array Value} {s : State} {w0 : Cond} (hts : ∀ w ∈ w0 :: wsL_law, w.before args s = true) (hN : sNw s) : ∀ w ∈ vx_at0 RX9 90 nsE exN, w.before args s = true :=
  vx_hat (B := [.declares ⟨"java/lang/RuntimeException", "<init>", "()V"⟩, .declares ⟨"java/lang/Exception", "<init>", "()V"⟩, .declares ⟨"java/lang/Throwable", "<init>", "()V"⟩, .castable nsE nsE])
    (fun w h => hts w (List.mem_cons_of_mem _ (List.mem_append_left _ (List.mem_append_right _ h)))) (by decide +kernel)
    (vx_c (va_Nw.use rfl hN.2.2.2.2.2.1) (vx_c (va_Nw.use rfl hN.2.2.2.2.2.2.1) (vx_c (va_Nw.use rfl hN.2.2.2.2.2.2.2.1) (vx_c (va_Nw.use rfl hN.2.2.2.2.2.2.2.2.1) vx_n))))
theorem hat_is {args : Array Value} {s : State} {w0 : Cond} (hts : ∀ w ∈ w0 :: wsL_law, w.before args s = true) (hN : sNw s) : ∀ w ∈ vx_at0 RX9 120 isE exN, w.before args s = true :=
  vx_hat (B := [.declares ⟨"java/lang/RuntimeException", "<init>", "()V"⟩, .declares ⟨"java/lang/Exception", "<init>", "()V"⟩, .declares ⟨"java/lang/Throwable", "<init>", "()V"⟩, .castable isE isE])
    (fun w h => hts w (List.mem_cons_of_mem _ (List.mem_append_right _ h))) (by decide +kernel)
    (vx_c (va_Nw.use rfl hN.2.2.2.2.2.1) (vx_c (va_Nw.use rfl hN.2.2.2.2.2.2.1) (vx_c (va_Nw.use rfl hN.2.2.2.2.2.2.2.1) (vx_c (va_Nw.use rfl hN.2.2.2.2.2.2.2.2.2.1) vx_n))))
theorem gd_ns : ∀ w ∈ Cond.classLink RX9 88 nsE :: Cond.initialized nsE :: vx_at0 RX9 90 nsE exN, vx_ot w = true := by decide +kernel
theorem gd_is : ∀ w ∈ Cond.classLink RX9 118 isE :: Cond.initialized isE :: vx_at0 RX9 120 isE exN, vx_ot w = true := by decide +kernel
end Exc2
