section Env0
def sTab : List (String × Nat × String × List Int32) := [("ArrayTrainer$Lexer", 54, "-bsc-lfd", [45, 98, 115, 99, 45, 108, 102, 100]),
  ("ArrayTrainer$Lexer", 62, "[]=;-", [91, 93, 61, 59, 45]),
  ("ArrayTrainer$Parser", 105, "guess", [103, 117, 101, 115, 115]),
  ("ArrayTrainer$Parser", 110, "take", [116, 97, 107, 101]),
  ("ArrayTrainer$Parser", 112, "- - - read write get put new clone cast is same size class hash equal copy fill swap turn mark", [45, 32, 45, 32, 45, 32, 114, 101, 97, 100, 32, 119, 114, 105, 116, 101, 32, 103, 101, 116, 32, 112, 117, 116, 32, 110, 101, 119, 32, 99, 108, 111, 110, 101, 32, 99, 97, 115, 116, 32, 105, 115, 32, 115, 97, 109, 101, 32, 115, 105, 122, 101, 32, 99, 108, 97, 115, 115, 32, 104, 97, 115, 104, 32, 101, 113, 117, 97, 108, 32, 99, 111, 112, 121, 32, 102, 105, 108, 108, 32, 115, 119, 97, 112, 32, 116, 117, 114, 110, 32, 109, 97, 114, 107]),
  ("ArrayTrainer$Parser", 121, "none", [110, 111, 110, 101]),
  ("ArrayTrainer$Parser", 123, "missing index size store cast unlike large", [109, 105, 115, 115, 105, 110, 103, 32, 105, 110, 100, 101, 120, 32, 115, 105, 122, 101, 32, 115, 116, 111, 114, 101, 32, 99, 97, 115, 116, 32, 117, 110, 108, 105, 107, 101, 32, 108, 97, 114, 103, 101]),
  ("ArrayTrainer$Parser", 155, "ma;", [109, 97, 59]),
  ("ArrayTrainer$Parser", 157, ";", [59]),
  ("ArrayTrainer$Parser", 159, "[mi]*;", [91, 109, 105, 93, 42, 59]),
  ("ArrayTrainer$Parser", 161, "[mi]*=ma;", [91, 109, 105, 93, 42, 61, 109, 97, 59]),
  ("ArrayTrainer$Parser", 163, "kv[mi]*;", [107, 118, 91, 109, 105, 93, 42, 59]),
  ("ArrayTrainer$Parser", 165, "kv[mi]*=ma;", [107, 118, 91, 109, 105, 93, 42, 61, 109, 97, 59]),
  ("ArrayTrainer$Parser", 167, "v[mi]*;", [118, 91, 109, 105, 93, 42, 59]),
  ("ArrayTrainer$Parser", 169, "v[mi]*=ma;", [118, 91, 109, 105, 93, 42, 61, 109, 97, 59]),
  ("ArrayTrainer$Parser", 171, "n[mi]+;", [110, 91, 109, 105, 93, 43, 59]),
  ("ArrayTrainer$Parser", 173, "vn/;", [118, 110, 47, 59]),
  ("ArrayTrainer$Parser", 175, "vw;", [118, 119, 59]),
  ("ArrayTrainer$Parser", 177, "v[mi]tw[mi]fmi;", [118, 91, 109, 105, 93, 116, 119, 91, 109, 105, 93, 102, 109, 105, 59]),
  ("ArrayTrainer$Parser", 179, "vhma;", [118, 104, 109, 97, 59]),
  ("ArrayTrainer$Parser", 181, "v[mi][mi];", [118, 91, 109, 105, 93, 91, 109, 105, 93, 59]),
  ("ArrayTrainer$Parser", 183, "v;", [118, 59]),
  ("ArrayTrainer$Parser", 224, "truth byte short char int long float double beast cat lion dog bird duck bat flier swimmer", [116, 114, 117, 116, 104, 32, 98, 121, 116, 101, 32, 115, 104, 111, 114, 116, 32, 99, 104, 97, 114, 32, 105, 110, 116, 32, 108, 111, 110, 103, 32, 102, 108, 111, 97, 116, 32, 100, 111, 117, 98, 108, 101, 32, 98, 101, 97, 115, 116, 32, 99, 97, 116, 32, 108, 105, 111, 110, 32, 100, 111, 103, 32, 98, 105, 114, 100, 32, 100, 117, 99, 107, 32, 98, 97, 116, 32, 102, 108, 105, 101, 114, 32, 115, 119, 105, 109, 109, 101, 114]),
  ("ArrayTrainer$Parser", 269, "false true none", [102, 97, 108, 115, 101, 32, 116, 114, 117, 101, 32, 110, 111, 110, 101]),
  ("ArrayTrainer$Parser", 238, "to", [116, 111]),
  ("ArrayTrainer$Parser", 240, "for", [102, 111, 114]),
  ("ArrayTrainer$Parser", 242, "with", [119, 105, 116, 104]),
  ("ArrayTrainer$Parser", 76, "n/", [110, 47]),
  ("ArrayTrainer$Classes", 51, "truth byte short char int long float double beast cat lion dog bird duck bat flier swimmer", [116, 114, 117, 116, 104, 32, 98, 121, 116, 101, 32, 115, 104, 111, 114, 116, 32, 99, 104, 97, 114, 32, 105, 110, 116, 32, 108, 111, 110, 103, 32, 102, 108, 111, 97, 116, 32, 100, 111, 117, 98, 108, 101, 32, 98, 101, 97, 115, 116, 32, 99, 97, 116, 32, 108, 105, 111, 110, 32, 100, 111, 103, 32, 98, 105, 114, 100, 32, 100, 117, 99, 107, 32, 98, 97, 116, 32, 102, 108, 105, 101, 114, 32, 115, 119, 105, 109, 109, 101, 114]),
  ("ArrayTrainerModel", 393, "guess", [103, 117, 101, 115, 115]),
  ("ArrayTrainerModel", 394, "take", [116, 97, 107, 101]),
  ("ArrayTrainerModel", 223, "write", [119, 114, 105, 116, 101]),
  ("ArrayTrainerModel", 225, "put", [112, 117, 116]),
  ("ArrayTrainerModel", 227, "copy", [99, 111, 112, 121]),
  ("ArrayTrainerModel", 229, "fill", [102, 105, 108, 108]),
  ("ArrayTrainerModel", 231, "swap", [115, 119, 97, 112]),
  ("ArrayTrainerModel", 233, "turn", [116, 117, 114, 110]),
  ("ArrayTrainerModel", 235, "mark", [109, 97, 114, 107]),
  ("ArrayTrainerModel", 385, "none", [110, 111, 110, 101]),
  ("ArrayTrainerModel", 189, "missing", [109, 105, 115, 115, 105, 110, 103]),
  ("ArrayTrainerModel", 191, "index", [105, 110, 100, 101, 120]),
  ("ArrayTrainerModel", 192, "size", [115, 105, 122, 101]),
  ("ArrayTrainerModel", 194, "store", [115, 116, 111, 114, 101]),
  ("ArrayTrainerModel", 196, "cast", [99, 97, 115, 116]),
  ("ArrayTrainerModel", 198, "unlike", [117, 110, 108, 105, 107, 101]),
  ("ArrayTrainerModel", 200, "large", [108, 97, 114, 103, 101]),
  ("ArrayTrainerModel", 147, "truth", [116, 114, 117, 116, 104]),
  ("ArrayTrainerModel", 149, "byte", [98, 121, 116, 101]),
  ("ArrayTrainerModel", 151, "short", [115, 104, 111, 114, 116]),
  ("ArrayTrainerModel", 153, "char", [99, 104, 97, 114]),
  ("ArrayTrainerModel", 155, "int", [105, 110, 116]),
  ("ArrayTrainerModel", 157, "long", [108, 111, 110, 103]),
  ("ArrayTrainerModel", 159, "float", [102, 108, 111, 97, 116]),
  ("ArrayTrainerModel", 161, "double", [100, 111, 117, 98, 108, 101]),
  ("ArrayTrainerModel", 163, "beast", [98, 101, 97, 115, 116]),
  ("ArrayTrainerModel", 165, "cat", [99, 97, 116]),
  ("ArrayTrainerModel", 167, "lion", [108, 105, 111, 110]),
  ("ArrayTrainerModel", 169, "dog", [100, 111, 103]),
  ("ArrayTrainerModel", 171, "bird", [98, 105, 114, 100]),
  ("ArrayTrainerModel", 173, "duck", [100, 117, 99, 107]),
  ("ArrayTrainerModel", 175, "bat", [98, 97, 116]),
  ("ArrayTrainerModel", 177, "flier", [102, 108, 105, 101, 114]),
  ("ArrayTrainerModel", 179, "swimmer", [115, 119, 105, 109, 109, 101, 114]),
  ("ArrayTrainerModel", 381, "true", [116, 114, 117, 101]),
  ("ArrayTrainerModel", 383, "false", [102, 97, 108, 115, 101]),
  ("ArrayTrainerModel", 205, "read", [114, 101, 97, 100]),
  ("ArrayTrainerModel", 207, "get", [103, 101, 116]),
  ("ArrayTrainerModel", 209, "new", [110, 101, 119]),
  ("ArrayTrainerModel", 211, "clone", [99, 108, 111, 110, 101]),
  ("ArrayTrainerModel", 213, "is", [105, 115]),
  ("ArrayTrainerModel", 215, "same", [115, 97, 109, 101]),
  ("ArrayTrainerModel", 217, "class", [99, 108, 97, 115, 115]),
  ("ArrayTrainerModel", 219, "hash", [104, 97, 115, 104]),
  ("ArrayTrainerModel", 221, "equal", [101, 113, 117, 97, 108]),
  ("ArrayTrainerModel", 422, "to", [116, 111]),
  ("ArrayTrainerModel", 429, "for", [102, 111, 114]),
  ("ArrayTrainerModel", 434, "with", [119, 105, 116, 104])]
def st_WIDENS : List Int32 := [1, 246, 244, 248, 240, 224, 192, 128]
def st_IS : List Int32 := [256, 768, 1792, 67840, 37120, 110848, 49408, 32768, 65536]
def st_LEAST : List Int64 := [0, (-128), (-32768), 0, (-2147483648), (-9223372036854775808), (-9223372036854775808), (-9223372036854775808)]
def st_GREATEST : List Int64 := [1, 127, 32767, 65535, 2147483647, 9223372036854775807, 9223372036854775807, 9223372036854775807]
/-- a String constant: its cell, its bytes, one a sign -/
def sStr (tx : List Int32) (a v : Nat) (A : Nat → Prop) (U : State) (H : Heap) : Prop := va_O "java/lang/String" a A U H ∧ va_OF "java/lang/String" "coder" "B" (.int 0) a A U H ∧ va_OF "java/lang/String" "value" "[B" (.ref v) a A U H ∧ va_T .byte v tx.length (fun j => .int (tx.getD j 0)) A U H
def sArr (K : Nat → Nat → Nat) (A : Nat → Prop) (U : State) (H : Heap) : Prop :=
  (va_Z "ArrayTrainer$Classes" "WIDENS" "[I" (.ref (K 2 0)) A U H ∧ va_T .int (K 2 0) 8 (fun j => .int (st_WIDENS.getD j 0)) A U H) ∧
  (va_Z "ArrayTrainer$Classes" "IS" "[I" (.ref (K 2 1)) A U H ∧ va_T .int (K 2 1) 9 (fun j => .int (st_IS.getD j 0)) A U H) ∧
  (va_Z "ArrayTrainer$Classes" "LEAST" "[J" (.ref (K 2 2)) A U H ∧ va_T .long (K 2 2) 8 (fun j => .long (st_LEAST.getD j 0)) A U H) ∧
  (va_Z "ArrayTrainer$Classes" "GREATEST" "[J" (.ref (K 2 3)) A U H ∧ va_T .long (K 2 3) 8 (fun j => .long (st_GREATEST.getD j 0)) A U H)
def sNw (U : State) : Prop := va_Nw (.methodLinkNest "ArrayTrainer" 18 yX3_init "ArrayTrainer") U ∧ va_Nw (.methodLinkNest "ArrayTrainer$Program" 17 yX6_init "ArrayTrainer") U ∧ va_Nw (.methodLinkNest "ArrayTrainer$Parser" 17 yX6_init "ArrayTrainer") U ∧ va_Nw (.methodLinkNest "ArrayTrainer$Runner" 11 yX7_init "ArrayTrainer") U ∧ va_Nw (.methodLinkNest "ArrayTrainer$Runner" 36 yX8_init "ArrayTrainer") U ∧ va_Nw (.declares ⟨"java/lang/RuntimeException", "<init>", "()V"⟩) U ∧ va_Nw (.declares ⟨"java/lang/Exception", "<init>", "()V"⟩) U ∧ va_Nw (.declares ⟨"java/lang/Throwable", "<init>", "()V"⟩) U ∧ va_Nw (.castable "java/util/NoSuchElementException" "java/util/NoSuchElementException") U ∧ va_Nw (.castable "java/lang/IllegalStateException" "java/lang/IllegalStateException") U ∧ va_AO "ArrayTrainer$Step" U ∧ va_AO "ArrayTrainer$Value" U
theorem sNw.warm {s U : State} (hW : s.WarmedH U.vm) (h : sNw s) : sNw U := ⟨va_Nw.warmM hW h.1, va_Nw.warmM hW h.2.1, va_Nw.warmM hW h.2.2.1, va_Nw.warmM hW h.2.2.2.1, va_Nw.warmM hW h.2.2.2.2.1, va_Nw.warmD hW h.2.2.2.2.2.1, va_Nw.warmD hW h.2.2.2.2.2.2.1, va_Nw.warmD hW h.2.2.2.2.2.2.2.1, va_Nw.warmC hW h.2.2.2.2.2.2.2.2.1, va_Nw.warmC hW h.2.2.2.2.2.2.2.2.2.1, va_AO.moved hW.alike h.2.2.2.2.2.2.2.2.2.2.1, va_AO.moved hW.alike h.2.2.2.2.2.2.2.2.2.2.2⟩
theorem sNw.same {s U : State} (hv : U.vm = s.vm) (h : sNw s) : sNw U := ⟨va_Nw.same rfl hv.symm h.1, va_Nw.same rfl hv.symm h.2.1, va_Nw.same rfl hv.symm h.2.2.1, va_Nw.same rfl hv.symm h.2.2.2.1, va_Nw.same rfl hv.symm h.2.2.2.2.1, va_Nw.same rfl hv.symm h.2.2.2.2.2.1, va_Nw.same rfl hv.symm h.2.2.2.2.2.2.1, va_Nw.same rfl hv.symm h.2.2.2.2.2.2.2.1, va_Nw.same rfl hv.symm h.2.2.2.2.2.2.2.2.1, va_Nw.same rfl hv.symm h.2.2.2.2.2.2.2.2.2.1, va_AO.moved (by rw [hv]; exact Vm.Alike.refl s.vm) h.2.2.2.2.2.2.2.2.2.2.1, va_AO.moved (by rw [hv]; exact Vm.Alike.refl s.vm) h.2.2.2.2.2.2.2.2.2.2.2⟩
/-- what never changes: K 0, K 1: the constants' cells and rows, K 2: the static rows -/
def sEnv (K : Nat → Nat → Nat) (A : Nat → Prop) (U : State) (H : Heap) : Prop :=
  (∀ (i : Nat) (r : String × Nat × String × List Int32), sTab[i]? = some r → vk_R r.1 r.2.1 r.2.2.1 (K 0 i) U ∧ sStr r.2.2.2 (K 0 i) (K 1 i) A U H) ∧ va_Z "java/lang/String" "COMPACT_STRINGS" "Z" (.int 1) A U H ∧ sArr K A U H ∧ vx_Zq Bundle.tN "UNASSIGNED_STACK" Bundle.steD A U H ∧ vx_Zq Bundle.tN "SUPPRESSED_SENTINEL" Bundle.listD A U H ∧ va_Zq "jdk/internal/util/Preconditions" "SIOOBE_FORMATTER" "Ljava/util/function/BiFunction;" A U H ∧ sNw U
theorem sStr.moved {tx : List Int32} {a v : Nat} {A : Nat → Prop} {u U : State} {H : Heap} (hvm : u.vm.Alike U.vm) (h : sStr tx a v A u H) : sStr tx a v A U H := ⟨va_O.moved hvm h.1, va_OF.moved hvm h.2.1, va_OF.moved hvm h.2.2.1, va_T.moved hvm h.2.2.2⟩
theorem sStr.kept {tx : List Int32} {a v : Nat} {A : Nat → Prop} {U : State} {H H1 : Heap} (h : sStr tx a v A U H) (hq : ∀ a : Nat, a < H.size → ¬ A a → H1[a]? = H[a]?) : sStr tx a v A U H1 := ⟨h.1.kept hq, h.2.1.kept hq, h.2.2.1.kept hq, h.2.2.2.kept hq⟩
theorem sStr.narrow {tx : List Int32} {a v : Nat} {A B : Nat → Prop} {U : State} {H : Heap} (h : sStr tx a v A U H) (hAB : ∀ q, B q → A q) : sStr tx a v B U H := ⟨h.1.narrow hAB, h.2.1.narrow hAB, h.2.2.1.narrow hAB, h.2.2.2.narrow hAB⟩
theorem sArr.moved {K : Nat → Nat → Nat} {A : Nat → Prop} {u U : State} {H : Heap} (hvm : u.vm.Alike U.vm) (h : sArr K A u H) : sArr K A U H := ⟨⟨va_Z.moved hvm h.1.1, va_T.moved hvm h.1.2⟩, ⟨va_Z.moved hvm h.2.1.1, va_T.moved hvm h.2.1.2⟩, ⟨va_Z.moved hvm h.2.2.1.1, va_T.moved hvm h.2.2.1.2⟩, ⟨va_Z.moved hvm h.2.2.2.1, va_T.moved hvm h.2.2.2.2⟩⟩
theorem sArr.kept {K : Nat → Nat → Nat} {A : Nat → Prop} {U : State} {H H1 : Heap} (h : sArr K A U H) (hq : ∀ a : Nat, a < H.size → ¬ A a → H1[a]? = H[a]?) : sArr K A U H1 := ⟨⟨(h.1.1).kept hq, (h.1.2).kept hq⟩, ⟨(h.2.1.1).kept hq, (h.2.1.2).kept hq⟩, ⟨(h.2.2.1.1).kept hq, (h.2.2.1.2).kept hq⟩, ⟨(h.2.2.2.1).kept hq, (h.2.2.2.2).kept hq⟩⟩
theorem sArr.narrow {K : Nat → Nat → Nat} {A B : Nat → Prop} {U : State} {H : Heap} (h : sArr K A U H) (hAB : ∀ q, B q → A q) : sArr K B U H := ⟨⟨(h.1.1).narrow hAB, (h.1.2).narrow hAB⟩, ⟨(h.2.1.1).narrow hAB, (h.2.1.2).narrow hAB⟩, ⟨(h.2.2.1.1).narrow hAB, (h.2.2.1.2).narrow hAB⟩, ⟨(h.2.2.2.1).narrow hAB, (h.2.2.2.2).narrow hAB⟩⟩
theorem sEnv.warm {K : Nat → Nat → Nat} {A : Nat → Prop} {s U : State} {H : Heap} (hW : s.WarmedH U.vm) (h : sEnv K A s H) : sEnv K A U H := ⟨fun i r hr => ⟨vk_R.warm hW (h.1 i r hr).1, sStr.moved hW.alike (h.1 i r hr).2⟩, va_Z.moved hW.alike h.2.1, sArr.moved hW.alike h.2.2.1, vx_Zq.moved hW.alike h.2.2.2.1, vx_Zq.moved hW.alike h.2.2.2.2.1, va_Zq.moved hW.alike h.2.2.2.2.2.1, h.2.2.2.2.2.2.warm hW⟩
theorem sEnv.same {K : Nat → Nat → Nat} {A : Nat → Prop} {s U : State} {H : Heap} (hv : U.vm = s.vm) (h : sEnv K A s H) : sEnv K A U H := by
  have ha : s.vm.Alike U.vm := by rw [hv]; exact Vm.Alike.refl s.vm
  exact ⟨fun i r hr => ⟨vk_R.same hv (h.1 i r hr).1, sStr.moved ha (h.1 i r hr).2⟩, va_Z.moved ha h.2.1, sArr.moved ha h.2.2.1, vx_Zq.moved ha h.2.2.2.1, vx_Zq.moved ha h.2.2.2.2.1, va_Zq.moved ha h.2.2.2.2.2.1, h.2.2.2.2.2.2.same hv⟩
theorem sEnv.kept {K : Nat → Nat → Nat} {A : Nat → Prop} {U : State} {H H1 : Heap} (h : sEnv K A U H) (hq : ∀ a : Nat, a < H.size → ¬ A a → H1[a]? = H[a]?) : sEnv K A U H1 := ⟨fun i r hr => ⟨(h.1 i r hr).1, (h.1 i r hr).2.kept hq⟩, h.2.1.kept hq, h.2.2.1.kept hq, h.2.2.2.1.kept hq, h.2.2.2.2.1.kept hq, h.2.2.2.2.2.1.kept hq, h.2.2.2.2.2.2⟩
theorem sEnv.narrow {K : Nat → Nat → Nat} {A B : Nat → Prop} {U : State} {H : Heap} (h : sEnv K A U H) (hAB : ∀ q, B q → A q) : sEnv K B U H := ⟨fun i r hr => ⟨(h.1 i r hr).1, (h.1 i r hr).2.narrow hAB⟩, h.2.1.narrow hAB, h.2.2.1.narrow hAB, h.2.2.2.1.narrow hAB, h.2.2.2.2.1.narrow hAB, h.2.2.2.2.2.1.narrow hAB, h.2.2.2.2.2.2⟩
/-- the constant at place i has these bytes -/
def sOf (i : Nat) (tx : List Int32) : Prop := ∃ r, sTab[i]? = some r ∧ r.2.2.2 = tx
theorem sEnv.str {K : Nat → Nat → Nat} {A : Nat → Prop} {U : State} {H : Heap} (h : sEnv K A U H) {i : Nat} {tx : List Int32} (hs : sOf i tx) : sStr tx (K 0 i) (K 1 i) A U H := by
  obtain ⟨r, h1, h2⟩ := hs
  have h3 := (h.1 i r h1).2
  rw [h2] at h3
  exact h3
theorem sRecv {tx : List Int32} {a v : Nat} {A : Nat → Prop} {s : State} {H : Heap} {locs : List Loc} (h : sStr tx a v A s s.heap) (hS : va_S A s.heap H locs) : ∃ cell : Cell, H[a]? = some cell ∧ cell.vm.isStatics = false ∧ s.vm.findClass "java/lang/String" = some cell.cls := by
  obtain ⟨cell, h1, h2, h3, -⟩ := h.1.kept hS.2.1
  exact ⟨cell, h1, h2, h3⟩
theorem sTab_all : ∀ r ∈ sTab, r.2.2.2.length ≤ 120 ∧ ∀ b ∈ r.2.2.2, 32 ≤ b.toInt ∧ b.toInt ≤ 126 := by decide +kernel
theorem sOf_len {i : Nat} {tx : List Int32} (h : sOf i tx) : tx.length ≤ 120 := by
  obtain ⟨r, h1, h2⟩ := h
  rw [← h2]
  exact (sTab_all r (List.mem_of_getElem? h1)).1
theorem sOf_chr {i : Nat} {tx : List Int32} (h : sOf i tx) {k : Nat} (hk : k < tx.length) : 32 ≤ (tx.getD k 0).toInt ∧ (tx.getD k 0).toInt ≤ 126 := by
  obtain ⟨r, h1, h2⟩ := h
  have h3 := (sTab_all r (List.mem_of_getElem? h1)).2
  rw [h2] at h3
  have e : tx.getD k 0 = tx[k] := by simp [hk]
  rw [e]
  exact h3 _ (List.getElem_mem hk)

theorem so_0 : sOf 0 [45, 98, 115, 99, 45, 108, 102, 100] := ⟨_, rfl, rfl⟩
theorem ld_0 {K : Nat → Nat → Nat} {A : Nat → Prop} {U : State} {H : Heap} (h : sEnv K A U H) : vk_R "ArrayTrainer$Lexer" 54 "-bsc-lfd" (K 0 0) U := (h.1 0 _ rfl).1
theorem so_1 : sOf 1 [91, 93, 61, 59, 45] := ⟨_, rfl, rfl⟩
theorem ld_1 {K : Nat → Nat → Nat} {A : Nat → Prop} {U : State} {H : Heap} (h : sEnv K A U H) : vk_R "ArrayTrainer$Lexer" 62 "[]=;-" (K 0 1) U := (h.1 1 _ rfl).1
theorem so_2 : sOf 2 [103, 117, 101, 115, 115] := ⟨_, rfl, rfl⟩
theorem ld_2 {K : Nat → Nat → Nat} {A : Nat → Prop} {U : State} {H : Heap} (h : sEnv K A U H) : vk_R "ArrayTrainer$Parser" 105 "guess" (K 0 2) U := (h.1 2 _ rfl).1
theorem so_3 : sOf 3 [116, 97, 107, 101] := ⟨_, rfl, rfl⟩
theorem ld_3 {K : Nat → Nat → Nat} {A : Nat → Prop} {U : State} {H : Heap} (h : sEnv K A U H) : vk_R "ArrayTrainer$Parser" 110 "take" (K 0 3) U := (h.1 3 _ rfl).1
theorem so_4 : sOf 4 [45, 32, 45, 32, 45, 32, 114, 101, 97, 100, 32, 119, 114, 105, 116, 101, 32, 103, 101, 116, 32, 112, 117, 116, 32, 110, 101, 119, 32, 99, 108, 111, 110, 101, 32, 99, 97, 115, 116, 32, 105, 115, 32, 115, 97, 109, 101, 32, 115, 105, 122, 101, 32, 99, 108, 97, 115, 115, 32, 104, 97, 115, 104, 32, 101, 113, 117, 97, 108, 32, 99, 111, 112, 121, 32, 102, 105, 108, 108, 32, 115, 119, 97, 112, 32, 116, 117, 114, 110, 32, 109, 97, 114, 107] := ⟨_, rfl, rfl⟩
theorem ld_4 {K : Nat → Nat → Nat} {A : Nat → Prop} {U : State} {H : Heap} (h : sEnv K A U H) : vk_R "ArrayTrainer$Parser" 112 "- - - read write get put new clone cast is same size class hash equal copy fill swap turn mark" (K 0 4) U := (h.1 4 _ rfl).1
theorem so_5 : sOf 5 [110, 111, 110, 101] := ⟨_, rfl, rfl⟩
theorem ld_5 {K : Nat → Nat → Nat} {A : Nat → Prop} {U : State} {H : Heap} (h : sEnv K A U H) : vk_R "ArrayTrainer$Parser" 121 "none" (K 0 5) U := (h.1 5 _ rfl).1
theorem so_6 : sOf 6 [109, 105, 115, 115, 105, 110, 103, 32, 105, 110, 100, 101, 120, 32, 115, 105, 122, 101, 32, 115, 116, 111, 114, 101, 32, 99, 97, 115, 116, 32, 117, 110, 108, 105, 107, 101, 32, 108, 97, 114, 103, 101] := ⟨_, rfl, rfl⟩
theorem ld_6 {K : Nat → Nat → Nat} {A : Nat → Prop} {U : State} {H : Heap} (h : sEnv K A U H) : vk_R "ArrayTrainer$Parser" 123 "missing index size store cast unlike large" (K 0 6) U := (h.1 6 _ rfl).1
theorem so_7 : sOf 7 [109, 97, 59] := ⟨_, rfl, rfl⟩
theorem ld_7 {K : Nat → Nat → Nat} {A : Nat → Prop} {U : State} {H : Heap} (h : sEnv K A U H) : vk_R "ArrayTrainer$Parser" 155 "ma;" (K 0 7) U := (h.1 7 _ rfl).1
theorem so_8 : sOf 8 [59] := ⟨_, rfl, rfl⟩
theorem ld_8 {K : Nat → Nat → Nat} {A : Nat → Prop} {U : State} {H : Heap} (h : sEnv K A U H) : vk_R "ArrayTrainer$Parser" 157 ";" (K 0 8) U := (h.1 8 _ rfl).1
theorem so_9 : sOf 9 [91, 109, 105, 93, 42, 59] := ⟨_, rfl, rfl⟩
theorem ld_9 {K : Nat → Nat → Nat} {A : Nat → Prop} {U : State} {H : Heap} (h : sEnv K A U H) : vk_R "ArrayTrainer$Parser" 159 "[mi]*;" (K 0 9) U := (h.1 9 _ rfl).1
theorem so_10 : sOf 10 [91, 109, 105, 93, 42, 61, 109, 97, 59] := ⟨_, rfl, rfl⟩
theorem ld_10 {K : Nat → Nat → Nat} {A : Nat → Prop} {U : State} {H : Heap} (h : sEnv K A U H) : vk_R "ArrayTrainer$Parser" 161 "[mi]*=ma;" (K 0 10) U := (h.1 10 _ rfl).1
theorem so_11 : sOf 11 [107, 118, 91, 109, 105, 93, 42, 59] := ⟨_, rfl, rfl⟩
theorem ld_11 {K : Nat → Nat → Nat} {A : Nat → Prop} {U : State} {H : Heap} (h : sEnv K A U H) : vk_R "ArrayTrainer$Parser" 163 "kv[mi]*;" (K 0 11) U := (h.1 11 _ rfl).1
theorem so_12 : sOf 12 [107, 118, 91, 109, 105, 93, 42, 61, 109, 97, 59] := ⟨_, rfl, rfl⟩
theorem ld_12 {K : Nat → Nat → Nat} {A : Nat → Prop} {U : State} {H : Heap} (h : sEnv K A U H) : vk_R "ArrayTrainer$Parser" 165 "kv[mi]*=ma;" (K 0 12) U := (h.1 12 _ rfl).1
theorem so_13 : sOf 13 [118, 91, 109, 105, 93, 42, 59] := ⟨_, rfl, rfl⟩
theorem ld_13 {K : Nat → Nat → Nat} {A : Nat → Prop} {U : State} {H : Heap} (h : sEnv K A U H) : vk_R "ArrayTrainer$Parser" 167 "v[mi]*;" (K 0 13) U := (h.1 13 _ rfl).1
theorem so_14 : sOf 14 [118, 91, 109, 105, 93, 42, 61, 109, 97, 59] := ⟨_, rfl, rfl⟩
theorem ld_14 {K : Nat → Nat → Nat} {A : Nat → Prop} {U : State} {H : Heap} (h : sEnv K A U H) : vk_R "ArrayTrainer$Parser" 169 "v[mi]*=ma;" (K 0 14) U := (h.1 14 _ rfl).1
theorem so_15 : sOf 15 [110, 91, 109, 105, 93, 43, 59] := ⟨_, rfl, rfl⟩
theorem ld_15 {K : Nat → Nat → Nat} {A : Nat → Prop} {U : State} {H : Heap} (h : sEnv K A U H) : vk_R "ArrayTrainer$Parser" 171 "n[mi]+;" (K 0 15) U := (h.1 15 _ rfl).1
theorem so_16 : sOf 16 [118, 110, 47, 59] := ⟨_, rfl, rfl⟩
theorem ld_16 {K : Nat → Nat → Nat} {A : Nat → Prop} {U : State} {H : Heap} (h : sEnv K A U H) : vk_R "ArrayTrainer$Parser" 173 "vn/;" (K 0 16) U := (h.1 16 _ rfl).1
theorem so_17 : sOf 17 [118, 119, 59] := ⟨_, rfl, rfl⟩
theorem ld_17 {K : Nat → Nat → Nat} {A : Nat → Prop} {U : State} {H : Heap} (h : sEnv K A U H) : vk_R "ArrayTrainer$Parser" 175 "vw;" (K 0 17) U := (h.1 17 _ rfl).1
theorem so_18 : sOf 18 [118, 91, 109, 105, 93, 116, 119, 91, 109, 105, 93, 102, 109, 105, 59] := ⟨_, rfl, rfl⟩
theorem ld_18 {K : Nat → Nat → Nat} {A : Nat → Prop} {U : State} {H : Heap} (h : sEnv K A U H) : vk_R "ArrayTrainer$Parser" 177 "v[mi]tw[mi]fmi;" (K 0 18) U := (h.1 18 _ rfl).1
theorem so_19 : sOf 19 [118, 104, 109, 97, 59] := ⟨_, rfl, rfl⟩
theorem ld_19 {K : Nat → Nat → Nat} {A : Nat → Prop} {U : State} {H : Heap} (h : sEnv K A U H) : vk_R "ArrayTrainer$Parser" 179 "vhma;" (K 0 19) U := (h.1 19 _ rfl).1
theorem so_20 : sOf 20 [118, 91, 109, 105, 93, 91, 109, 105, 93, 59] := ⟨_, rfl, rfl⟩
theorem ld_20 {K : Nat → Nat → Nat} {A : Nat → Prop} {U : State} {H : Heap} (h : sEnv K A U H) : vk_R "ArrayTrainer$Parser" 181 "v[mi][mi];" (K 0 20) U := (h.1 20 _ rfl).1
theorem so_21 : sOf 21 [118, 59] := ⟨_, rfl, rfl⟩
theorem ld_21 {K : Nat → Nat → Nat} {A : Nat → Prop} {U : State} {H : Heap} (h : sEnv K A U H) : vk_R "ArrayTrainer$Parser" 183 "v;" (K 0 21) U := (h.1 21 _ rfl).1
theorem so_22 : sOf 22 [116, 114, 117, 116, 104, 32, 98, 121, 116, 101, 32, 115, 104, 111, 114, 116, 32, 99, 104, 97, 114, 32, 105, 110, 116, 32, 108, 111, 110, 103, 32, 102, 108, 111, 97, 116, 32, 100, 111, 117, 98, 108, 101, 32, 98, 101, 97, 115, 116, 32, 99, 97, 116, 32, 108, 105, 111, 110, 32, 100, 111, 103, 32, 98, 105, 114, 100, 32, 100, 117, 99, 107, 32, 98, 97, 116, 32, 102, 108, 105, 101, 114, 32, 115, 119, 105, 109, 109, 101, 114] := ⟨_, rfl, rfl⟩
theorem ld_22 {K : Nat → Nat → Nat} {A : Nat → Prop} {U : State} {H : Heap} (h : sEnv K A U H) : vk_R "ArrayTrainer$Parser" 224 "truth byte short char int long float double beast cat lion dog bird duck bat flier swimmer" (K 0 22) U := (h.1 22 _ rfl).1
theorem so_23 : sOf 23 [102, 97, 108, 115, 101, 32, 116, 114, 117, 101, 32, 110, 111, 110, 101] := ⟨_, rfl, rfl⟩
theorem ld_23 {K : Nat → Nat → Nat} {A : Nat → Prop} {U : State} {H : Heap} (h : sEnv K A U H) : vk_R "ArrayTrainer$Parser" 269 "false true none" (K 0 23) U := (h.1 23 _ rfl).1
theorem so_24 : sOf 24 [116, 111] := ⟨_, rfl, rfl⟩
theorem ld_24 {K : Nat → Nat → Nat} {A : Nat → Prop} {U : State} {H : Heap} (h : sEnv K A U H) : vk_R "ArrayTrainer$Parser" 238 "to" (K 0 24) U := (h.1 24 _ rfl).1
theorem so_25 : sOf 25 [102, 111, 114] := ⟨_, rfl, rfl⟩
theorem ld_25 {K : Nat → Nat → Nat} {A : Nat → Prop} {U : State} {H : Heap} (h : sEnv K A U H) : vk_R "ArrayTrainer$Parser" 240 "for" (K 0 25) U := (h.1 25 _ rfl).1
theorem so_26 : sOf 26 [119, 105, 116, 104] := ⟨_, rfl, rfl⟩
theorem ld_26 {K : Nat → Nat → Nat} {A : Nat → Prop} {U : State} {H : Heap} (h : sEnv K A U H) : vk_R "ArrayTrainer$Parser" 242 "with" (K 0 26) U := (h.1 26 _ rfl).1
theorem so_27 : sOf 27 [110, 47] := ⟨_, rfl, rfl⟩
theorem ld_27 {K : Nat → Nat → Nat} {A : Nat → Prop} {U : State} {H : Heap} (h : sEnv K A U H) : vk_R "ArrayTrainer$Parser" 76 "n/" (K 0 27) U := (h.1 27 _ rfl).1
theorem so_28 : sOf 28 [116, 114, 117, 116, 104, 32, 98, 121, 116, 101, 32, 115, 104, 111, 114, 116, 32, 99, 104, 97, 114, 32, 105, 110, 116, 32, 108, 111, 110, 103, 32, 102, 108, 111, 97, 116, 32, 100, 111, 117, 98, 108, 101, 32, 98, 101, 97, 115, 116, 32, 99, 97, 116, 32, 108, 105, 111, 110, 32, 100, 111, 103, 32, 98, 105, 114, 100, 32, 100, 117, 99, 107, 32, 98, 97, 116, 32, 102, 108, 105, 101, 114, 32, 115, 119, 105, 109, 109, 101, 114] := ⟨_, rfl, rfl⟩
theorem ld_28 {K : Nat → Nat → Nat} {A : Nat → Prop} {U : State} {H : Heap} (h : sEnv K A U H) : vk_R "ArrayTrainer$Classes" 51 "truth byte short char int long float double beast cat lion dog bird duck bat flier swimmer" (K 0 28) U := (h.1 28 _ rfl).1
theorem so_29 : sOf 29 [103, 117, 101, 115, 115] := ⟨_, rfl, rfl⟩
theorem ld_29 {K : Nat → Nat → Nat} {A : Nat → Prop} {U : State} {H : Heap} (h : sEnv K A U H) : vk_R "ArrayTrainerModel" 393 "guess" (K 0 29) U := (h.1 29 _ rfl).1
theorem so_30 : sOf 30 [116, 97, 107, 101] := ⟨_, rfl, rfl⟩
theorem ld_30 {K : Nat → Nat → Nat} {A : Nat → Prop} {U : State} {H : Heap} (h : sEnv K A U H) : vk_R "ArrayTrainerModel" 394 "take" (K 0 30) U := (h.1 30 _ rfl).1
theorem so_31 : sOf 31 [119, 114, 105, 116, 101] := ⟨_, rfl, rfl⟩
theorem ld_31 {K : Nat → Nat → Nat} {A : Nat → Prop} {U : State} {H : Heap} (h : sEnv K A U H) : vk_R "ArrayTrainerModel" 223 "write" (K 0 31) U := (h.1 31 _ rfl).1
theorem so_32 : sOf 32 [112, 117, 116] := ⟨_, rfl, rfl⟩
theorem ld_32 {K : Nat → Nat → Nat} {A : Nat → Prop} {U : State} {H : Heap} (h : sEnv K A U H) : vk_R "ArrayTrainerModel" 225 "put" (K 0 32) U := (h.1 32 _ rfl).1
theorem so_33 : sOf 33 [99, 111, 112, 121] := ⟨_, rfl, rfl⟩
theorem ld_33 {K : Nat → Nat → Nat} {A : Nat → Prop} {U : State} {H : Heap} (h : sEnv K A U H) : vk_R "ArrayTrainerModel" 227 "copy" (K 0 33) U := (h.1 33 _ rfl).1
theorem so_34 : sOf 34 [102, 105, 108, 108] := ⟨_, rfl, rfl⟩
theorem ld_34 {K : Nat → Nat → Nat} {A : Nat → Prop} {U : State} {H : Heap} (h : sEnv K A U H) : vk_R "ArrayTrainerModel" 229 "fill" (K 0 34) U := (h.1 34 _ rfl).1
theorem so_35 : sOf 35 [115, 119, 97, 112] := ⟨_, rfl, rfl⟩
theorem ld_35 {K : Nat → Nat → Nat} {A : Nat → Prop} {U : State} {H : Heap} (h : sEnv K A U H) : vk_R "ArrayTrainerModel" 231 "swap" (K 0 35) U := (h.1 35 _ rfl).1
theorem so_36 : sOf 36 [116, 117, 114, 110] := ⟨_, rfl, rfl⟩
theorem ld_36 {K : Nat → Nat → Nat} {A : Nat → Prop} {U : State} {H : Heap} (h : sEnv K A U H) : vk_R "ArrayTrainerModel" 233 "turn" (K 0 36) U := (h.1 36 _ rfl).1
theorem so_37 : sOf 37 [109, 97, 114, 107] := ⟨_, rfl, rfl⟩
theorem ld_37 {K : Nat → Nat → Nat} {A : Nat → Prop} {U : State} {H : Heap} (h : sEnv K A U H) : vk_R "ArrayTrainerModel" 235 "mark" (K 0 37) U := (h.1 37 _ rfl).1
theorem so_38 : sOf 38 [110, 111, 110, 101] := ⟨_, rfl, rfl⟩
theorem ld_38 {K : Nat → Nat → Nat} {A : Nat → Prop} {U : State} {H : Heap} (h : sEnv K A U H) : vk_R "ArrayTrainerModel" 385 "none" (K 0 38) U := (h.1 38 _ rfl).1
theorem so_39 : sOf 39 [109, 105, 115, 115, 105, 110, 103] := ⟨_, rfl, rfl⟩
theorem ld_39 {K : Nat → Nat → Nat} {A : Nat → Prop} {U : State} {H : Heap} (h : sEnv K A U H) : vk_R "ArrayTrainerModel" 189 "missing" (K 0 39) U := (h.1 39 _ rfl).1
theorem so_40 : sOf 40 [105, 110, 100, 101, 120] := ⟨_, rfl, rfl⟩
theorem ld_40 {K : Nat → Nat → Nat} {A : Nat → Prop} {U : State} {H : Heap} (h : sEnv K A U H) : vk_R "ArrayTrainerModel" 191 "index" (K 0 40) U := (h.1 40 _ rfl).1
theorem so_41 : sOf 41 [115, 105, 122, 101] := ⟨_, rfl, rfl⟩
theorem ld_41 {K : Nat → Nat → Nat} {A : Nat → Prop} {U : State} {H : Heap} (h : sEnv K A U H) : vk_R "ArrayTrainerModel" 192 "size" (K 0 41) U := (h.1 41 _ rfl).1
theorem so_42 : sOf 42 [115, 116, 111, 114, 101] := ⟨_, rfl, rfl⟩
theorem ld_42 {K : Nat → Nat → Nat} {A : Nat → Prop} {U : State} {H : Heap} (h : sEnv K A U H) : vk_R "ArrayTrainerModel" 194 "store" (K 0 42) U := (h.1 42 _ rfl).1
theorem so_43 : sOf 43 [99, 97, 115, 116] := ⟨_, rfl, rfl⟩
theorem ld_43 {K : Nat → Nat → Nat} {A : Nat → Prop} {U : State} {H : Heap} (h : sEnv K A U H) : vk_R "ArrayTrainerModel" 196 "cast" (K 0 43) U := (h.1 43 _ rfl).1
theorem so_44 : sOf 44 [117, 110, 108, 105, 107, 101] := ⟨_, rfl, rfl⟩
theorem ld_44 {K : Nat → Nat → Nat} {A : Nat → Prop} {U : State} {H : Heap} (h : sEnv K A U H) : vk_R "ArrayTrainerModel" 198 "unlike" (K 0 44) U := (h.1 44 _ rfl).1
theorem so_45 : sOf 45 [108, 97, 114, 103, 101] := ⟨_, rfl, rfl⟩
theorem ld_45 {K : Nat → Nat → Nat} {A : Nat → Prop} {U : State} {H : Heap} (h : sEnv K A U H) : vk_R "ArrayTrainerModel" 200 "large" (K 0 45) U := (h.1 45 _ rfl).1
theorem so_46 : sOf 46 [116, 114, 117, 116, 104] := ⟨_, rfl, rfl⟩
theorem ld_46 {K : Nat → Nat → Nat} {A : Nat → Prop} {U : State} {H : Heap} (h : sEnv K A U H) : vk_R "ArrayTrainerModel" 147 "truth" (K 0 46) U := (h.1 46 _ rfl).1
theorem so_47 : sOf 47 [98, 121, 116, 101] := ⟨_, rfl, rfl⟩
theorem ld_47 {K : Nat → Nat → Nat} {A : Nat → Prop} {U : State} {H : Heap} (h : sEnv K A U H) : vk_R "ArrayTrainerModel" 149 "byte" (K 0 47) U := (h.1 47 _ rfl).1
theorem so_48 : sOf 48 [115, 104, 111, 114, 116] := ⟨_, rfl, rfl⟩
theorem ld_48 {K : Nat → Nat → Nat} {A : Nat → Prop} {U : State} {H : Heap} (h : sEnv K A U H) : vk_R "ArrayTrainerModel" 151 "short" (K 0 48) U := (h.1 48 _ rfl).1
theorem so_49 : sOf 49 [99, 104, 97, 114] := ⟨_, rfl, rfl⟩
theorem ld_49 {K : Nat → Nat → Nat} {A : Nat → Prop} {U : State} {H : Heap} (h : sEnv K A U H) : vk_R "ArrayTrainerModel" 153 "char" (K 0 49) U := (h.1 49 _ rfl).1
theorem so_50 : sOf 50 [105, 110, 116] := ⟨_, rfl, rfl⟩
theorem ld_50 {K : Nat → Nat → Nat} {A : Nat → Prop} {U : State} {H : Heap} (h : sEnv K A U H) : vk_R "ArrayTrainerModel" 155 "int" (K 0 50) U := (h.1 50 _ rfl).1
theorem so_51 : sOf 51 [108, 111, 110, 103] := ⟨_, rfl, rfl⟩
theorem ld_51 {K : Nat → Nat → Nat} {A : Nat → Prop} {U : State} {H : Heap} (h : sEnv K A U H) : vk_R "ArrayTrainerModel" 157 "long" (K 0 51) U := (h.1 51 _ rfl).1
theorem so_52 : sOf 52 [102, 108, 111, 97, 116] := ⟨_, rfl, rfl⟩
theorem ld_52 {K : Nat → Nat → Nat} {A : Nat → Prop} {U : State} {H : Heap} (h : sEnv K A U H) : vk_R "ArrayTrainerModel" 159 "float" (K 0 52) U := (h.1 52 _ rfl).1
theorem so_53 : sOf 53 [100, 111, 117, 98, 108, 101] := ⟨_, rfl, rfl⟩
theorem ld_53 {K : Nat → Nat → Nat} {A : Nat → Prop} {U : State} {H : Heap} (h : sEnv K A U H) : vk_R "ArrayTrainerModel" 161 "double" (K 0 53) U := (h.1 53 _ rfl).1
theorem so_54 : sOf 54 [98, 101, 97, 115, 116] := ⟨_, rfl, rfl⟩
theorem ld_54 {K : Nat → Nat → Nat} {A : Nat → Prop} {U : State} {H : Heap} (h : sEnv K A U H) : vk_R "ArrayTrainerModel" 163 "beast" (K 0 54) U := (h.1 54 _ rfl).1
theorem so_55 : sOf 55 [99, 97, 116] := ⟨_, rfl, rfl⟩
theorem ld_55 {K : Nat → Nat → Nat} {A : Nat → Prop} {U : State} {H : Heap} (h : sEnv K A U H) : vk_R "ArrayTrainerModel" 165 "cat" (K 0 55) U := (h.1 55 _ rfl).1
theorem so_56 : sOf 56 [108, 105, 111, 110] := ⟨_, rfl, rfl⟩
theorem ld_56 {K : Nat → Nat → Nat} {A : Nat → Prop} {U : State} {H : Heap} (h : sEnv K A U H) : vk_R "ArrayTrainerModel" 167 "lion" (K 0 56) U := (h.1 56 _ rfl).1
theorem so_57 : sOf 57 [100, 111, 103] := ⟨_, rfl, rfl⟩
theorem ld_57 {K : Nat → Nat → Nat} {A : Nat → Prop} {U : State} {H : Heap} (h : sEnv K A U H) : vk_R "ArrayTrainerModel" 169 "dog" (K 0 57) U := (h.1 57 _ rfl).1
theorem so_58 : sOf 58 [98, 105, 114, 100] := ⟨_, rfl, rfl⟩
theorem ld_58 {K : Nat → Nat → Nat} {A : Nat → Prop} {U : State} {H : Heap} (h : sEnv K A U H) : vk_R "ArrayTrainerModel" 171 "bird" (K 0 58) U := (h.1 58 _ rfl).1
theorem so_59 : sOf 59 [100, 117, 99, 107] := ⟨_, rfl, rfl⟩
theorem ld_59 {K : Nat → Nat → Nat} {A : Nat → Prop} {U : State} {H : Heap} (h : sEnv K A U H) : vk_R "ArrayTrainerModel" 173 "duck" (K 0 59) U := (h.1 59 _ rfl).1
theorem so_60 : sOf 60 [98, 97, 116] := ⟨_, rfl, rfl⟩
theorem ld_60 {K : Nat → Nat → Nat} {A : Nat → Prop} {U : State} {H : Heap} (h : sEnv K A U H) : vk_R "ArrayTrainerModel" 175 "bat" (K 0 60) U := (h.1 60 _ rfl).1
theorem so_61 : sOf 61 [102, 108, 105, 101, 114] := ⟨_, rfl, rfl⟩
theorem ld_61 {K : Nat → Nat → Nat} {A : Nat → Prop} {U : State} {H : Heap} (h : sEnv K A U H) : vk_R "ArrayTrainerModel" 177 "flier" (K 0 61) U := (h.1 61 _ rfl).1
theorem so_62 : sOf 62 [115, 119, 105, 109, 109, 101, 114] := ⟨_, rfl, rfl⟩
theorem ld_62 {K : Nat → Nat → Nat} {A : Nat → Prop} {U : State} {H : Heap} (h : sEnv K A U H) : vk_R "ArrayTrainerModel" 179 "swimmer" (K 0 62) U := (h.1 62 _ rfl).1
theorem so_63 : sOf 63 [116, 114, 117, 101] := ⟨_, rfl, rfl⟩
theorem ld_63 {K : Nat → Nat → Nat} {A : Nat → Prop} {U : State} {H : Heap} (h : sEnv K A U H) : vk_R "ArrayTrainerModel" 381 "true" (K 0 63) U := (h.1 63 _ rfl).1
theorem so_64 : sOf 64 [102, 97, 108, 115, 101] := ⟨_, rfl, rfl⟩
theorem ld_64 {K : Nat → Nat → Nat} {A : Nat → Prop} {U : State} {H : Heap} (h : sEnv K A U H) : vk_R "ArrayTrainerModel" 383 "false" (K 0 64) U := (h.1 64 _ rfl).1
theorem so_65 : sOf 65 [114, 101, 97, 100] := ⟨_, rfl, rfl⟩
theorem ld_65 {K : Nat → Nat → Nat} {A : Nat → Prop} {U : State} {H : Heap} (h : sEnv K A U H) : vk_R "ArrayTrainerModel" 205 "read" (K 0 65) U := (h.1 65 _ rfl).1
theorem so_66 : sOf 66 [103, 101, 116] := ⟨_, rfl, rfl⟩
theorem ld_66 {K : Nat → Nat → Nat} {A : Nat → Prop} {U : State} {H : Heap} (h : sEnv K A U H) : vk_R "ArrayTrainerModel" 207 "get" (K 0 66) U := (h.1 66 _ rfl).1
theorem so_67 : sOf 67 [110, 101, 119] := ⟨_, rfl, rfl⟩
theorem ld_67 {K : Nat → Nat → Nat} {A : Nat → Prop} {U : State} {H : Heap} (h : sEnv K A U H) : vk_R "ArrayTrainerModel" 209 "new" (K 0 67) U := (h.1 67 _ rfl).1
theorem so_68 : sOf 68 [99, 108, 111, 110, 101] := ⟨_, rfl, rfl⟩
theorem ld_68 {K : Nat → Nat → Nat} {A : Nat → Prop} {U : State} {H : Heap} (h : sEnv K A U H) : vk_R "ArrayTrainerModel" 211 "clone" (K 0 68) U := (h.1 68 _ rfl).1
theorem so_69 : sOf 69 [105, 115] := ⟨_, rfl, rfl⟩
theorem ld_69 {K : Nat → Nat → Nat} {A : Nat → Prop} {U : State} {H : Heap} (h : sEnv K A U H) : vk_R "ArrayTrainerModel" 213 "is" (K 0 69) U := (h.1 69 _ rfl).1
theorem so_70 : sOf 70 [115, 97, 109, 101] := ⟨_, rfl, rfl⟩
theorem ld_70 {K : Nat → Nat → Nat} {A : Nat → Prop} {U : State} {H : Heap} (h : sEnv K A U H) : vk_R "ArrayTrainerModel" 215 "same" (K 0 70) U := (h.1 70 _ rfl).1
theorem so_71 : sOf 71 [99, 108, 97, 115, 115] := ⟨_, rfl, rfl⟩
theorem ld_71 {K : Nat → Nat → Nat} {A : Nat → Prop} {U : State} {H : Heap} (h : sEnv K A U H) : vk_R "ArrayTrainerModel" 217 "class" (K 0 71) U := (h.1 71 _ rfl).1
theorem so_72 : sOf 72 [104, 97, 115, 104] := ⟨_, rfl, rfl⟩
theorem ld_72 {K : Nat → Nat → Nat} {A : Nat → Prop} {U : State} {H : Heap} (h : sEnv K A U H) : vk_R "ArrayTrainerModel" 219 "hash" (K 0 72) U := (h.1 72 _ rfl).1
theorem so_73 : sOf 73 [101, 113, 117, 97, 108] := ⟨_, rfl, rfl⟩
theorem ld_73 {K : Nat → Nat → Nat} {A : Nat → Prop} {U : State} {H : Heap} (h : sEnv K A U H) : vk_R "ArrayTrainerModel" 221 "equal" (K 0 73) U := (h.1 73 _ rfl).1
theorem so_74 : sOf 74 [116, 111] := ⟨_, rfl, rfl⟩
theorem ld_74 {K : Nat → Nat → Nat} {A : Nat → Prop} {U : State} {H : Heap} (h : sEnv K A U H) : vk_R "ArrayTrainerModel" 422 "to" (K 0 74) U := (h.1 74 _ rfl).1
theorem so_75 : sOf 75 [102, 111, 114] := ⟨_, rfl, rfl⟩
theorem ld_75 {K : Nat → Nat → Nat} {A : Nat → Prop} {U : State} {H : Heap} (h : sEnv K A U H) : vk_R "ArrayTrainerModel" 429 "for" (K 0 75) U := (h.1 75 _ rfl).1
theorem so_76 : sOf 76 [119, 105, 116, 104] := ⟨_, rfl, rfl⟩
theorem ld_76 {K : Nat → Nat → Nat} {A : Nat → Prop} {U : State} {H : Heap} (h : sEnv K A U H) : vk_R "ArrayTrainerModel" 434 "with" (K 0 76) U := (h.1 76 _ rfl).1
end Env0
