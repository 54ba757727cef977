section Env0
def sTab : List (String × Nat × String × List Int32) := [("ArrayTrainer$Lexer", 54, "-bsc-lfd", [45, 98, 115, 99, 45, 108, 102, 100]),
  ("ArrayTrainer$Lexer", 62, "[]=;-", [91, 93, 61, 59, 45]),
  ("ArrayTrainer$Parser", 105, "guess", [103, 117, 101, 115, 115]),
  ("ArrayTrainer$Parser", 110, "take", [116, 97, 107, 101]),
  ("ArrayTrainer$Parser", 112, "- - - read write get put new clone cast is same size class hash equal copy fill swap turn mark", [45, 32, 45, 32, 45, 32, 114, 101, 97, 100, 32, 119, 114, 105, 116, 101, 32, 103, 101, 116, 32, 112, 117, 116, 32, 110, 101, 119, 32, 99, 108, 111, 110, 101, 32, 99, 97, 115, 116, 32, 105, 115, 32, 115, 97, 109, 101, 32, 115, 105, 122, 101, 32, 99, 108, 97, 115, 115, 32, 104, 97, 115, 104, 32, 101, 113, 117, 97, 108, 32, 99, 111, 112, 121, 32, 102, 105, 108, 108, 32, 115, 119, 97, 112, 32, 116, 117, 114, 110, 32, 109, 97, 114, 107]),
  ("ArrayTrainer$Parser", 121, "none", [110, 111, 110, 101]),
  ("ArrayTrainer$Parser", 123, "missing index size store cast unlike large", [109, 105, 115, 115, 105, 110, 103, 32, 105, 110, 100, 101, 120, 32, 115, 105, 122, 101, 32, 115, 116, 111, 114, 101, 32, 99, 97, 115, 116, 32, 117, 110, 108, 105, 107, 101, 32, 108, 97, 114, 103, 101]),
  ("ArrayTrainer$Parser", 155, "ma;", [109, 97, 59]),
  ("ArrayTrainer$Parser", 157, ";", [59]),
  ("ArrayTrainer$Parser", 159, "[mi]*;", [91, 109, 105, 93, 42, 59]),
  ("ArrayTrainer$Parser", 161, "[mi]*=ma;", [91, 109, 105, 93, 42, 61, 109, 97, 59]),
  ("ArrayTrainer$Parser", 163, "kv[mi]*;", [107, 118, 91, 109, 105, 93, 42, 59]),
  ("ArrayTrainer$Parser", 165, "kv[mi]*=ma;", [107, 118, 91, 109, 105, 93, 42, 61, 109, 97, 59]),
  ("ArrayTrainer$Parser", 167, "v[mi]*;", [118, 91, 109, 105, 93, 42, 59]),
  ("ArrayTrainer$Parser", 169, "v[mi]*=ma;", [118, 91, 109, 105, 93, 42, 61, 109, 97, 59]),
  ("ArrayTrainer$Parser", 171, "n[mi]+;", [110, 91, 109, 105, 93, 43, 59]),
  ("ArrayTrainer$Parser", 173, "vn/;", [118, 110, 47, 59]),
  ("ArrayTrainer$Parser", 175, "vw;", [118, 119, 59]),
  ("ArrayTrainer$Parser", 177, "v[mi]tw[mi]fmi;", [118, 91, 109, 105, 93, 116, 119, 91, 109, 105, 93, 102, 109, 105, 59]),
  ("ArrayTrainer$Parser", 179, "vhma;", [118, 104, 109, 97, 59]),
  ("ArrayTrainer$Parser", 181, "v[mi][mi];", [118, 91, 109, 105, 93, 91, 109, 105, 93, 59]),
  ("ArrayTrainer$Parser", 183, "v;", [118, 59]),
  ("ArrayTrainer$Parser", 224, "truth byte short char int long float double beast cat lion dog bird duck bat flier swimmer", [116, 114, 117, 116, 104, 32, 98, 121, 116, 101, 32, 115, 104, 111, 114, 116, 32, 99, 104, 97, 114, 32, 105, 110, 116, 32, 108, 111, 110, 103, 32, 102, 108, 111, 97, 116, 32, 100, 111, 117, 98, 108, 101, 32, 98, 101, 97, 115, 116, 32, 99, 97, 116, 32, 108, 105, 111, 110, 32, 100, 111, 103, 32, 98, 105, 114, 100, 32, 100, 117, 99, 107, 32, 98, 97, 116, 32, 102, 108, 105, 101, 114, 32, 115, 119, 105, 109, 109, 101, 114]),
  ("ArrayTrainer$Parser", 269, "false true none", [102, 97, 108, 115, 101, 32, 116, 114, 117, 101, 32, 110, 111, 110, 101]),
  ("ArrayTrainer$Parser", 238, "to", [116, 111]),
  ("ArrayTrainer$Parser", 240, "for", [102, 111, 114]),
  ("ArrayTrainer$Parser", 242, "with", [119, 105, 116, 104]),
  ("ArrayTrainer$Parser", 76, "n/", [110, 47]),
  ("ArrayTrainer$Classes", 51, "truth byte short char int long float double beast cat lion dog bird duck bat flier swimmer", [116, 114, 117, 116, 104, 32, 98, 121, 116, 101, 32, 115, 104, 111, 114, 116, 32, 99, 104, 97, 114, 32, 105, 110, 116, 32, 108, 111, 110, 103, 32, 102, 108, 111, 97, 116, 32, 100, 111, 117, 98, 108, 101, 32, 98, 101, 97, 115, 116, 32, 99, 97, 116, 32, 108, 105, 111, 110, 32, 100, 111, 103, 32, 98, 105, 114, 100, 32, 100, 117, 99, 107, 32, 98, 97, 116, 32, 102, 108, 105, 101, 114, 32, 115, 119, 105, 109, 109, 101, 114]),
  ("ArrayTrainerModel", 393, "guess", [103, 117, 101, 115, 115]),
  ("ArrayTrainerModel", 394, "take", [116, 97, 107, 101]),
  ("ArrayTrainerModel", 223, "write", [119, 114, 105, 116, 101]),
  ("ArrayTrainerModel", 225, "put", [112, 117, 116]),
  ("ArrayTrainerModel", 227, "copy", [99, 111, 112, 121]),
  ("ArrayTrainerModel", 229, "fill", [102, 105, 108, 108]),
  ("ArrayTrainerModel", 231, "swap", [115, 119, 97, 112]),
  ("ArrayTrainerModel", 233, "turn", [116, 117, 114, 110]),
  ("ArrayTrainerModel", 235, "mark", [109, 97, 114, 107]),
  ("ArrayTrainerModel", 385, "none", [110, 111, 110, 101]),
  ("ArrayTrainerModel", 189, "missing", [109, 105, 115, 115, 105, 110, 103]),
  ("ArrayTrainerModel", 191, "index", [105, 110, 100, 101, 120]),
  ("ArrayTrainerModel", 192, "size", [115, 105, 122, 101]),
  ("ArrayTrainerModel", 194, "store", [115, 116, 111, 114, 101]),
  ("ArrayTrainerModel", 196, "cast", [99, 97, 115, 116]),
  ("ArrayTrainerModel", 198, "unlike", [117, 110, 108, 105, 107, 101]),
  ("ArrayTrainerModel", 200, "large", [108, 97, 114, 103, 101]),
  ("ArrayTrainerModel", 147, "truth", [116, 114, 117, 116, 104]),
  ("ArrayTrainerModel", 149, "byte", [98, 121, 116, 101]),
  ("ArrayTrainerModel", 151, "short", [115, 104, 111, 114, 116]),
  ("ArrayTrainerModel", 153, "char", [99, 104, 97, 114]),
  ("ArrayTrainerModel", 155, "int", [105, 110, 116]),
  ("ArrayTrainerModel", 157, "long", [108, 111, 110, 103]),
  ("ArrayTrainerModel", 159, "float", [102, 108, 111, 97, 116]),
  ("ArrayTrainerModel", 161, "double", [100, 111, 117, 98, 108, 101]),
  ("ArrayTrainerModel", 163, "beast", [98, 101, 97, 115, 116]),
  ("ArrayTrainerModel", 165, "cat", [99, 97, 116]),
  ("ArrayTrainerModel", 167, "lion", [108, 105, 111, 110]),
  ("ArrayTrainerModel", 169, "dog", [100, 111, 103]),
  ("ArrayTrainerModel", 171, "bird", [98, 105, 114, 100]),
  ("ArrayTrainerModel", 173, "duck", [100, 117, 99, 107]),
  ("ArrayTrainerModel", 175, "bat", [98, 97, 116]),
  ("ArrayTrainerModel", 177, "flier", [102, 108, 105, 101, 114]),
  ("ArrayTrainerModel", 179, "swimmer", [115, 119, 105, 109, 109, 101, 114]),
  ("ArrayTrainerModel", 381, "true", [116, 114, 117, 101]),
  ("ArrayTrainerModel", 383, "false", [102, 97, 108, 115, 101]),
  ("ArrayTrainerModel", 205, "read", [114, 101, 97, 100]),
  ("ArrayTrainerModel", 207, "get", [103, 101, 116]),
  ("ArrayTrainerModel", 209, "new", [110, 101, 119]),
  ("ArrayTrainerModel", 211, "clone", [99, 108, 111, 110, 101]),
  ("ArrayTrainerModel", 213, "is", [105, 115]),
  ("ArrayTrainerModel", 215, "same", [115, 97, 109, 101]),
  ("ArrayTrainerModel", 217, "class", [99, 108, 97, 115, 115]),
  ("ArrayTrainerModel", 219, "hash", [104, 97, 115, 104]),
  ("ArrayTrainerModel", 221, "equal", [101, 113, 117, 97, 108]),
  ("ArrayTrainerModel", 422, "to", [116, 111]),
  ("ArrayTrainerModel", 429, "for", [102, 111, 114]),
  ("ArrayTrainerModel", 434, "with", [119, 105, 116, 104])]
def st_WIDENS : List Int32 := [1, 246, 244, 248, 240, 224, 192, 128]
def st_IS : List Int32 := [256, 768, 1792, 67840, 37120, 110848, 49408, 32768, 65536]
def st_LEAST : List Int64 := [0, (-128), (-32768), 0, (-2147483648), (-9223372036854775808), (-9223372036854775808), (-9223372036854775808)]
def st_GREATEST : List Int64 := [1, 127, 32767, 65535, 2147483647, 9223372036854775807, 9223372036854775807, 9223372036854775807]
/-- a String constant: its cell, its bytes, one a sign -/
def sStr (tx : List Int32) (a v : Nat) (A : Nat → Prop) (U : State) (H : Heap) : Prop := va_O "java/lang/String" a A U H ∧ va_OF "java/lang/String" "coder" "B" (.int 0) a A U H ∧ va_OF "java/lang/String" "value" "[B" (.ref v) a A U H ∧ va_T .byte v tx.length (fun j => .int (tx.getD j 0)) A U H
def sArr (K : Nat → Nat → Nat) (A : Nat → Prop) (U : State) (H : Heap) : Prop :=
  (va_Z "ArrayTrainer$Classes" "WIDENS" "[I" (.ref (K 2 0)) A U H ∧ va_T .int (K 2 0) 8 (fun j => .int (st_WIDENS.getD j 0)) A U H) ∧
  (va_Z "ArrayTrainer$Classes" "IS" "[I" (.ref (K 2 1)) A U H ∧ va_T .int (K 2 1) 9 (fun j => .int (st_IS.getD j 0)) A U H) ∧
  (va_Z "ArrayTrainer$Classes" "LEAST" "[J" (.ref (K 2 2)) A U H ∧ va_T .long (K 2 2) 8 (fun j => .long (st_LEAST.getD j 0)) A U H) ∧
  (va_Z "ArrayTrainer$Classes" "GREATEST" "[J" (.ref (K 2 3)) A U H ∧ va_T .long (K 2 3) 8 (fun j => .long (st_GREATEST.getD j 0)) A U H)
/-- what never changes: K 0, K 1: the constants' cells and rows, K 2: the static rows -/
def sEnv (K : Nat → Nat → Nat) (A : Nat → Prop) (U : State) (H : Heap) : Prop :=
  (∀ (i : Nat) (r : String × Nat × String × List Int32), sTab[i]? = some r → vk_R r.1 r.2.1 r.2.2.1 (K 0 i) U ∧ sStr r.2.2.2 (K 0 i) (K 1 i) A U H) ∧ va_Z "java/lang/String" "COMPACT_STRINGS" "Z" (.int 1) A U H ∧ sArr K A U H ∧ vx_Zq Bundle.tN "UNASSIGNED_STACK" Bundle.steD A U H ∧ vx_Zq Bundle.tN "SUPPRESSED_SENTINEL" Bundle.listD A U H
theorem sStr.moved {tx : List Int32} {a v : Nat} {A : Nat → Prop} {u U : State} {H : Heap} (hvm : u.vm.Alike U.vm) (h : sStr tx a v A u H) : sStr tx a v A U H := ⟨va_O.moved hvm h.1, va_OF.moved hvm h.2.1, va_OF.moved hvm h.2.2.1, va_T.moved hvm h.2.2.2⟩
theorem sStr.kept {tx : List Int32} {a v : Nat} {A : Nat → Prop} {U : State} {H H1 : Heap} (h : sStr tx a v A U H) (hq : ∀ a : Nat, a < H.size → ¬ A a → H1[a]? = H[a]?) : sStr tx a v A U H1 := ⟨h.1.kept hq, h.2.1.kept hq, h.2.2.1.kept hq, h.2.2.2.kept hq⟩
theorem sStr.narrow {tx : List Int32} {a v : Nat} {A B : Nat → Prop} {U : State} {H : Heap} (h : sStr tx a v A U H) (hAB : ∀ q, B q → A q) : sStr tx a v B U H := ⟨h.1.narrow hAB, h.2.1.narrow hAB, h.2.2.1.narrow hAB, h.2.2.2.narrow hAB⟩
theorem sArr.moved {K : Nat → Nat → Nat} {A : Nat → Prop} {u U : State} {H : Heap} (hvm : u.vm.Alike U.vm) (h : sArr K A u H) : sArr K A U H := ⟨⟨va_Z.moved hvm h.1.1, va_T.moved hvm h.1.2⟩, ⟨va_Z.moved hvm h.2.1.1, va_T.moved hvm h.2.1.2⟩, ⟨va_Z.moved hvm h.2.2.1.1, va_T.moved hvm h.2.2.1.2⟩, ⟨va_Z.moved hvm h.2.2.2.1, va_T.moved hvm h.2.2.2.2⟩⟩
theorem sArr.kept {K : Nat → Nat → Nat} {A : Nat → Prop} {U : State} {H H1 : Heap} (h : sArr K A U H) (hq : ∀ a : Nat, a < H.size → ¬ A a → H1[a]? = H[a]?) : sArr K A U H1 := ⟨⟨(h.1.1).kept hq, (h.1.2).kept hq⟩, ⟨(h.2.1.1).kept hq, (h.2.1.2).kept hq⟩, ⟨(h.2.2.1.1).kept hq, (h.2.2.1.2).kept hq⟩, ⟨(h.2.2.2.1).kept hq, (h.2.2.2.2).kept hq⟩⟩
theorem sArr.narrow {K : Nat → Nat → Nat} {A B : Nat → Prop} {U : State} {H : Heap} (h : sArr K A U H) (hAB : ∀ q, B q → A q) : sArr K B U H := ⟨⟨(h.1.1).narrow hAB, (h.1.2).narrow hAB⟩, ⟨(h.2.1.1).narrow hAB, (h.2.1.2).narrow hAB⟩, ⟨(h.2.2.1.1).narrow hAB, (h.2.2.1.2).narrow hAB⟩, ⟨(h.2.2.2.1).narrow hAB, (h.2.2.2.2).narrow hAB⟩⟩
theorem sEnv.warm {K : Nat → Nat → Nat} {A : Nat → Prop} {s U : State} {H : Heap} (hW : s.WarmedH U.vm) (h : sEnv K A s H) : sEnv K A U H := ⟨fun i r hr => ⟨vk_R.warm hW (h.1 i r hr).1, sStr.moved hW.alike (h.1 i r hr).2⟩, va_Z.moved hW.alike h.2.1, sArr.moved hW.alike h.2.2.1, vx_Zq.moved hW.alike h.2.2.2.1, vx_Zq.moved hW.alike h.2.2.2.2⟩
theorem sEnv.same {K : Nat → Nat → Nat} {A : Nat → Prop} {s U : State} {H : Heap} (hv : U.vm = s.vm) (h : sEnv K A s H) : sEnv K A U H := by
  have ha : s.vm.Alike U.vm := by rw [hv]; exact Vm.Alike.refl s.vm
  exact ⟨fun i r hr => ⟨vk_R.same hv (h.1 i r hr).1, sStr.moved ha (h.1 i r hr).2⟩, va_Z.moved ha h.2.1, sArr.moved ha h.2.2.1, vx_Zq.moved ha h.2.2.2.1, vx_Zq.moved ha h.2.2.2.2⟩
theorem sEnv.kept {K : Nat → Nat → Nat} {A : Nat → Prop} {U : State} {H H1 : Heap} (h : sEnv K A U H) (hq : ∀ a : Nat, a < H.size → ¬ A a → H1[a]? = H[a]?) : sEnv K A U H1 := ⟨fun i r hr => ⟨(h.1 i r hr).1, (h.1 i r hr).2.kept hq⟩, h.2.1.kept hq, h.2.2.1.kept hq, h.2.2.2.1.kept hq, h.2.2.2.2.kept hq⟩
theorem sEnv.narrow {K : Nat → Nat → Nat} {A B : Nat → Prop} {U : State} {H : Heap} (h : sEnv K A U H) (hAB : ∀ q, B q → A q) : sEnv K B U H := ⟨fun i r hr => ⟨(h.1 i r hr).1, (h.1 i r hr).2.narrow hAB⟩, h.2.1.narrow hAB, h.2.2.1.narrow hAB, h.2.2.2.1.narrow hAB, h.2.2.2.2.narrow hAB⟩
end Env0
