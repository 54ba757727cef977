theorem gSW {w0 : Cond} {own : String} {idx : Nat} {y : MethodName} {c : ByteArray} {n : Nat} {r : Option FieldType} {hh : List (Nat × Nat × Nat × Nat)} (h1 : .methodLink own idx y ∈ wsL_law) (h2 : .static y ∈ wsL_law) (h4 : .initialized y.cls ∈ wsL_law) (h5 : .codeWith y c n r hh ∈ wsL_law) : GoodIn (w0 :: wsL_law) (va_wsS own idx y (wGW y c n r hh)) := by
  refine gIn (fun w hw => ?_)
  rcases List.mem_append.mp hw with h | h
  · simp only [List.mem_cons, List.not_mem_nil, or_false] at h
    rcases h with rfl | rfl | rfl
    · exact h1
    · exact h2
    · exact h4
  · rcases List.mem_cons.mp h with rfl | h
    · exact h5
    · exact h
