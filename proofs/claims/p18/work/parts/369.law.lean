section Law0
theorem ICp.nn {c : Int} (h : ICp c) : 0 ≤ c := h.1
end Law0
