/-! ===== new rows of 768, by their number ===== -/
def isR (cZ : ClassId) (pl : va_W) (n : Nat) : Prop := pl.length = n ∧ ∀ q, q ∈ pl → ∃ g : Nat → Int32, q.2 = .inl (cZ, 768, .inl g)
abbrev PU : Type := (Nat → Nat → Nat → Option Nat) × va_W
theorem isR_one {cZ : ClassId} {pl : va_W} {n a : Nat} {g : Nat → Int32} (h : isR cZ pl n) : isR cZ ([(a, .inl (cZ, 768, .inl g))] ++ pl) (n + 1) := by
  refine ⟨by rw [List.length_append, h.1]; simp [Nat.add_comm], fun q hq => ?_⟩
  rcases List.mem_append.mp hq with h1 | h1
  · rw [List.mem_singleton] at h1
    exact ⟨g, by rw [h1]⟩
  · exact h.2 q h1
theorem isR_app {cZ : ClassId} {p q : va_W} {n k : Nat} (h : isR cZ p n) (h2 : isR cZ q k) : isR cZ (p ++ q) (n + k) := by
  refine ⟨by rw [List.length_append, h.1, h2.1], fun x hx => ?_⟩
  rcases List.mem_append.mp hx with h1 | h1
  · exact h.2 x h1
  · exact h2.2 x h1
