theorem ph_on : ∀ (n : Nat) (f : Nat → Nat), (∀ i, i < n → f i < n) → (∀ i j, i < n → j < n → f i = f j → i = j) → ∀ y, y < n → ∃ i, i < n ∧ f i = y
  | 0, _, _, _, y, hy => absurd hy (Nat.not_lt_zero _)
  | n + 1, f, h1, h2, y, hy => by
    refine Classical.byContradiction (fun hno => ?_)
    have hno2 : ∀ i, i < n + 1 → f i ≠ y := fun i hi e => hno ⟨i, hi, e⟩
    have key : ∃ g : Nat → Nat, (∀ i, i < n + 1 → g i < n) ∧ (∀ i j, i < n + 1 → j < n + 1 → g i = g j → i = j) := by
      by_cases c : y = n
      · refine ⟨f, fun i hi => ?_, h2⟩
        have a1 := h1 i hi
        have a2 := hno2 i hi
        omega
      · refine ⟨fun i => if f i = n then y else f i, fun i hi => ?_, fun i j hi hj e => ?_⟩
        · have a1 := h1 i hi
          show (if f i = n then y else f i) < n
          split <;> omega
        · have e : (if f i = n then y else f i) = (if f j = n then y else f j) := e
          have b1 := hno2 i hi
          have b2 := hno2 j hj
          refine h2 i j hi hj ?_
          by_cases d1 : f i = n <;> by_cases d2 : f j = n
          · omega
          · rw [if_pos d1, if_neg d2] at e; exact absurd e.symm b2
          · rw [if_neg d1, if_pos d2] at e; exact absurd e b1
          · rw [if_neg d1, if_neg d2] at e; exact e
    obtain ⟨g, g1, g2⟩ := key
    obtain ⟨i, hi, e⟩ := ph_on n g (fun i hi => g1 i (by omega)) (fun i j hi hj => g2 i j (by omega) (by omega)) (g n) (g1 n (by omega))
    have := g2 i n (by omega) (by omega) e
    omega
