/-! frames uncounted, entries struck -/
theorem dUnc_19f (dt : kM) (o : Nat) : ∀ n, dUnc dt o n 19 = uncA dt (nI o) n
  | 0 => by funext k; simp [dUnc, uncA]
  | n + 1 => by
    have ih := dUnc_19f dt o n
    have up : ∀ k, uncA dt (nI o) (n + 1) k = if k = n then (if dt 17 n = nI o then -1 else dt 19 n) else uncA dt (nI o) n k := by
      intro k
      unfold uncA
      by_cases c : k = n
      · subst c; simp
      · by_cases d : k < n
        · simp [c, d, show k < n + 1 by omega]
        · simp [c, d, show ¬ k < n + 1 by omega]
    have at_n : uncA dt (nI o) n n = dt 19 n := by unfold uncA; rw [if_neg (Nat.lt_irrefl _)]
    funext k
    rw [up, dUnc]
    by_cases c1 : dt 17 n = nI o
    · rw [if_pos c1]
      by_cases c2 : dt 19 n = -1
      · rw [if_pos c2, ih]
        by_cases c : k = n
        · rw [if_pos c, if_pos c1, c, at_n, c2]
        · rw [if_neg c]
      · rw [if_neg c2]
        by_cases c : k = n
        · rw [if_pos c, if_pos c1, c]; simp [ma, upd]
        · rw [if_neg c, ← ih]; simp [ma, upd, c]
    · rw [if_neg c1, ih]
      by_cases c : k = n
      · rw [if_pos c, if_neg c1, c, at_n]
      · rw [if_neg c]
theorem dUnc_33 (dt : kM) (o w : Nat) (hsp : ∀ k, k < w → dt 19 k = -1 ∨ vp_in (dt 19 k) 6) {s : Nat} (hs : s < 6) : ∀ n, n ≤ w → dUnc dt o n 33 s + cntR (dt 19) (nI s) n = dt 33 s + cntR (uncA dt (nI o) w) (nI s) n
  | 0, _ => rfl
  | n + 1, hn => by
    have ih := dUnc_33 dt o w hsp hs n (by omega)
    have un : uncA dt (nI o) w n = if dt 17 n = nI o then -1 else dt 19 n := by unfold uncA; rw [if_pos (by omega)]
    rw [cntR, cntR, un, dUnc]
    by_cases c1 : dt 17 n = nI o
    · rw [if_pos c1, if_pos c1, if_neg (m1_ne (by omega))]
      by_cases c2 : dt 19 n = -1
      · rw [if_pos c2, c2, if_neg (m1_ne (by omega)), ← Int32.add_assoc, ih, Int32.add_assoc]
      · rw [if_neg c2]
        have hv := (hsp n (by omega)).resolve_left c2
        have z1 : ¬ dt 19 n < 0 := fun q => hv (Or.inl q)
        obtain ⟨j, hj, ej⟩ := nI_of z1
        rw [ej, nI_clamp hj]
        have e33 : ma (ma (dUnc dt o n) 33 j (dUnc dt o n 33 j - 1)) 19 n (-1) 33 s = if s = j then dUnc dt o n 33 j - 1 else dUnc dt o n 33 s := by simp [ma, upd]
        rw [e33]
        by_cases c : s = j
        · subst c
          rw [if_pos rfl, if_pos rfl, Int32.add_zero, ← ih]
          rw [Int32.sub_eq_add_neg, Int32.add_assoc, Int32.add_comm (-1), Int32.add_assoc, show (1 : Int32) + -1 = 0 from by decide, Int32.add_zero]
        · rw [if_neg c, if_neg (fun q => c ((nI_eq (by omega) hj).mp q.symm)), Int32.add_zero, Int32.add_zero, ih]
    · rw [if_neg c1, if_neg c1, ← Int32.add_assoc, ih, Int32.add_assoc]
