def ct (p : Nat → Bool) : Nat → Nat
  | 0 => 0
  | n + 1 => ct p n + (if p n = true then 1 else 0)
theorem ct_s (p : Nat → Bool) (n : Nat) : ct p (n + 1) = ct p n + (if p n = true then 1 else 0) := rfl
theorem ct_le {p q : Nat → Bool} : ∀ {n : Nat}, (∀ k, k < n → p k = true → q k = true) → ct p n ≤ ct q n
  | 0, _ => Nat.le_refl _
  | n + 1, h => by
    have ih := ct_le (p := p) (q := q) (n := n) (fun k hk => h k (by omega))
    have hn := h n (by omega)
    rw [ct_s, ct_s]
    by_cases c : p n = true
    · rw [if_pos c, if_pos (hn c)]; omega
    · rw [if_neg c]; split <;> omega
theorem ct_lt {p q : Nat → Bool} {i : Nat} (hp : p i = false) (hq : q i = true) : ∀ {n : Nat}, i < n → (∀ k, k < n → p k = true → q k = true) → ct p n < ct q n
  | 0, h, _ => absurd h (Nat.not_lt_zero _)
  | n + 1, hi, h => by
    rw [ct_s, ct_s]
    by_cases e : i = n
    · subst e
      have ih := ct_le (p := p) (q := q) (n := i) (fun k hk => h k (by omega))
      rw [if_neg (by rw [hp]; decide), if_pos hq]; omega
    · have ih := ct_lt hp hq (n := n) (by omega) (fun k hk => h k (by omega))
      have hn := h n (by omega)
      by_cases c : p n = true
      · rw [if_pos c, if_pos (hn c)]; omega
      · rw [if_neg c]; split <;> omega
theorem ct_n (p : Nat → Bool) : ∀ n, ct p n ≤ n
  | 0 => Nat.le_refl _
  | n + 1 => by
    have := ct_n p n
    rw [ct_s]
    split <;> omega
/-- who stands ahead of whom -/
def bt (st : kM) (nF j k : Nat) : Bool := decide (winR st (nI k) nF < winR st (nI j) nF) || (decide (winR st (nI j) nF = winR st (nI k) nF) && decide (j < k))
theorem aheR_ct (st : kM) (nF : Nat) {k : Nat} (hk : k < 10) : ∀ n, n ≤ 10 → aheR st nF k n = nI (ct (fun j => bt st nF j k) n)
  | 0, _ => rfl
  | j + 1, hj => by
    rw [aheR, aheR_ct st nF hk j (by omega), ct_s, ← nI_add]
    congr 1
    unfold bt
    by_cases c1 : winR st (nI k) nF < winR st (nI j) nF
    · simp [c1]; rfl
    · by_cases c2 : winR st (nI j) nF = winR st (nI k) nF
      · rw [if_neg c1, if_pos c2]
        by_cases c3 : j < k
        · rw [if_pos (nI_lt c3 (by omega))]; simp [c2, c3]; rfl
        · rw [if_neg (nI_nlt (by omega) (by omega))]; simp [c2, c3]; rfl
      · simp [c1, c2]; rfl
theorem bt_total (st : kM) (nF : Nat) {j k : Nat} (h : j ≠ k) : bt st nF j k = true ∨ bt st nF k j = true := by
  unfold bt
  simp only [Bool.or_eq_true, Bool.and_eq_true, decide_eq_true_eq]
  rw [kI_lt, kI_lt, kI_eq, kI_eq]
  omega
theorem bt_trans (st : kM) (nF : Nat) {i j k : Nat} (h1 : bt st nF i j = true) (h2 : bt st nF j k = true) : bt st nF i k = true := by
  unfold bt at *
  simp only [Bool.or_eq_true, Bool.and_eq_true, decide_eq_true_eq] at *
  rw [kI_lt, kI_eq] at *
  omega
theorem bt_irr (st : kM) (nF k : Nat) : bt st nF k k = false := by
  unfold bt
  simp [Int32.lt_irrefl]
