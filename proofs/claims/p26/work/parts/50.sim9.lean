/-! the leaders: places are apart -/
section SIM9
variable {st dt : kM} {nF nC nE w : Nat} {x y z : Int32} {Ec : String}
theorem dPla_e (R : dR st dt nF nC nE w) {k : Nat} (hk : k < 10) : ∀ n, n ≤ 10 → dPla dt k n = aheR st nF k n
  | 0, _ => rfl
  | j + 1, hj => by
    have ih := dPla_e R hk j (by omega)
    rw [dPla, aheR, ih, R.win k hk, R.win j (by omega)]
    by_cases c1 : winR st (nI k) nF < winR st (nI j) nF
    · rw [if_pos c1, if_pos c1]
    · rw [if_neg c1, if_neg c1]
      by_cases c2 : winR st (nI j) nF = winR st (nI k) nF
      · rw [if_pos c2, if_pos c2]
        by_cases c3 : nI j < nI k
        · rw [if_pos c3, if_pos c3]
        · rw [if_neg c3, if_neg c3]; simp
      · rw [if_neg c2, if_neg c2]; simp
end SIM9
