section SIM10
variable {st dt : kM} {nF nC nE w : Nat} {x y z : Int32} {Ec : String}
def plc (st : kM) (nF k : Nat) : Nat := ct (fun j => bt st nF j k) 10
theorem ct_all : ∀ n, ct (fun _ => true) n = n
  | 0 => rfl
  | n + 1 => by rw [ct_s, ct_all n, if_pos rfl]
theorem plc_lt (st : kM) (nF : Nat) {k : Nat} (hk : k < 10) : plc st nF k < 10 := by
  have z := ct_lt (p := fun j => bt st nF j k) (q := fun _ => true) (i := k) (bt_irr st nF k) rfl (n := 10) hk (fun _ _ _ => rfl)
  rw [ct_all] at z
  exact z
theorem plc_ne (st : kM) (nF : Nat) {i k : Nat} (hi : i < 10) (hk : k < 10) (h : plc st nF i = plc st nF k) : i = k := by
  refine Classical.byContradiction (fun hne => ?_)
  rcases bt_total st nF hne with c | c
  · have z := ct_lt (p := fun j => bt st nF j i) (q := fun j => bt st nF j k) (i := i) (bt_irr st nF i) c (n := 10) hi (fun j _ hj => bt_trans st nF hj c)
    unfold plc at h
    omega
  · have z := ct_lt (p := fun j => bt st nF j k) (q := fun j => bt st nF j i) (i := k) (bt_irr st nF k) c (n := 10) hk (fun j _ hj => bt_trans st nF hj c)
    unfold plc at h
    omega
theorem leaR_at (st : kM) (nF : Nat) {p k : Nat} (hk : k < 10) (h : plc st nF k = p) : ∀ n, k < n → n ≤ 10 → leaR st nF (nI p) n = nI k
  | 0, hn, _ => absurd hn (Nat.not_lt_zero _)
  | n + 1, hn, h10 => by
    rw [leaR, aheR_ct st nF (by omega) 10 (Nat.le_refl _)]
    by_cases c : n = k
    · subst c; rw [if_pos (by rw [← h]; rfl)]
    · have hne : ¬ nI (ct (fun j => bt st nF j n) 10) = nI p := by
        intro e
        have e2 : plc st nF n = p := (nI_eq (Nat.lt_trans (plc_lt st nF (show n < 10 by omega)) (by decide)) (by have := plc_lt st nF hk; omega)).mp e
        exact c (plc_ne st nF (by omega) hk (e2.trans h.symm))
      rw [if_neg hne]
      exact leaR_at st nF hk h n (by omega) (by omega)
theorem sx_leader (R : dR st dt nF nC nE w) (h : Ec = kIO ∧ ¬ (¬ x < 0 ∧ x < 10)) : Ec = kIO ∧ (mleader st nF x).2 = ms st 0 1 := ⟨h.1, by rw [mleader, if_neg (fF in10 h.2)]⟩
theorem sk_leader (R : dR st dt nF nC nE w) (h : ¬ x < 0 ∧ x < 10) {j : Nat} (hj : j < 10) (h1 : j = 9 ∨ dPla dt j 10 = x) (h2 : ∀ m, m < j → ¬ dPla dt m 10 = x) : (mleader st nF x).2 = ms st 0 0 ∧ nI j = (mleader st nF x).1 := by
  rw [mleader, if_pos (in10.mp h)]
  refine ⟨rfl, ?_⟩
  obtain ⟨p, hp, rfl⟩ := nat_of (n := 10) h.1 h.2 (by decide)
  have R0 := dR_0 R 0
  have hpl : ∀ k, k < 10 → dPla dt k 10 = nI (plc (ms st 0 0) nF k) := fun k hk => (dPla_e R0 hk 10 (Nat.le_refl _)).trans (aheR_ct (ms st 0 0) nF hk 10 (Nat.le_refl _))
  obtain ⟨k, hk, e⟩ := ph_on 10 (plc (ms st 0 0) nF) (fun i hi => plc_lt _ _ hi) (fun i j hi hj => plc_ne _ _ hi hj) p hp
  have hkj : k = j := by
    rcases h1 with rfl | h1
    · by_cases c : k < 9
      · exact absurd (by rw [hpl k hk, e]) (h2 k c)
      · omega
    · rw [hpl j hj] at h1
      have e2 : plc (ms st 0 0) nF j = p := (nI_eq (by have := plc_lt (ms st 0 0) nF hj; omega) (by omega)).mp h1
      exact plc_ne _ _ hk hj (e.trans e2.symm)
  rw [leaR_at (ms st 0 0) nF hk e 10 hk (Nat.le_refl _), hkj]
end SIM10
