/-! slots, points, a fight more -/
section SIM3
variable {st dt : kM} {nF nC nE w : Nat} {x y z : Int32} {Ec : String}
theorem n12 {t : Nat} (h : t ≤ 12) : (nI t < 12) ↔ ¬ nI t = 12 := by
  have e : (12 : Int32) = nI 12 := by decide
  rw [e, nI_ltI (by omega) (by decide), nI_eq (by omega) (by decide)]
  omega
theorem sx_slot (R : dR st dt nF nC nE w) (h : (Ec = kIO ∧ ¬ (¬ x < 0 ∧ x < 6)) ∨ (Ec = kIO ∧ (¬ x < 0 ∧ x < 6) ∧ ¬ (¬ y < 0 ∧ y < 10)) ∨ (Ec = kIS ∧ (¬ x < 0 ∧ x < 6) ∧ (¬ y < 0 ∧ y < 10) ∧ ¬ (dt 34 x.toNatClampNeg &&& ((1 : Int32) <<< (y &&& 31)) = 0)) ∨ (Ec = kIS ∧ (¬ x < 0 ∧ x < 6) ∧ (¬ y < 0 ∧ y < 10) ∧ (dt 34 x.toNatClampNeg &&& ((1 : Int32) <<< (y &&& 31)) = 0) ∧ ¬ (dt 28 0 < 12))) : (Ec = kIO ∧ (mslot st x y).2 = ms st 0 1) ∨ (Ec = kIS ∧ (mslot st x y).2 = ms st 0 2) := by
  obtain ⟨t, ht, e28⟩ := R.mw.2.2.2.2.2.2.2.2.2.2.2
  rcases h with ⟨rfl, h⟩ | ⟨rfl, h1, h⟩ | ⟨rfl, h1, h2, h⟩ | ⟨rfl, h1, h2, h3, h⟩
  · exact Or.inl ⟨rfl, by rw [mslot, if_neg (fun q => h (in6.mpr q.1))]⟩
  · exact Or.inl ⟨rfl, by rw [mslot, if_neg (fun q => h (in10.mpr q.2))]⟩
  · refine Or.inr ⟨rfl, ?_⟩
    rw [mslot, if_pos ⟨in6.mp h1, in10.mp h2⟩]
    by_cases c : st 28 0 = 12
    · rw [if_pos c]
    · rw [if_neg c]
      obtain ⟨s, hs, rfl⟩ := nat_of (n := 6) h1.1 h1.2 (by decide)
      obtain ⟨p, hp, rfl⟩ := nat_of (n := 10) h2.1 h2.2 (by decide)
      rw [nI_clamp (by omega)] at h ⊢
      rw [nI_clamp (by omega), if_neg (fun q => h ((and_bit0 hp).mpr ((R.slo s hs p hp).mpr q)))]
  · refine Or.inr ⟨rfl, ?_⟩
    rw [R.e28, e28, n12 ht] at h
    rw [mslot, if_pos ⟨in6.mp h1, in10.mp h2⟩, e28, if_pos (Decidable.not_not.mp h)]
theorem sk_slot (R : dR st dt nF nC nE w) (h1 : ¬ x < 0 ∧ x < 6) (h2 : ¬ y < 0 ∧ y < 10) (h3 : dt 34 x.toNatClampNeg &&& ((1 : Int32) <<< (y &&& 31)) = 0) (h4 : dt 28 0 < 12) : (mslot st x y).2 0 0 = 0 ∧ dt 28 0 + 1 = (mslot st x y).1 ∧ dR (mslot st x y).2 (ms (ma dt 34 x.toNatClampNeg (dt 34 x.toNatClampNeg ||| ((1 : Int32) <<< (y &&& 31)))) 28 (dt 28 0 + 1)) nF nC nE w := by
  obtain ⟨m1, m2, m3, m4, m5, m6, m7, m8, m9, m10, m11, t, ht, e28⟩ := R.mw
  obtain ⟨s, hs, rfl⟩ := nat_of (n := 6) h1.1 h1.2 (by decide)
  obtain ⟨p, hp, rfl⟩ := nat_of (n := 10) h2.1 h2.2 (by decide)
  rw [nI_clamp (show s < 2 ^ 31 by omega)] at h3 ⊢
  have h27 := (R.slo s hs p hp).mp ((and_bit0 hp).mp h3)
  have h12 : ¬ st 28 0 = 12 := by rw [e28]; exact (n12 ht).mp (by rw [← e28, ← R.e28]; exact h4)
  have ht2 : t < 12 := by
    have z := (n12 ht).mpr (by rw [← e28]; exact h12)
    rw [show (12 : Int32) = nI 12 from by decide, nI_ltI (by omega) (by decide)] at z
    exact z
  rw [mslot, if_pos ⟨in6.mp h1, in10.mp h2⟩, if_neg h12, nI_clamp (show s < 2 ^ 31 by omega), nI_clamp (show p < 2 ^ 31 by omega), if_pos h27]
  refine ⟨rfl, by rw [R.e28], ?_⟩
  have hv : dt 28 0 + 1 = st 28 0 + 1 := by rw [R.e28]
  rw [hv]
  have e34 : ∀ k, ms (ma dt 34 s (dt 34 s ||| ((1 : Int32) <<< (nI p &&& 31)))) 28 (st 28 0 + 1) 34 k = if k = s then dt 34 s ||| ((1 : Int32) <<< (nI p &&& 31)) else dt 34 k := fun k => by simp [ma, ms, upd]
  have e27 : ∀ k, ms (ma (ms st 0 0) 27 (10 * s + p) 1) 28 (st 28 0 + 1) 27 k = if k = 10 * s + p then 1 else st 27 k := fun k => by simp [ma, ms, upd]
  have hmw : mwf (ms (ma (ms st 0 0) 27 (10 * s + p) 1) 28 (st 28 0 + 1)) nF nC nE w := ⟨m1, m2, m3, m4, m5, m6, m7, m8, m9, m10, m11, t + 1, by omega, by show st 28 0 + 1 = nI (t + 1); rw [e28, nI_1]⟩
  have hslo : ∀ s', s' < 6 → ∀ p', p' < 10 → ((bX (ms (ma dt 34 s (dt 34 s ||| ((1 : Int32) <<< (nI p &&& 31)))) 28 (st 28 0 + 1) 34 s')).testBit p' = false ↔ ms (ma (ms st 0 0) 27 (10 * s + p) 1) 28 (st 28 0 + 1) 27 (10 * s' + p') = 0) := by
    intro s' hs' p' hp'
    rw [e34, e27]
    by_cases c : s' = s
    · subst c
      rw [if_pos rfl, tb_orbit hp]
      by_cases d : p = p'
      · subst d
        rw [if_pos rfl]
        simp
      · rw [if_neg (by omega)]
        simp only [d, decide_false, Bool.or_false]
        exact R.slo s' hs' p' hp'
    · rw [if_neg c, if_neg (by omega)]
      exact R.slo s' hs' p' hp'
  exact dR_mk (mw := hmw) (dv := R.dv) (e2 := R.e2) (e3 := R.e3) (e28 := rfl) (eg := (eg_ms rfl (eg_mr rfl (eg_md rfl (eg_0 R.eg))))) (z6 := R.z6) (z13 := R.z13) (z25 := R.z25) (b25 := R.b25) (win := (fun p hp => winR_e (R.win p hp) rfl rfl)) (frm := R.frm) (f17 := R.f17) (blo := R.blo) (at_ := R.at_) (cnt := R.cnt) (slo := hslo) (o15 := R.o15) (o16 := R.o16) (cam := R.cam) (win9 := R.win9) (pts := R.pts)
theorem pts_e (R : dR st dt nF nC nE w) {o : Nat} (ho : o < nF) {e e' p : Int32} (h : ∀ k, k < nE → (e < st 24 k ↔ e' < st 24 k)) : ∀ n, n ≤ nE → dPts dt e o p n = ptsR st (nI o) p e' n
  | 0, _ => rfl
  | k + 1, hk => by
    have hF := R.mw.2.1
    have ih := pts_e R ho (p := p) h k (by omega)
    have hv : (dt 21 k).toNatClampNeg = o ↔ st 21 k = nI o := by
      rw [R.eg 21 rfl]
      have z : vp_in (st 21 k) nF := R.mw.2.2.2.2.2.2.2.2.2.1 k (by omega)
      have z1 : ¬ st 21 k < 0 := fun q => z (Or.inl q)
      obtain ⟨j, hj, ej⟩ := nI_of z1
      rw [ej, nI_clamp hj, nI_eq hj (by omega)]
    rw [dPts, ptsR, ih]
    by_cases c1 : (dt 21 k).toNatClampNeg = o
    · rw [if_pos c1, if_pos (hv.mp c1), R.eg 22 rfl, R.eg 23 rfl, R.eg 24 rfl, R.eg 25 rfl]
      by_cases c2 : st 22 k = p
      · rw [if_pos c2, if_pos c2]
        by_cases c3 : e < st 24 k
        · rw [if_pos c3, if_pos ((h k (by omega)).mp c3)]
          split <;> simp
        · rw [if_neg c3, if_neg (fun q => c3 ((h k (by omega)).mpr q))]
          by_cases c4 : st 25 k = 0
          · rw [if_pos c4, if_pos c4]
          · rw [if_neg c4, if_neg c4]; simp
      · rw [if_neg c2, if_neg c2]; simp
    · rw [if_neg c1, if_neg (fun q => c1 (hv.mpr q))]; simp
theorem at_now (R : dR st dt nF nC nE w) : ∀ k, k < nE → (nI w < st 24 k ↔ (3000 : Int32) < st 24 k) := by
  intro k hk
  obtain ⟨t, ht, e⟩ := R.at_ k hk
  have hw := R.mw.2.2.2.2.2.2.2.1
  rw [e]
  exact ⟨fun q => absurd q (nI_nlt ht (by omega)), fun q => absurd q (nI_nlt (show t ≤ 3000 by omega) (by decide))⟩
theorem sx_points (R : dR st dt nF nC nE w) {e : Int32} (h : (Ec = kIO ∧ ¬ (¬ x < 0 ∧ x < nI nF)) ∨ ∃ o, o < nF ∧ x = nI o ∧ (Ec = kIO ∧ ¬ (¬ y < 0 ∧ y < 10))) : Ec = kIO ∧ (mpoints st nE x y e).2 = ms st 0 1 := by
  have hF := R.mw.2.1
  rcases h with ⟨rfl, h⟩ | ⟨o, ho, rfl, rfl, h⟩
  · exact ⟨rfl, by rw [mpoints, mwf_F R.mw, if_neg (fun q => h ((inN (by omega)).mpr q.1))]⟩
  · exact ⟨rfl, by rw [mpoints, if_neg (fun q => h (in10.mpr q.2))]⟩
theorem sk_points (R : dR st dt nF nC nE w) {o : Nat} (ho : o < nF) (h : ¬ y < 0 ∧ y < 10) : (mpoints st nE (nI o) y 3000).2 = ms st 0 0 ∧ dPts dt (nI w) o y nE = (mpoints st nE (nI o) y 3000).1 := by
  have hF := R.mw.2.1
  rw [mpoints, mwf_F R.mw, if_pos ⟨(inN (by omega)).mp ⟨nI_pos (by omega), nI_lt ho (by omega)⟩, in10.mp h⟩]
  exact ⟨rfl, pts_e (dR_0 R 0) ho (at_now (dR_0 R 0)) nE (Nat.le_refl _)⟩
theorem sk_overlay (R : dR st dt nF nC nE w) {o : Nat} (ho : o < nF) (h : ¬ y < 0 ∧ y < 10) : (mpoints st nE (nI o) y (st 3 0)).2 = ms st 0 0 ∧ dPts dt (dt 3 0) o y nE = (mpoints st nE (nI o) y (st 3 0)).1 := by
  have hF := R.mw.2.1
  rw [mpoints, mwf_F R.mw, if_pos ⟨(inN (by omega)).mp ⟨nI_pos (by omega), nI_lt ho (by omega)⟩, in10.mp h⟩]
  exact ⟨rfl, pts_e (dR_0 R 0) ho (fun k _ => by rw [R.e3]) nE (Nat.le_refl _)⟩
end SIM3
