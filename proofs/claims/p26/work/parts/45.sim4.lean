/-! a camera more, an entry more -/
section SIM5
variable {st dt : kM} {nF nC nE w : Nat} {x y z : Int32} {Ec : String}
theorem n6_e (h : nC ≤ 6) : (¬ nI nC = 6) ↔ nC < 6 := by
  rw [show (6 : Int32) = nI 6 from by decide, nI_eq (by omega) (by decide)]
  omega
theorem n80_e (h : nE ≤ 80) : (¬ nI nE = 80) ↔ nE < 80 := by
  rw [show (80 : Int32) = nI 80 from by decide, nI_eq (by omega) (by decide)]
  omega
theorem sx_camera (R : dR st dt nF nC nE w) (h : (Ec = kIA ∧ ¬ (¬ x < 1 ∧ ¬ 60 < x)) ∨ (Ec = kIA ∧ (¬ x < 1 ∧ ¬ 60 < x) ∧ ¬ (¬ y < 0 ∧ ¬ 60 < y)) ∨ (Ec = kIS ∧ (¬ x < 1 ∧ ¬ 60 < x) ∧ (¬ y < 0 ∧ ¬ 60 < y) ∧ ¬ (nC < 6))) : (Ec = kIA ∧ (mcamera st nC x y).2 = ms st 0 1) ∨ (Ec = kIS ∧ (mcamera st nC x y).2 = ms st 0 2) := by
  rcases h with ⟨rfl, h⟩ | ⟨rfl, h1, h⟩ | ⟨rfl, h1, h2, h⟩
  · exact Or.inl ⟨rfl, by rw [mcamera, if_neg (fun q => h (inr_iff.mp q.1))]⟩
  · exact Or.inl ⟨rfl, by rw [mcamera, if_neg (fun q => h (inr_iff.mp q.2))]⟩
  · exact Or.inr ⟨rfl, by rw [mcamera, if_pos ⟨inr_iff.mpr h1, inr_iff.mpr h2⟩, mwf_C R.mw, if_pos (Decidable.not_not.mp (fun q => h ((n6_e R.mw.2.2.2.1).mp q)))]⟩
theorem sk_camera (R : dR st dt nF nC nE w) (h1 : ¬ x < 1 ∧ ¬ 60 < x) (h2 : ¬ y < 0 ∧ ¬ 60 < y) (hn : nC < 6) : (mcamera st nC x y).2 0 0 = 0 ∧ nI nC = (mcamera st nC x y).1 ∧ dR (mcamera st nC x y).2 (dCamN dt nC x y) nF (nC + 1) nE w := by
  rw [mcamera, if_pos ⟨inr_iff.mpr h1, inr_iff.mpr h2⟩, mwf_C R.mw, if_neg ((n6_e R.mw.2.2.2.1).mpr hn)]
  refine ⟨rfl, rfl, ?_⟩
  obtain ⟨m1, m2, m3, m4, m5, m6, m7, m8, m9, m10, m11, m12⟩ := R.mw
  obtain ⟨q1, q2, q3, q4, q5, q6, q7, q8, q9, q10, q11⟩ := R.dv
  obtain ⟨s, hs, hx⟩ := inr_low (l := 1) (m := 60) (by decide) (by decide) (inr_t h1.1 h1.2)
  obtain ⟨r, hr, hy⟩ := inr_nat (m := 60) (by decide) (inr_t h2.1 h2.2)
  have s11 : ∀ k, ms (ma (ma (ms st 0 0) 11 nC x) 12 nC y) 10 (nI (nC + 1)) 11 k = if k = nC then x else st 11 k := fun k => by simp [ms, ma, upd]
  have s12 : ∀ k, ms (ma (ma (ms st 0 0) 11 nC x) 12 nC y) 10 (nI (nC + 1)) 12 k = if k = nC then y else st 12 k := fun k => by simp [ms, ma, upd]
  have d11 : ∀ k, dCamN dt nC x y 11 k = if k = nC then x else dt 11 k := fun k => by simp [dCamN, ms, ma, upd]
  have d12 : ∀ k, dCamN dt nC x y 12 k = if k = nC then y else dt 12 k := fun k => by simp [dCamN, ms, ma, upd]
  have d13 : ∀ k, dCamN dt nC x y 13 k = if k = nC then 0 else dt 13 k := fun k => by simp [dCamN, ms, ma, upd]
  have d14 : ∀ k, dCamN dt nC x y 14 k = if k = nC then 0 else dt 14 k := fun k => by simp [dCamN, ms, ma, upd]
  have hmw : mwf (ms (ma (ma (ms st 0 0) 11 nC x) 12 nC y) 10 (nI (nC + 1))) nF (nC + 1) nE w := ⟨m1, m2, rfl, by omega, m5, m6, m7, m8, m9, m10, m11.imp id (fun ⟨c, h, e⟩ => ⟨c, by omega, e⟩), m12⟩
  have hdv : dwf (dCamN dt nC x y) nF (nC + 1) nE w := ⟨q1, q2, rfl, by omega, q5, q6, q7, q8, q9, q10, q11⟩
  have heg : ∀ g, shg g = true → dCamN dt nC x y g = ms (ma (ma (ms st 0 0) 11 nC x) 12 nC y) 10 (nI (nC + 1)) g := by
    intro g hg
    funext k
    by_cases c1 : g = 11
    · subst c1; rw [d11, s11, R.eg 11 rfl]
    by_cases c2 : g = 12
    · subst c2; rw [d12, s12, R.eg 12 rfl]
    by_cases c3 : g = 13
    · subst c3
      rw [d13]
      show _ = st 13 k
      by_cases c : k = nC
      · rw [if_pos c, c, (R.z13 nC (Nat.le_refl _)).1]
      · rw [if_neg c, R.eg 13 rfl]
    by_cases c4 : g = 14
    · subst c4
      rw [d14]
      show _ = st 14 k
      by_cases c : k = nC
      · rw [if_pos c, c, (R.z13 nC (Nat.le_refl _)).2]
      · rw [if_neg c, R.eg 14 rfl]
    have c10 : g ≠ 10 := fun z => by rw [z] at hg; exact absurd hg (by decide)
    have c41 : g ≠ 41 := fun z => by rw [z] at hg; exact absurd hg (by decide)
    have c0 : g ≠ 0 := fun z => by rw [z] at hg; exact absurd hg (by decide)
    simp [dCamN, ms, ma, c1, c2, c3, c4, c10, c41, c0, R.eg g hg]
  have hcam : ∀ k, k < nC + 1 → ∃ s r i o : Nat, ms (ma (ma (ms st 0 0) 11 nC x) 12 nC y) 10 (nI (nC + 1)) 11 k = nI s ∧ ms (ma (ma (ms st 0 0) 11 nC x) 12 nC y) 10 (nI (nC + 1)) 12 k = nI r ∧ st 13 k = nI i ∧ st 14 k = nI o ∧ (1 ≤ s ∧ s ≤ 60 ∧ r ≤ 60 ∧ o ≤ 60 ∧ i ≤ 60 ∧ (o = 0 → i < s)) := by
    intro k hk
    rw [s11, s12]
    by_cases c : k = nC
    · rw [if_pos c, if_pos c, c]
      exact ⟨s, r, 0, 0, hx, hy, (R.z13 nC (Nat.le_refl _)).1, (R.z13 nC (Nat.le_refl _)).2, by omega⟩
    · rw [if_neg c, if_neg c]
      exact R.cam k (by omega)
  exact dR_mk (mw := hmw) (dv := hdv) (e2 := R.e2) (e3 := R.e3) (e28 := R.e28) (eg := heg) (z6 := R.z6) (z13 := (fun k hk => R.z13 k (by omega))) (z25 := R.z25) (b25 := R.b25) (win := (fun p hp => winR_e (R.win p hp) rfl rfl)) (frm := R.frm) (f17 := R.f17) (blo := R.blo) (at_ := R.at_) (cnt := R.cnt) (slo := R.slo) (o15 := R.o15) (o16 := R.o16) (cam := hcam) (win9 := R.win9) (pts := R.pts)
theorem isof_e (R : dR st dt nF nC nE w) {o : Nat} : (¬ dIsOf dt o y = 0) ↔ (st 7 o = y ∨ st 8 o = y) := by
  rw [← R.eg 7 rfl, ← R.eg 8 rfl, ← dIsOf_1]
  rcases dIsOf01 dt o y with h | h <;> rw [h] <;> decide
theorem sx_blow (R : dR st dt nF nC nE w) (h : (Ec = kIO ∧ ¬ (¬ x < 0 ∧ x < nI nF)) ∨ ∃ o, o < nF ∧ x = nI o ∧ ((Ec = kIO ∧ ¬ (¬ y < 0 ∧ y < 10)) ∨ (Ec = kIA ∧ (¬ y < 0 ∧ y < 10) ∧ ¬ (¬ z < 1 ∧ ¬ 9 < z)) ∨ (Ec = kIA ∧ (¬ y < 0 ∧ y < 10) ∧ (¬ z < 1 ∧ ¬ 9 < z) ∧ ¬ (¬ dIsOf dt o y = 0)) ∨ (Ec = kIS ∧ (¬ y < 0 ∧ y < 10) ∧ (¬ z < 1 ∧ ¬ 9 < z) ∧ (¬ dIsOf dt o y = 0) ∧ ¬ (dt 6 o = 0)) ∨ (Ec = kIS ∧ (¬ y < 0 ∧ y < 10) ∧ (¬ z < 1 ∧ ¬ 9 < z) ∧ (¬ dIsOf dt o y = 0) ∧ (dt 6 o = 0) ∧ ¬ (nE < 80)))) : (Ec = kIO ∧ (mblow st nE x y z).2 = ms st 0 1) ∨ (Ec = kIA ∧ (mblow st nE x y z).2 = ms st 0 2) ∨ (Ec = kIS ∧ (mblow st nE x y z).2 = ms st 0 3) := by
  have hF := R.mw.2.1
  rcases h with ⟨rfl, h⟩ | ⟨o, ho, rfl, h⟩
  · exact Or.inl ⟨rfl, by rw [mblow, mwf_F R.mw, if_neg (fun q => h ((inN (by omega)).mpr q.1))]⟩
  · have hI : inr (nI o) 0 (nI nF - 1) = true := (inN (by omega)).mp ⟨nI_pos (by omega), nI_lt ho (by omega)⟩
    rcases h with ⟨rfl, h⟩ | ⟨rfl, h1, h⟩ | ⟨rfl, h1, h2, h⟩ | ⟨rfl, h1, h2, h3, h⟩ | ⟨rfl, h1, h2, h3, h4, h⟩
    · exact Or.inl ⟨rfl, by rw [mblow, if_neg (fun q => h (in10.mpr q.2))]⟩
    · exact Or.inr (Or.inl ⟨rfl, by rw [mblow, mwf_F R.mw, if_pos ⟨hI, in10.mp h1⟩, if_neg (fun q => h (inr_iff.mp q.1))]⟩)
    · exact Or.inr (Or.inl ⟨rfl, by rw [mblow, mwf_F R.mw, if_pos ⟨hI, in10.mp h1⟩, nI_clamp (by omega), if_neg (fun q => h ((isof_e R).mpr q.2))]⟩)
    · exact Or.inr (Or.inr ⟨rfl, by rw [mblow, mwf_F R.mw, if_pos ⟨hI, in10.mp h1⟩, nI_clamp (by omega), if_pos ⟨inr_iff.mpr h2, (isof_e R).mp h3⟩, if_neg (fun q => h (by rw [R.eg 6 rfl]; exact q.1))]⟩)
    · exact Or.inr (Or.inr ⟨rfl, by rw [mblow, mwf_F R.mw, if_pos ⟨hI, in10.mp h1⟩, nI_clamp (by omega), if_pos ⟨inr_iff.mpr h2, (isof_e R).mp h3⟩, if_neg (fun q => h ((n80_e R.mw.2.2.2.2.2.1).mp (by rw [← mwf_E R.mw]; exact q.2)))]⟩)
end SIM5
