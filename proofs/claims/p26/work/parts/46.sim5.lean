/-! an entry more -/
section SIM6
variable {st dt : kM} {nF nC nE w : Nat} {x y z : Int32} {Ec : String}
theorem sk_blow (R : dR st dt nF nC nE w) {o : Nat} (ho : o < nF) (h1 : ¬ y < 0 ∧ y < 10) (h2 : ¬ z < 1 ∧ ¬ 9 < z) (h3 : ¬ dIsOf dt o y = 0) (h4 : dt 6 o = 0) (hn : nE < 80) : (mblow st nE (nI o) y z).2 0 0 = 0 ∧ nI nE = (mblow st nE (nI o) y z).1 ∧ dR (mblow st nE (nI o) y z).2 (dEnt (ma dt 32 o (dt 32 o ||| 1)) nE (nI o) y (nI w) z) nF nC (nE + 1) w := by
  have hF := R.mw.2.1
  have hw := R.mw.2.2.2.2.2.2.2.1
  have hI : inr (nI o) 0 (nI nF - 1) = true := (inN (by omega)).mp ⟨nI_pos (by omega), nI_lt ho (by omega)⟩
  rw [mblow, mwf_F R.mw, if_pos ⟨hI, in10.mp h1⟩, nI_clamp (by omega), if_pos ⟨inr_iff.mpr h2, (isof_e R).mp h3⟩, if_pos ⟨by rw [← R.eg 6 rfl]; exact h4, by rw [mwf_E R.mw]; exact (n80_e R.mw.2.2.2.2.2.1).mpr hn⟩]
  refine ⟨rfl, rfl, ?_⟩
  obtain ⟨m1, m2, m3, m4, m5, m6, m7, m8, m9, m10, m11, m12⟩ := R.mw
  obtain ⟨q1, q2, q3, q4, q5, q6, q7, q8, q9, q10, q11⟩ := R.dv
  obtain ⟨p, hp, hz⟩ := inr_low (l := 1) (m := 9) (by decide) (by decide) (inr_t h2.1 h2.2)
  rw [m7]
  have S : ∀ g k, ms (ma (ma (ma (ma (ms st 0 0) 21 nE (nI o)) 22 nE y) 23 nE z) 24 nE (nI w)) 20 (nI (nE + 1)) g k = if g = 20 then nI (nE + 1) else if g = 24 then (if k = nE then nI w else st 24 k) else if g = 23 then (if k = nE then z else st 23 k) else if g = 22 then (if k = nE then y else st 22 k) else if g = 21 then (if k = nE then nI o else st 21 k) else if g = 0 then 0 else st g k := by
    intro g k
    by_cases a0 : g = 20
    · subst a0; rfl
    by_cases a1 : g = 24
    · subst a1; simp [ms, ma, upd]
    by_cases a2 : g = 23
    · subst a2; simp [ms, ma, upd]
    by_cases a3 : g = 22
    · subst a3; simp [ms, ma, upd]
    by_cases a4 : g = 21
    · subst a4; simp [ms, ma, upd]
    simp [ms, ma, upd, a0, a1, a2, a3, a4]
    by_cases a5 : g = 0 <;> simp [a5]
  have s21 : ∀ k, ms (ma (ma (ma (ma (ms st 0 0) 21 nE (nI o)) 22 nE y) 23 nE z) 24 nE (nI w)) 20 (nI (nE + 1)) 21 k = if k = nE then nI o else st 21 k := fun k => by rw [S]; rfl
  have s23 : ∀ k, ms (ma (ma (ma (ma (ms st 0 0) 21 nE (nI o)) 22 nE y) 23 nE z) 24 nE (nI w)) 20 (nI (nE + 1)) 23 k = if k = nE then z else st 23 k := fun k => by rw [S]; rfl
  have s24 : ∀ k, ms (ma (ma (ma (ma (ms st 0 0) 21 nE (nI o)) 22 nE y) 23 nE z) 24 nE (nI w)) 20 (nI (nE + 1)) 24 k = if k = nE then nI w else st 24 k := fun k => by rw [S]; rfl
  have hvo : vp_in (nI o) nF := vp_in_nI ho (by omega)
  generalize hst : ms (ma (ma (ma (ma (ms st 0 0) 21 nE (nI o)) 22 nE y) 23 nE z) 24 nE (nI w)) 20 (nI (nE + 1)) = st' at S s21 s23 s24 ⊢
  have sO : ∀ g, g ≠ 20 → g ≠ 24 → g ≠ 23 → g ≠ 22 → g ≠ 21 → g ≠ 0 → st' g = st g := fun g a0 a1 a2 a3 a4 a5 => by funext k; rw [S, if_neg a0, if_neg a1, if_neg a2, if_neg a3, if_neg a4, if_neg a5]
  have d32 : ∀ k, dEnt (ma dt 32 o (dt 32 o ||| 1)) nE (nI o) y (nI w) z 32 k = if k = o then dt 32 o ||| 1 else dt 32 k := fun k => by simp [dEnt, ms, ma, upd]
  have dO : ∀ g, g ≠ 20 → g ≠ 24 → g ≠ 23 → g ≠ 22 → g ≠ 21 → g ≠ 25 → g ≠ 42 → g ≠ 32 → dEnt (ma dt 32 o (dt 32 o ||| 1)) nE (nI o) y (nI w) z g = dt g := fun g a0 a1 a2 a3 a4 a5 a6 a7 => by simp [dEnt, ms, ma, a0, a1, a2, a3, a4, a5, a6, a7]
  have d21 : ∀ k, dEnt (ma dt 32 o (dt 32 o ||| 1)) nE (nI o) y (nI w) z 21 k = if k = nE then nI o else dt 21 k := fun k => by simp [dEnt, ms, ma, upd]
  have hmw : mwf st' nF nC (nE + 1) w := by
    unfold mwf
    rw [sO 5 (by decide) (by decide) (by decide) (by decide) (by decide) (by decide), sO 10 (by decide) (by decide) (by decide) (by decide) (by decide) (by decide), sO 1 (by decide) (by decide) (by decide) (by decide) (by decide) (by decide), sO 7 (by decide) (by decide) (by decide) (by decide) (by decide) (by decide), sO 8 (by decide) (by decide) (by decide) (by decide) (by decide) (by decide), sO 15 (by decide) (by decide) (by decide) (by decide) (by decide) (by decide), sO 28 (by decide) (by decide) (by decide) (by decide) (by decide) (by decide)]
    refine ⟨m1, m2, m3, m4, by rw [S]; rfl, by omega, m7, m8, m9, fun k hk => ?_, m11, m12⟩
    rw [s21]
    by_cases c : k = nE
    · rw [if_pos c]; exact hvo
    · rw [if_neg c]; exact m10 k (by omega)
  have hdv : dwf (dEnt (ma dt 32 o (dt 32 o ||| 1)) nE (nI o) y (nI w) z) nF nC (nE + 1) w := by
    refine ⟨q1, q2, q3, q4, rfl, by omega, q7, q8, q9, fun k hk => ?_, q11⟩
    rw [d21]
    by_cases c : k = nE
    · rw [if_pos c]; exact hvo
    · rw [if_neg c]; exact q10 k (by omega)
  have heg : ∀ g, shg g = true → dEnt (ma dt 32 o (dt 32 o ||| 1)) nE (nI o) y (nI w) z g = st' g := by
    intro g hg
    have c20 : g ≠ 20 := fun z => by rw [z] at hg; exact absurd hg (by decide)
    have c42 : g ≠ 42 := fun z => by rw [z] at hg; exact absurd hg (by decide)
    have c32 : g ≠ 32 := fun z => by rw [z] at hg; exact absurd hg (by decide)
    have c0 : g ≠ 0 := fun z => by rw [z] at hg; exact absurd hg (by decide)
    by_cases a1 : g = 24
    · subst a1; funext k; rw [s24, ← R.eg 24 rfl]; simp [dEnt, ms, ma, upd]
    by_cases a2 : g = 23
    · subst a2; funext k; rw [s23, ← R.eg 23 rfl]; simp [dEnt, ms, ma, upd]
    by_cases a3 : g = 22
    · subst a3; funext k; rw [S, ← R.eg 22 rfl]; simp [dEnt, ms, ma, upd]
    by_cases a4 : g = 21
    · subst a4; funext k; rw [s21, ← R.eg 21 rfl, d21]
    by_cases a5 : g = 25
    · subst a5
      funext k
      rw [sO 25 (by decide) (by decide) (by decide) (by decide) (by decide) (by decide), ← R.eg 25 rfl]
      have e : dEnt (ma dt 32 o (dt 32 o ||| 1)) nE (nI o) y (nI w) z 25 k = if k = nE then 0 else dt 25 k := by simp [dEnt, ms, ma, upd]
      rw [e]
      by_cases c : k = nE
      · rw [if_pos c, c, R.eg 25 rfl, R.z25 nE (Nat.le_refl _)]
      · rw [if_neg c]
    rw [dO g c20 a1 a2 a3 a4 a5 c42 c32, sO g c20 a1 a2 a3 a4 c0, R.eg g hg]
  have hblo : ∀ k, k < nF → ∀ j, j < 6 → ((bX (dEnt (ma dt 32 o (dt 32 o ||| 1)) nE (nI o) y (nI w) z 32 k)).testBit j = true ↔ ∃ e, e < nE + 1 ∧ st' 21 e = nI k ∧ ∃ t, t + j = w ∧ st' 24 e = nI t) := by
    intro k hk j hj
    have old : ∀ e, e < nE → (st' 21 e = st 21 e ∧ st' 24 e = st 24 e) := fun e he => by rw [s21, s24, if_neg (by omega), if_neg (by omega)]; exact ⟨rfl, rfl⟩
    rw [d32]
    by_cases c : k = o
    · rw [if_pos c, tb_or1, Bool.or_eq_true, ← c, R.blo k hk j hj, decide_eq_true_eq]
      constructor
      · rintro (⟨e, he, z1, t, z2, z3⟩ | rfl)
        · exact ⟨e, by omega, by rw [(old e he).1]; exact z1, t, z2, by rw [(old e he).2]; exact z3⟩
        · exact ⟨nE, by omega, by rw [s21, if_pos rfl, c], w, by omega, by rw [s24, if_pos rfl]⟩
      · rintro ⟨e, he, z1, t, z2, z3⟩
        by_cases d : e = nE
        · rw [d, s24, if_pos rfl, nI_eq (by omega) (by omega)] at z3
          exact Or.inr (by omega)
        · rw [(old e (by omega)).1] at z1
          rw [(old e (by omega)).2] at z3
          exact Or.inl ⟨e, by omega, z1, t, z2, z3⟩
    · rw [if_neg c, R.blo k hk j hj]
      constructor
      · rintro ⟨e, he, z1, t, z2, z3⟩
        exact ⟨e, by omega, by rw [(old e he).1]; exact z1, t, z2, by rw [(old e he).2]; exact z3⟩
      · rintro ⟨e, he, z1, t, z2, z3⟩
        by_cases d : e = nE
        · rw [d, s21, if_pos rfl, nI_eq (by omega) (by omega)] at z1
          exact absurd z1.symm c
        · rw [(old e (by omega)).1] at z1
          rw [(old e (by omega)).2] at z3
          exact ⟨e, by omega, z1, t, z2, z3⟩
  have hat : ∀ e, e < nE + 1 → ∃ t, t ≤ w ∧ st' 24 e = nI t := by
    intro e he
    rw [s24]
    by_cases c : e = nE
    · rw [if_pos c]; exact ⟨w, Nat.le_refl _, rfl⟩
    · rw [if_neg c]; exact R.at_ e (by omega)
  have hpts : ∀ e, e < nE + 1 → ∃ p, p ≤ 9 ∧ st' 23 e = nI p := by
    intro e he
    rw [s23]
    by_cases c : e = nE
    · rw [if_pos c]; exact ⟨p, hp.2, hz⟩
    · rw [if_neg c]; exact R.pts e (by omega)
  have t : ∀ g, g ≠ 20 → g ≠ 24 → g ≠ 23 → g ≠ 22 → g ≠ 21 → g ≠ 0 → ∀ k, st' g k = st g k := fun g a0 a1 a2 a3 a4 a5 k => by rw [sO g a0 a1 a2 a3 a4 a5]
  subst hst
  exact dR_mk (mw := hmw) (dv := hdv) (e2 := R.e2) (e3 := R.e3) (e28 := R.e28) (eg := heg) (z6 := R.z6) (z13 := R.z13) (z25 := (fun k hk => R.z25 k (by omega))) (b25 := R.b25) (win := (fun p hp => winR_e (R.win p hp) rfl rfl)) (frm := R.frm) (f17 := R.f17) (blo := hblo) (at_ := hat) (cnt := R.cnt) (slo := R.slo) (o15 := R.o15) (o16 := R.o16) (cam := R.cam) (win9 := R.win9) (pts := hpts)
end SIM6
