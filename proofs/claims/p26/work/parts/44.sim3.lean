/-! a fight more -/
theorem busyR_0 (st : kM) (p : Int32) : ∀ n, busyR st p n = 0 ↔ ∀ k, k < n → ¬ (st 6 k = 0 ∧ (st 7 k = p ∨ st 8 k = p))
  | 0 => ⟨fun _ k hk => absurd hk (Nat.not_lt_zero _), fun _ => rfl⟩
  | n + 1 => by
    have ih := busyR_0 st p n
    rw [busyR]
    by_cases c : busyR st p n = 0
    · rw [if_pos c]
      have h1 := ih.mp c
      by_cases c6 : st 6 n = 0
      · rw [if_pos c6]
        by_cases c7 : st 7 n = p
        · rw [if_pos c7]
          exact ⟨fun z => absurd z (by decide), fun z => absurd ⟨c6, Or.inl c7⟩ (z n (by omega))⟩
        · rw [if_neg c7]
          by_cases c8 : st 8 n = p
          · rw [if_pos c8]
            exact ⟨fun z => absurd z (by decide), fun z => absurd ⟨c6, Or.inr c8⟩ (z n (by omega))⟩
          · rw [if_neg c8]
            refine ⟨fun _ k hk => ?_, fun _ => rfl⟩
            by_cases e : k = n
            · subst e; exact fun z => z.2.elim c7 c8
            · exact h1 k (by omega)
      · rw [if_neg c6]
        refine ⟨fun _ k hk => ?_, fun _ => rfl⟩
        by_cases e : k = n
        · subst e; exact fun z => c6 z.1
        · exact h1 k (by omega)
    · rw [if_neg c]
      exact ⟨fun z => absurd z (by decide), fun z => absurd (ih.mpr (fun k hk => z k (by omega))) c⟩
theorem dIsOf_1 {dt : kM} {o : Nat} {p : Int32} : dIsOf dt o p = 1 ↔ (dt 7 o = p ∨ dt 8 o = p) := by
  unfold dIsOf
  by_cases c : p = dt 7 o
  · rw [if_pos c]; exact ⟨fun _ => Or.inl c.symm, fun _ => rfl⟩
  · rw [if_neg c]
    by_cases d : p = dt 8 o
    · rw [if_pos d]; exact ⟨fun _ => Or.inr d.symm, fun _ => rfl⟩
    · rw [if_neg d]; exact ⟨fun z => absurd z (by decide), fun z => z.elim (fun q => absurd q.symm c) (fun q => absurd q.symm d)⟩
theorem winR_n {st st' : kM} {x : Int32} : ∀ {n : Nat}, (∀ k, k < n → st' 6 k = st 6 k ∧ st' 9 k = st 9 k) → winR st' x n = winR st x n
  | 0, _ => rfl
  | n + 1, h => by rw [winR, winR, winR_n (fun k hk => h k (by omega)), (h n (by omega)).1, (h n (by omega)).2]
theorem cntR_0 {f : Nat → Int32} {x : Int32} : ∀ {n : Nat}, (∀ k, k < n → ¬ f k = x) → cntR f x n = 0
  | 0, _ => rfl
  | n + 1, h => by rw [cntR, cntR_0 (fun k hk => h k (by omega)), if_neg (h n (by omega))]; rfl
theorem vp_ne {x : Int32} {n : Nat} (h : vp_in x n) (hn : n < 2 ^ 31) : ¬ x = nI n := by
  intro e
  rw [e] at h
  exact h (Or.inr (by rw [nI_clamp hn]; exact Nat.le_refl _))
section SIM4
variable {st dt : kM} {nF nC nE w : Nat} {x y z : Int32} {Ec : String}
theorem busy_e (R : dR st dt nF nC nE w) : (busyR st x nF = 0 ∧ busyR st y nF = 0) ↔ ¬ dBusy dt x y nF := by
  rw [busyR_0, busyR_0]
  constructor
  · rintro ⟨h1, h2⟩ ⟨k, hk, h6, h7⟩
    rw [dIsOf_1, dIsOf_1, R.eg 7 rfl, R.eg 8 rfl] at h7
    rw [R.eg 6 rfl] at h6
    rcases h7 with h7 | h7
    · exact h1 k hk ⟨h6, h7⟩
    · exact h2 k hk ⟨h6, h7⟩
  · intro h
    refine ⟨fun k hk z => h ⟨k, hk, by rw [R.eg 6 rfl]; exact z.1, Or.inl (by rw [dIsOf_1, R.eg 7 rfl, R.eg 8 rfl]; exact z.2)⟩, fun k hk z => h ⟨k, hk, by rw [R.eg 6 rfl]; exact z.1, Or.inr (by rw [dIsOf_1, R.eg 7 rfl, R.eg 8 rfl]; exact z.2)⟩⟩
theorem n20_e (h : nF ≤ 20) : (¬ nI nF = 20) ↔ nF < 20 := by
  rw [show (20 : Int32) = nI 20 from by decide, nI_eq (by omega) (by decide)]
  omega
theorem dR_beg (R : dR st dt nF nC nE w) (hn : nF < 20) (hx : vp_in x 10) (hy : vp_in y 10) : dR (mbegin st nF x y) (dBeg dt nF x y) (nF + 1) nC nE w := by
  obtain ⟨m1, m2, m3, m4, m5, m6, m7, m8, m9, m10, m11, m12⟩ := R.mw
  obtain ⟨q1, q2, q3, q4, q5, q6, q7, q8, q9, q10, q11⟩ := R.dv
  have s7 : ∀ k, mbegin st nF x y 7 k = if k = nF then x else st 7 k := fun k => by simp [mbegin, ms, ma, upd]
  have s8 : ∀ k, mbegin st nF x y 8 k = if k = nF then y else st 8 k := fun k => by simp [mbegin, ms, ma, upd]
  have s9 : ∀ k, mbegin st nF x y 9 k = if k = nF then -1 else st 9 k := fun k => by simp [mbegin, ms, ma, upd]
  have d7 : ∀ k, dBeg dt nF x y 7 k = if k = nF then x else dt 7 k := fun k => by simp [dBeg, ms, ma, upd]
  have d8 : ∀ k, dBeg dt nF x y 8 k = if k = nF then y else dt 8 k := fun k => by simp [dBeg, ms, ma, upd]
  have d9 : ∀ k, dBeg dt nF x y 9 k = if k = nF then -1 else dt 9 k := fun k => by simp [dBeg, ms, ma, upd]
  have d6 : ∀ k, dBeg dt nF x y 6 k = if k = nF then 0 else dt 6 k := fun k => by simp [dBeg, ms, ma, upd]
  have d31 : ∀ k, dBeg dt nF x y 31 k = if k = nF then 0 else dt 31 k := fun k => by simp [dBeg, ms, ma, upd]
  have d32 : ∀ k, dBeg dt nF x y 32 k = if k = nF then 0 else dt 32 k := fun k => by simp [dBeg, ms, ma, upd]
  have hmw : mwf (mbegin st nF x y) (nF + 1) nC nE w := by
    refine ⟨rfl, by omega, m3, m4, m5, m6, m7, m8, fun k hk => ?_, fun k hk => vp_mono (m10 k hk) (by omega), m11, m12⟩
    rw [s7, s8]
    by_cases c : k = nF
    · rw [if_pos c, if_pos c]; exact ⟨hx, hy⟩
    · rw [if_neg c, if_neg c]; exact m9 k (by omega)
  have hdv : dwf (dBeg dt nF x y) (nF + 1) nC nE w := by
    refine ⟨rfl, by omega, q3, q4, q5, q6, q7, q8, fun k hk => ?_, fun k hk => vp_mono (q10 k hk) (by omega), q11⟩
    rw [d7, d8, d9]
    by_cases c : k = nF
    · rw [if_pos c, if_pos c, if_pos c]; exact ⟨hx, hy, Or.inl rfl⟩
    · rw [if_neg c, if_neg c, if_neg c]; exact q9 k (by omega)
  have heg : ∀ g, shg g = true → dBeg dt nF x y g = mbegin st nF x y g := by
    intro g hg
    funext k
    by_cases c6 : g = 6
    · subst c6
      rw [d6]
      show _ = st 6 k
      by_cases c : k = nF
      · rw [if_pos c, c, R.z6 nF (Nat.le_refl _)]
      · rw [if_neg c, R.eg 6 rfl]
    by_cases c7 : g = 7
    · subst c7; rw [d7, s7, R.eg 7 rfl]
    by_cases c8 : g = 8
    · subst c8; rw [d8, s8, R.eg 8 rfl]
    by_cases c9 : g = 9
    · subst c9; rw [d9, s9, R.eg 9 rfl]
    have c31 : g ≠ 31 := fun z => by rw [z] at hg; exact absurd hg (by decide)
    have c32 : g ≠ 32 := fun z => by rw [z] at hg; exact absurd hg (by decide)
    have c5 : g ≠ 5 := fun z => by rw [z] at hg; exact absurd hg (by decide)
    have c40 : g ≠ 40 := fun z => by rw [z] at hg; exact absurd hg (by decide)
    simp [dBeg, mbegin, ms, ma, c6, c7, c8, c9, c31, c32, c5, c40, R.eg g hg]
  have hwin : ∀ p, p < 10 → dBeg dt nF x y 30 p = winR (mbegin st nF x y) (nI p) (nF + 1) := by
    intro p hp
    show dt 30 p = _
    rw [winR, show mbegin st nF x y 6 nF = 0 from R.z6 nF (Nat.le_refl _), if_neg (by decide), R.win p hp]
    rw [winR_n (st := st) (st' := mbegin st nF x y) (fun k hk => ⟨rfl, by rw [s9, if_neg (by omega)]⟩)]
    simp
  have hfrm : ∀ k, k < nF + 1 → dBeg dt nF x y 31 k = cntR (st 17) (nI k) w := by
    intro k hk
    rw [d31]
    by_cases c : k = nF
    · rw [if_pos c, c]
      refine (cntR_0 (fun f hf => ?_)).symm
      rcases R.f17 f hf with z | z
      · rw [z, show (-1 : Int32) = 0 - 1 from by decide]
        intro e
        have := congrArg Int32.toInt e
        rw [nI_toInt (by omega), show ((0 : Int32) - 1).toInt = -1 from by decide] at this
        omega
      · exact vp_ne z (by omega)
    · rw [if_neg c]; exact R.frm k (by omega)
  have hblo : ∀ k, k < nF + 1 → ∀ j, j < 6 → ((bX (dBeg dt nF x y 32 k)).testBit j = true ↔ ∃ e, e < nE ∧ st 21 e = nI k ∧ ∃ t, t + j = w ∧ st 24 e = nI t) := by
    intro k hk j hj
    rw [d32]
    by_cases c : k = nF
    · rw [if_pos c, c, bX_0, Nat.zero_testBit]
      refine ⟨fun z => absurd z (by decide), fun ⟨e, he, h21, _⟩ => absurd h21 (vp_ne (m10 e he) (by omega))⟩
    · rw [if_neg c]; exact R.blo k (by omega) j hj
  exact dR_mk (mw := hmw) (dv := hdv) (e2 := R.e2) (e3 := R.e3) (e28 := R.e28) (eg := heg) (z6 := (fun k hk => R.z6 k (by omega))) (z13 := R.z13) (z25 := R.z25) (b25 := R.b25) (win := hwin) (frm := hfrm) (f17 := (fun f hf => (R.f17 f hf).imp id (fun z => vp_mono z (by omega)))) (blo := hblo) (at_ := R.at_) (cnt := R.cnt) (slo := R.slo) (o15 := R.o15) (o16 := R.o16) (cam := R.cam) (win9 := (fun k hk h6 => by rw [s9]; by_cases c : k = nF; (rw [if_pos c]); (rw [if_neg c]; exact R.win9 k (by omega) h6))) (pts := R.pts)
theorem sx_fight (R : dR st dt nF nC nE w) (h : (Ec = kIO ∧ ¬ (¬ x < 0 ∧ x < 10)) ∨ (Ec = kIO ∧ (¬ x < 0 ∧ x < 10) ∧ ¬ (¬ y < 0 ∧ y < 10)) ∨ (Ec = kIA ∧ (¬ x < 0 ∧ x < 10) ∧ (¬ y < 0 ∧ y < 10) ∧ ¬ (¬ x = y)) ∨ (Ec = kIS ∧ (¬ x < 0 ∧ x < 10) ∧ (¬ y < 0 ∧ y < 10) ∧ (¬ x = y) ∧ ¬ (nF < 20 ∧ ¬ dBusy dt x y nF))) : (Ec = kIO ∧ (mfight st nF x y).2 = ms st 0 1) ∨ (Ec = kIA ∧ (mfight st nF x y).2 = ms st 0 2) ∨ (Ec = kIS ∧ (mfight st nF x y).2 = ms st 0 3) := by
  rcases h with ⟨rfl, h⟩ | ⟨rfl, h1, h⟩ | ⟨rfl, h1, h2, h⟩ | ⟨rfl, h1, h2, h3, h⟩
  · exact Or.inl ⟨rfl, by rw [mfight, if_neg (fun q => h (in10.mpr q.1))]⟩
  · exact Or.inl ⟨rfl, by rw [mfight, if_neg (fun q => h (in10.mpr q.2))]⟩
  · exact Or.inr (Or.inl ⟨rfl, by rw [mfight, if_pos ⟨in10.mp h1, in10.mp h2⟩, if_pos (Decidable.not_not.mp h)]⟩)
  · exact Or.inr (Or.inr ⟨rfl, by rw [mfight, if_pos ⟨in10.mp h1, in10.mp h2⟩, if_neg h3, if_neg (fun q => h ⟨(n20_e R.mw.2.1).mp (by rw [← mwf_F R.mw]; exact q.2.2), (busy_e R).mp ⟨q.1, q.2.1⟩⟩)]⟩)
theorem sk_fight (R : dR st dt nF nC nE w) (h1 : ¬ x < 0 ∧ x < 10) (h2 : ¬ y < 0 ∧ y < 10) (h3 : ¬ x = y) (h4 : nF < 20 ∧ ¬ dBusy dt x y nF) : (mfight st nF x y).2 0 0 = 0 ∧ nI nF = (mfight st nF x y).1 ∧ dR (mfight st nF x y).2 (dBeg dt nF x y) (nF + 1) nC nE w := by
  have hb := (busy_e R).mpr h4.2
  rw [mfight, if_pos ⟨in10.mp h1, in10.mp h2⟩, if_neg h3, if_pos ⟨hb.1, hb.2, by rw [mwf_F R.mw]; exact (n20_e R.mw.2.1).mpr h4.1⟩]
  exact ⟨rfl, rfl, dR_beg (dR_0 R 0) h4.1 (vp_of (n := 10) h1.1 h1.2 (by decide)) (vp_of (n := 10) h2.1 h2.2 (by decide))⟩
end SIM4
