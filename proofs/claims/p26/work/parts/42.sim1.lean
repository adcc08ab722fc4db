/-! the calls of few words: both sides alike -/
theorem eg_ms {st dt : kM} {f : Nat} {v v' : Int32} (hf : shg f = false) (h : ∀ g, shg g = true → dt g = st g) : ∀ g, shg g = true → ms dt f v g = ms st f v' g := fun g hg => by
  have h0 : g ≠ f := fun z => by rw [z, hf] at hg; cases hg
  simp [ms, h0, h g hg]
theorem eg_md {st dt : kM} {f i : Nat} {v : Int32} (hf : shg f = false) (h : ∀ g, shg g = true → dt g = st g) : ∀ g, shg g = true → ma dt f i v g = st g := fun g hg => by
  have h0 : g ≠ f := fun z => by rw [z, hf] at hg; cases hg
  simp [ma, h0, h g hg]
theorem eg_mr {st dt : kM} {f i : Nat} {v : Int32} (hf : shg f = false) (h : ∀ g, shg g = true → dt g = st g) : ∀ g, shg g = true → dt g = ma st f i v g := fun g hg => by
  have h0 : g ≠ f := fun z => by rw [z, hf] at hg; cases hg
  simp [ma, h0, h g hg]
theorem mwf_w {st : kM} {nF nC nE w : Nat} (h : mwf st nF nC nE w) : st 1 0 = nI w := h.2.2.2.2.2.2.1
theorem mwf_F {st : kM} {nF nC nE w : Nat} (h : mwf st nF nC nE w) : st 5 0 = nI nF := h.1
theorem mwf_C {st : kM} {nF nC nE w : Nat} (h : mwf st nF nC nE w) : st 10 0 = nI nC := h.2.2.1
theorem mwf_E {st : kM} {nF nC nE w : Nat} (h : mwf st nF nC nE w) : st 20 0 = nI nE := h.2.2.2.2.1
theorem see_e {st dt : kM} (h3 : dt 3 0 = st 3 0) (h1 : dt 1 0 = st 1 0) (h2 : dt 2 0 = st 2 0) : msee dt 3 0 = msee st 3 0 := by
  simp only [msee, ms, h1, h2, h3, if_true]
theorem in2 {y : Int32} : (y = 0 ∨ y = 1 ∨ y = 2) ↔ inr y 0 2 = true := by
  rw [inr_iff, kI_lt, kI_lt, kI_eq, kI_eq, kI_eq, show (0 : Int32).toInt = 0 from rfl, show (1 : Int32).toInt = 1 from rfl, show (2 : Int32).toInt = 2 from rfl]
  omega
theorem in1 {y : Int32} : (y = 0 ∨ y = 1) ↔ inr y 0 1 = true := by
  rw [inr_iff, kI_lt, kI_lt, kI_eq, kI_eq, show (0 : Int32).toInt = 0 from rfl, show (1 : Int32).toInt = 1 from rfl]
  omega
theorem in4 {y : Int32} : (y = 0 ∨ y = 1 ∨ y = 2 ∨ y = 3 ∨ y = 4) ↔ inr y 0 4 = true := by
  rw [inr_iff, kI_lt, kI_lt, kI_eq, kI_eq, kI_eq, kI_eq, kI_eq, show (0 : Int32).toInt = 0 from rfl, show (1 : Int32).toInt = 1 from rfl, show (2 : Int32).toInt = 2 from rfl, show (3 : Int32).toInt = 3 from rfl, show (4 : Int32).toInt = 4 from rfl]
  omega
section SIM2
variable {st dt : kM} {nF nC nE w : Nat} {x y z : Int32} {Ec : String}
/-- delay -/
theorem sx_delay (R : dR st dt nF nC nE w) (h : Ec = kIA ∧ ¬ (¬ x < 0 ∧ ¬ 100 < x)) : Ec = kIA ∧ (mdelay st x).2 = ms st 0 1 := ⟨h.1, by rw [mdelay, if_neg (fF inr_iff.symm h.2)]⟩
theorem dR_see (R : dR st dt nF nC nE w) : dR (msee st) (msee dt) nF nC nE w := by
  have h1 : dt 1 0 = st 1 0 := (dwf_w R.dv).trans (mwf_w R.mw).symm
  have hv := see_e R.e3 h1 R.e2
  obtain ⟨v, e1⟩ : ∃ v, msee st = ms st 3 v := ⟨_, rfl⟩
  obtain ⟨v2, e2⟩ : ∃ v, msee dt = ms dt 3 v := ⟨_, rfl⟩
  have hvv : v2 = v := by
    rw [e1, e2] at hv
    exact hv
  rw [e1, e2, hvv]
  exact dR_mk (mw := R.mw) (dv := R.dv) (e2 := R.e2) (e3 := rfl) (e28 := R.e28) (eg := (eg_ms rfl R.eg)) (z6 := R.z6) (z13 := R.z13) (z25 := R.z25) (b25 := R.b25) (win := (fun p hp => winR_e (R.win p hp) rfl rfl)) (frm := R.frm) (f17 := R.f17) (blo := R.blo) (at_ := R.at_) (cnt := R.cnt) (slo := R.slo) (o15 := R.o15) (o16 := R.o16) (cam := R.cam) (win9 := R.win9) (pts := R.pts)
theorem sk_delay (R : dR st dt nF nC nE w) (h : ¬ x < 0 ∧ ¬ 100 < x) : (mdelay st x).2 0 0 = 0 ∧ dt 2 0 = (mdelay st x).1 ∧ dR (mdelay st x).2 (msee (ms dt 2 x)) nF nC nE w := by
  have R2 : dR (ms (ms st 0 0) 2 x) (ms dt 2 x) nF nC nE w := by
    exact dR_mk (mw := R.mw) (dv := R.dv) (e2 := rfl) (e3 := R.e3) (e28 := R.e28) (eg := (eg_ms rfl (eg_0 R.eg))) (z6 := R.z6) (z13 := R.z13) (z25 := R.z25) (b25 := R.b25) (win := (fun p hp => winR_e (R.win p hp) rfl rfl)) (frm := R.frm) (f17 := R.f17) (blo := R.blo) (at_ := R.at_) (cnt := R.cnt) (slo := R.slo) (o15 := R.o15) (o16 := R.o16) (cam := R.cam) (win9 := R.win9) (pts := R.pts)
  rw [mdelay, if_pos (inr_iff.mpr h)]
  exact ⟨rfl, R.e2, dR_see R2⟩
/-- strike, mend -/
theorem cor_fix (R : dR st dt nF nC nE w) {o : Nat} (ho : o < nE) : dCor dt o = 0 ↔ ¬ mfix st (nI o) = 0 := by
  have hE := R.mw.2.2.2.2.2.1
  rw [dCor, mfix, nI_clamp (by omega), R.eg 25 rfl, R.eg 6 rfl, R.eg 21 rfl]
  by_cases c1 : st 25 o = 0
  · by_cases c2 : st 6 (st 21 o).toNatClampNeg = 0 <;> simp [c1, c2]
  · simp [c1]
theorem sx_strike (R : dR st dt nF nC nE w) (h : (Ec = kIO ∧ ¬ (¬ x < 0 ∧ x < nI nE)) ∨ ∃ o, o < nE ∧ x = nI o ∧ (Ec = kIS ∧ ¬ (¬ dCor dt o = 0))) : (Ec = kIO ∧ (mstrike st x).2 = ms st 0 1) ∨ (Ec = kIS ∧ (mstrike st x).2 = ms st 0 2) := by
  have hE := R.mw.2.2.2.2.2.1
  rcases h with ⟨rfl, h⟩ | ⟨o, ho, rfl, rfl, h⟩
  · exact Or.inl ⟨rfl, by rw [mstrike, mwf_E R.mw, if_neg (fF (inN (by omega)) h)]⟩
  · exact Or.inr ⟨rfl, by rw [mstrike, mwf_E R.mw, if_pos ((inN (by omega)).mp ⟨nI_pos (by omega), nI_lt ho (by omega)⟩), if_neg ((cor_fix R ho).mp (Decidable.not_not.mp h))]⟩
theorem sk_strike (R : dR st dt nF nC nE w) {o : Nat} (ho : o < nE) (h : ¬ dCor dt o = 0) : (mstrike st (nI o)).2 0 0 = 0 ∧ dt 23 o = (mstrike st (nI o)).1 ∧ dR (mstrike st (nI o)).2 (ma dt 25 o 1) nF nC nE w := by
  have hE := R.mw.2.2.2.2.2.1
  rw [mstrike, mwf_E R.mw, if_pos ((inN (by omega)).mp ⟨nI_pos (by omega), nI_lt ho (by omega)⟩), if_pos (Decidable.not_not.mp (fun q => h ((cor_fix R ho).mpr q))), nI_clamp (by omega)]
  refine ⟨rfl, by rw [R.eg 23 rfl], ?_⟩
  have e25 : ∀ k, ma (ms st 0 0) 25 o 1 25 k = if k = o then 1 else st 25 k := fun k => by simp [ma, ms, upd]
  exact dR_mk (mw := R.mw) (dv := R.dv) (e2 := R.e2) (e3 := R.e3) (e28 := R.e28) (eg := (eg_ma (eg_0 R.eg))) (z6 := R.z6) (z13 := R.z13) (z25 := (fun k hk => by show ma (ms st 0 0) 25 o 1 25 k = 0; rw [e25, if_neg (by omega)]; exact R.z25 k hk)) (b25 := (fun k => by show ma (ms st 0 0) 25 o 1 25 k = 0 ∨ ma (ms st 0 0) 25 o 1 25 k = 1; rw [e25]; by_cases c : k = o; (rw [if_pos c]; exact Or.inr rfl); (rw [if_neg c]; exact R.b25 k))) (win := (fun p hp => winR_e (R.win p hp) rfl rfl)) (frm := R.frm) (f17 := R.f17) (blo := R.blo) (at_ := R.at_) (cnt := R.cnt) (slo := R.slo) (o15 := R.o15) (o16 := R.o16) (cam := R.cam) (win9 := R.win9) (pts := R.pts)
theorem sx_mend (R : dR st dt nF nC nE w) (h : (Ec = kIO ∧ ¬ (¬ x < 0 ∧ x < nI nE)) ∨ ∃ o, o < nE ∧ x = nI o ∧ ((Ec = kIA ∧ ¬ (¬ y < 1 ∧ ¬ 9 < y)) ∨ (Ec = kIS ∧ (¬ y < 1 ∧ ¬ 9 < y) ∧ ¬ (¬ dCor dt o = 0)))) : (Ec = kIO ∧ (mmend st x y).2 = ms st 0 1) ∨ (Ec = kIA ∧ (mmend st x y).2 = ms st 0 2) ∨ (Ec = kIS ∧ (mmend st x y).2 = ms st 0 3) := by
  have hE := R.mw.2.2.2.2.2.1
  rcases h with ⟨rfl, h⟩ | ⟨o, ho, rfl, ⟨rfl, h⟩ | ⟨rfl, h1, h⟩⟩
  · exact Or.inl ⟨rfl, by rw [mmend, mwf_E R.mw, if_neg (fF (inN (by omega)) h)]⟩
  · exact Or.inr (Or.inl ⟨rfl, by rw [mmend, mwf_E R.mw, if_pos ((inN (by omega)).mp ⟨nI_pos (by omega), nI_lt ho (by omega)⟩), if_neg (fF inr_iff.symm h)]⟩)
  · exact Or.inr (Or.inr ⟨rfl, by rw [mmend, mwf_E R.mw, if_pos ((inN (by omega)).mp ⟨nI_pos (by omega), nI_lt ho (by omega)⟩), if_pos (inr_iff.mpr h1), if_neg ((cor_fix R ho).mp (Decidable.not_not.mp h))]⟩)
theorem sk_mend (R : dR st dt nF nC nE w) {o : Nat} (ho : o < nE) (h1 : ¬ y < 1 ∧ ¬ 9 < y) (h : ¬ dCor dt o = 0) : (mmend st (nI o) y).2 0 0 = 0 ∧ dt 23 o = (mmend st (nI o) y).1 ∧ dR (mmend st (nI o) y).2 (ma dt 23 o y) nF nC nE w := by
  have hE := R.mw.2.2.2.2.2.1
  rw [mmend, mwf_E R.mw, if_pos ((inN (by omega)).mp ⟨nI_pos (by omega), nI_lt ho (by omega)⟩), if_pos (inr_iff.mpr h1), if_pos (Decidable.not_not.mp (fun q => h ((cor_fix R ho).mpr q))), nI_clamp (by omega)]
  refine ⟨rfl, by rw [R.eg 23 rfl], ?_⟩
  obtain ⟨p, hp, hy⟩ := inr_low (l := 1) (m := 9) (by decide) (by decide) (inr_t h1.1 h1.2)
  have e23 : ∀ k, ma (ms st 0 0) 23 o y 23 k = if k = o then y else st 23 k := fun k => by simp [ma, ms, upd]
  exact dR_mk (mw := R.mw) (dv := R.dv) (e2 := R.e2) (e3 := R.e3) (e28 := R.e28) (eg := (eg_ma (eg_0 R.eg))) (z6 := R.z6) (z13 := R.z13) (z25 := R.z25) (b25 := R.b25) (win := (fun p hp => winR_e (R.win p hp) rfl rfl)) (frm := R.frm) (f17 := R.f17) (blo := R.blo) (at_ := R.at_) (cnt := R.cnt) (slo := R.slo) (o15 := R.o15) (o16 := R.o16) (cam := R.cam) (win9 := R.win9) (pts := (fun k hk => by show ∃ p, p ≤ 9 ∧ ma (ms st 0 0) 23 o y 23 k = nI p; rw [e23]; by_cases c : k = o; (rw [if_pos c]; exact ⟨p, hp.2, hy⟩); (rw [if_neg c]; exact R.pts k hk)))
/-- shown -/
theorem sx_shown (R : dR st dt nF nC nE w) (h : (Ec = kIO ∧ ¬ (¬ x < 0 ∧ x < nI w)) ∨ (Ec = kIA ∧ (¬ x < 0 ∧ x < nI w) ∧ ¬ (y = 0 ∨ y = 1 ∨ y = 2))) : (Ec = kIO ∧ (mshown st x y).2 = ms st 0 1) ∨ (Ec = kIA ∧ (mshown st x y).2 = ms st 0 2) := by
  have hw := R.mw.2.2.2.2.2.2.2.1
  rcases h with ⟨rfl, h⟩ | ⟨rfl, h1, h2⟩
  · exact Or.inl ⟨rfl, by rw [mshown, mwf_w R.mw, if_neg (fF (inN (by omega)) h)]⟩
  · exact Or.inr ⟨rfl, by rw [mshown, mwf_w R.mw, if_pos ((inN (by omega)).mp h1), if_neg (fF in2 h2)]⟩
theorem sk_shown (R : dR st dt nF nC nE w) (h1 : ¬ x < 0 ∧ x < nI w) (h2 : y = 0 ∨ y = 1 ∨ y = 2) : (mshown st x y).2 = ms st 0 0 ∧ (if y = 0 then dt 17 x.toNatClampNeg else (if y = 1 then dt 18 x.toNatClampNeg else dt 19 x.toNatClampNeg)) = (mshown st x y).1 := by
  have hw := R.mw.2.2.2.2.2.2.2.1
  rw [mshown, mwf_w R.mw, if_pos ((inN (by omega)).mp h1), if_pos (in2.mp h2), R.eg 17 rfl, R.eg 18 rfl, R.eg 19 rfl]
  exact ⟨rfl, rfl⟩
/-- cameraOf -/
theorem sx_cameraOf (R : dR st dt nF nC nE w) (h : (Ec = kIO ∧ ¬ (¬ x < 0 ∧ x < nI nC)) ∨ ∃ o, o < nC ∧ x = nI o ∧ (Ec = kIA ∧ ¬ (y = 0 ∨ y = 1))) : (Ec = kIO ∧ (mcameraOf st x y).2 = ms st 0 1) ∨ (Ec = kIA ∧ (mcameraOf st x y).2 = ms st 0 2) := by
  have hC := R.mw.2.2.2.1
  rcases h with ⟨rfl, h⟩ | ⟨o, ho, rfl, rfl, h⟩
  · exact Or.inl ⟨rfl, by rw [mcameraOf, mwf_C R.mw, if_neg (fF (inN (by omega)) h)]⟩
  · exact Or.inr ⟨rfl, by rw [mcameraOf, mwf_C R.mw, if_pos ((inN (by omega)).mp ⟨nI_pos (by omega), nI_lt ho (by omega)⟩), if_neg (fF in1 h)]⟩
theorem sk_cameraOf (R : dR st dt nF nC nE w) {o : Nat} (ho : o < nC) (h : y = 0 ∨ y = 1) : (mcameraOf st (nI o) y).2 = ms st 0 0 ∧ (if y = 0 then dt 13 o else dt 14 o) = (mcameraOf st (nI o) y).1 := by
  have hC := R.mw.2.2.2.1
  rw [mcameraOf, mwf_C R.mw, if_pos ((inN (by omega)).mp ⟨nI_pos (by omega), nI_lt ho (by omega)⟩), if_pos (in1.mp h), nI_clamp (by omega), R.eg 13 rfl, R.eg 14 rfl]
  exact ⟨rfl, rfl⟩
/-- fightOf -/
theorem sx_fightOf (R : dR st dt nF nC nE w) (h : (Ec = kIO ∧ ¬ (¬ x < 0 ∧ x < nI nF)) ∨ ∃ o, o < nF ∧ x = nI o ∧ (Ec = kIA ∧ ¬ (y = 0 ∨ y = 1 ∨ y = 2 ∨ y = 3 ∨ y = 4))) : (Ec = kIO ∧ (mfightOf st w x y).2 = ms st 0 1) ∨ (Ec = kIA ∧ (mfightOf st w x y).2 = ms st 0 2) := by
  have hC := R.mw.2.1
  rcases h with ⟨rfl, h⟩ | ⟨o, ho, rfl, rfl, h⟩
  · exact Or.inl ⟨rfl, by rw [mfightOf, mwf_F R.mw, if_neg (fF (inN (by omega)) h)]⟩
  · exact Or.inr ⟨rfl, by rw [mfightOf, mwf_F R.mw, if_pos ((inN (by omega)).mp ⟨nI_pos (by omega), nI_lt ho (by omega)⟩), if_neg (fF in4 h)]⟩
theorem sk_fightOf (R : dR st dt nF nC nE w) {o : Nat} (ho : o < nF) (h : y = 0 ∨ y = 1 ∨ y = 2 ∨ y = 3 ∨ y = 4) : (mfightOf st w (nI o) y).2 = ms st 0 0 ∧ (if y = 0 then dt 6 o else (if y = 1 then dt 7 o else (if y = 2 then dt 8 o else (if y = 3 then dt 9 o else dt 31 o)))) = (mfightOf st w (nI o) y).1 := by
  have hC := R.mw.2.1
  rw [mfightOf, mwf_F R.mw, if_pos ((inN (by omega)).mp ⟨nI_pos (by omega), nI_lt ho (by omega)⟩), if_pos (in4.mp h), nI_clamp (by omega), R.eg 6 rfl, R.eg 7 rfl, R.eg 8 rfl, R.eg 9 rfl, R.frm o ho]
  refine ⟨rfl, ?_⟩
  rcases h with rfl | rfl | rfl | rfl | rfl <;> rfl
/-- counted, countedAnew, owed -/
theorem sx_counted (R : dR st dt nF nC nE w) (h : Ec = kIO ∧ ¬ (¬ x < 0 ∧ x < 6)) : Ec = kIO ∧ (mcounted st w x).2 = ms st 0 1 := ⟨h.1, by rw [mcounted, if_neg (fF in6 h.2)]⟩
theorem sk_counted (R : dR st dt nF nC nE w) (h : ¬ x < 0 ∧ x < 6) : (mcounted st w x).2 = ms st 0 0 ∧ dt 33 x.toNatClampNeg = (mcounted st w x).1 ∧ cntR (dt 19) x w = (mcounted st w x).1 := by
  rw [mcounted, if_pos (in6.mp h), R.eg 19 rfl]
  obtain ⟨j, hj, rfl⟩ := nat_of (n := 6) h.1 h.2 (by decide)
  rw [nI_clamp (by omega)]
  exact ⟨rfl, R.cnt j hj, rfl⟩
theorem owe_e (R : dR st dt nF nC nE w) {j : Nat} (hj : j < 6) : dOwe dt j = mowed st w j := by
  rw [dOwe, mowed, R.eg 26 rfl, R.cnt j hj]
theorem sx_owed (R : dR st dt nF nC nE w) (h : Ec = kIO ∧ ¬ (¬ x < 0 ∧ x < 6)) : Ec = kIO ∧ (mowedP st w x).2 = ms st 0 1 := ⟨h.1, by rw [mowedP, if_neg (fF in6 h.2)]⟩
theorem sk_owed (R : dR st dt nF nC nE w) {j : Nat} (hj : j < 6) (h : ¬ nI j < 0 ∧ nI j < 6) : (mowedP st w (nI j)).2 = ms st 0 0 ∧ dOwe dt j = (mowedP st w (nI j)).1 := by
  rw [mowedP, if_pos (in6.mp h), nI_clamp (by omega)]
  exact ⟨rfl, owe_e R hj⟩
end SIM2
