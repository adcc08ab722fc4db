theorem ptsR_c {st st' : kM} (h21 : st' 21 = st 21) (h22 : st' 22 = st 22) (h23 : st' 23 = st 23) (h24 : st' 24 = st 24) (h25 : st' 25 = st 25) (f p e : Int32) : ∀ n, ptsR st' f p e n = ptsR st f p e n
  | 0 => rfl
  | n + 1 => by rw [ptsR, ptsR, ptsR_c h21 h22 h23 h24 h25 f p e n, h21, h22, h23, h24, h25]
theorem mf_ma30 (st : kM) (i : Nat) (v : Int32) : ma st 30 i v = mf st 30 (upd (st 30) i v) := rfl
section SIM8
variable {st dt : kM} {nF nC nE w : Nat} {x y z : Int32} {Ec : String}
theorem sx_end (R : dR st dt nF nC nE w) (h : (Ec = kIO ∧ ¬ (¬ x < 0 ∧ x < nI nF)) ∨ ∃ o, o < nF ∧ x = nI o ∧ (Ec = kIS ∧ ¬ (dt 6 o = 0))) : (Ec = kIO ∧ (mend st nE x).2 = ms st 0 1) ∨ (Ec = kIS ∧ (mend st nE x).2 = ms st 0 2) := by
  have hF := R.mw.2.1
  rcases h with ⟨rfl, h⟩ | ⟨o, ho, rfl, rfl, h⟩
  · exact Or.inl ⟨rfl, by rw [mend, mwf_F R.mw, if_neg (fF (inN (by omega)) h)]⟩
  · exact Or.inr ⟨rfl, by rw [mend, mwf_F R.mw, if_pos ((inN (by omega)).mp ⟨nI_pos (by omega), nI_lt ho (by omega)⟩), nI_clamp (by omega), if_neg (by rw [← R.eg 6 rfl]; exact h)]⟩
theorem sk_end (R : dR st dt nF nC nE w) {o : Nat} (ho : o < nF) (h6 : dt 6 o = 0) : (mend st nE (nI o)).2 0 0 = 0 ∧ dEnd dt w o nE 9 o = (mend st nE (nI o)).1 ∧ dR (mend st nE (nI o)).2 (dEnd dt w o nE) nF nC nE w := by
  have hF := R.mw.2.1
  have h80 := R.mw.2.2.2.2.2.1
  have h6' : st 6 o = 0 := by rw [← R.eg 6 rfl]; exact h6
  have hv := R.mw.2.2.2.2.2.2.2.2.1 o ho
  have h9 := R.win9 o ho h6'
  obtain ⟨a1, ha1, ea1⟩ := ptsR_b R (nI o) (st 7 o) 3000 nE (Nat.le_refl _)
  obtain ⟨a2, ha2, ea2⟩ := ptsR_b R (nI o) (st 8 o) 3000 nE (Nat.le_refl _)
  have p1 : dPts dt (nI w) o (dt 7 o) nE = nI a1 := by rw [pts_e R ho (at_now R) nE (Nat.le_refl _), R.eg 7 rfl, ea1]
  have p2 : dPts dt (nI w) o (dt 8 o) nE = nI a2 := by rw [pts_e R ho (at_now R) nE (Nat.le_refl _), R.eg 8 rfl, ea2]
  have hm : mend st nE (nI o) = ((if 0 < nI a1 - nI a2 then st 7 o else if nI a1 - nI a2 < 0 then st 8 o else -1), ma (ma (ms st 0 0) 6 o 1) 9 o (if 0 < nI a1 - nI a2 then st 7 o else if nI a1 - nI a2 < 0 then st 8 o else -1)) := by
    rw [mend, mwf_F R.mw, if_pos ((inN (by omega)).mp ⟨nI_pos (by omega), nI_lt ho (by omega)⟩), nI_clamp (by omega), if_pos h6']
    simp only []
    rw [ptsR_c (st := st) (st' := ma (ms st 0 0) 6 o 1) rfl rfl rfl rfl rfl (nI o) (st 7 o), ptsR_c (st := st) (st' := ma (ms st 0 0) 6 o 1) rfl rfl rfl rfl rfl (nI o) (st 8 o), ea1, ea2]
  have hd : (nI a1 - nI a2).toInt = (a1 : Int) - a2 := pk_sub_toInt (by omega) (by omega)
  have hlt : (0 < nI a1 - nI a2) ↔ a2 < a1 := by rw [kI_lt, hd, show (0 : Int32).toInt = 0 from rfl]; omega
  have hgt : (nI a1 - nI a2 < 0) ↔ a1 < a2 := by rw [kI_lt, hd, show (0 : Int32).toInt = 0 from rfl]; omega
  have hupd : ∀ {v : Int32}, vp_in v 10 → ∀ p, p < 10 → upd (dt 30) v.toNatClampNeg (dt 30 v.toNatClampNeg + 1) p = dt 30 p + (if v = nI p then 1 else 0) := by
    intro v hv p hp
    have z1 : ¬ v < 0 := fun q => hv (Or.inl q)
    obtain ⟨j, hj, rfl⟩ := nI_of z1
    rw [nI_clamp hj]
    by_cases c : j = p
    · subst c; simp [upd]
    · rw [if_neg (fun q => c ((nI_eq hj (by omega)).mp q))]; simp [upd, show ¬ p = j from fun z => c z.symm]
  rw [hm]
  refine ⟨rfl, ?_⟩
  by_cases c1 : a1 = a2
  · subst c1
    rw [dEnd, p1, p2, if_pos rfl, if_neg (by rw [hlt]; omega), if_neg (by rw [hgt]; omega)]
    refine ⟨by rw [← h9, ← R.eg 9 rfl]; rfl, ?_⟩
    have e : ma dt 6 o 1 = mf (ma (ma dt 6 o 1) 9 o (-1)) 30 (dt 30) := by
      funext g k
      by_cases g9 : g = 9
      · subst g9
        show dt 9 k = upd (dt 9) o (-1) k
        by_cases k9 : k = o
        · subst k9; rw [pk_us, R.eg 9 rfl, h9]
        · rw [pk_un k9]
      · by_cases g30 : g = 30
        · subst g30; rfl
        · simp [mf, ma, g9, g30]
    rw [e]
    exact dR_end R ho h6' (Or.inl rfl) (fun p hp => by rw [if_neg (fun q => by have := congrArg Int32.toInt q; rw [nI_toInt (by omega), show (-1 : Int32).toInt = -1 from by decide] at this; omega), Int32.add_zero])
  · by_cases c2 : a2 < a1
    · rw [dEnd, p1, p2, if_neg (fun q => c1 ((nI_eq (by omega) (by omega)).mp q)), if_pos (nI_lt c2 (by omega)), if_pos (hlt.mpr c2), R.eg 7 rfl]
      refine ⟨by simp [ma, upd], ?_⟩
      rw [mf_ma30]
      exact dR_end R ho h6' (Or.inr hv.1) (hupd hv.1)
    · rw [dEnd, p1, p2, if_neg (fun q => c1 ((nI_eq (by omega) (by omega)).mp q)), if_neg (nI_nlt (by omega) (by omega)), if_neg (fun q => c2 (hlt.mp q)), if_pos (hgt.mpr (by omega)), R.eg 8 rfl]
      refine ⟨by simp [ma, upd], ?_⟩
      rw [mf_ma30]
      exact dR_end R ho h6' (Or.inr hv.2) (hupd hv.2)
end SIM8
