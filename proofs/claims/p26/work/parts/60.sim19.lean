/-! pass; the two states at the start -/
section SIM16
variable {st dt : kM} {nF nC nE w : Nat} {x y z : Int32} {Ec : String}
theorem sx_pass (R : dR st dt nF nC nE w) (h : (Ec = kIA ∧ ¬ (¬ x < 1 ∧ ¬ 200 < x)) ∨ (Ec = kIS ∧ (¬ x < 1 ∧ ¬ 200 < x) ∧ ¬ (¬ 3000 < dt 1 0 + x))) : (Ec = kIA ∧ (mpass st nF nC nE w x).2 = ms st 0 1) ∨ (Ec = kIS ∧ (mpass st nF nC nE w x).2 = ms st 0 2) := by
  have e1 : dt 1 0 = st 1 0 := (dwf_w R.dv).trans (mwf_w R.mw).symm
  rcases h with ⟨rfl, h⟩ | ⟨rfl, h1, h⟩
  · exact Or.inl ⟨rfl, by rw [mpass, if_neg (fF inr_iff.symm h)]⟩
  · rw [e1] at h
    exact Or.inr ⟨rfl, by rw [mpass, if_pos (inr_iff.mpr h1), if_pos (Decidable.not_not.mp h)]⟩
theorem passR_0 (st : kM) (nF nC nE w : Nat) : ∀ i, passR st nF nC nE w i 0 = st 0
  | 0 => rfl
  | i + 1 => by
    rw [passR, mpasses_e, ← passR_0 st nF nC nE w i]
    show msee _ 0 = _
    rw [msee, ms, if_neg (by decide), mfr_o (by decide)]
theorem sk_pass (R : dR st dt nF nC nE w) (h1 : ¬ x < 1 ∧ ¬ 200 < x) (h2 : ¬ 3000 < dt 1 0 + x) {m : Nat} (hm : m ≤ 200) (hwm : w + m ≤ 3000) (hx : x = nI m) : (mpass st nF nC nE w x).2 0 0 = 0 ∧ nI (w + m) = (mpass st nF nC nE w x).1 ∧ dR (mpass st nF nC nE w x).2 (dPass dt nF nC w m) nF nC nE (w + m) := by
  have e1 : dt 1 0 = st 1 0 := (dwf_w R.dv).trans (mwf_w R.mw).symm
  rw [e1] at h2
  rw [mpass, if_pos (inr_iff.mpr h1), if_neg h2, hx, nI_clamp (by omega)]
  refine ⟨by show passR (ms st 0 0) nF nC nE w m 0 0 = 0; rw [passR_0]; rfl, (mwf_w (passR_wf (mwf_0 R.mw) m hwm)).symm, dR_pass (dR_0 R 0) m hwm⟩
end SIM16
theorem dR_start : dR mst0 dt0 0 0 0 0 := by
  refine dR_mk (mw := ?_) (dv := ?_) (e2 := rfl) (e3 := ?_) (e28 := rfl) (eg := ?_) (z6 := fun _ _ => rfl) (z13 := fun _ _ => ⟨rfl, rfl⟩) (z25 := fun _ _ => rfl) (b25 := fun _ => Or.inl rfl) (win := fun _ _ => rfl) (frm := fun k hk => absurd hk (Nat.not_lt_zero _)) (f17 := fun k hk => absurd hk (Nat.not_lt_zero _)) (blo := fun k hk => absurd hk (Nat.not_lt_zero _)) (at_ := fun k hk => absurd hk (Nat.not_lt_zero _)) (cnt := fun _ _ => rfl) (slo := fun s hs p hp => ?_) (o15 := rfl) (o16 := rfl) (cam := fun k hk => absurd hk (Nat.not_lt_zero _)) (win9 := fun k hk => absurd hk (Nat.not_lt_zero _)) (pts := fun k hk => absurd hk (Nat.not_lt_zero _))
  · exact ⟨rfl, by decide, rfl, by decide, rfl, by decide, rfl, by decide, fun k hk => absurd hk (Nat.not_lt_zero _), fun k hk => absurd hk (Nat.not_lt_zero _), Or.inl rfl, 0, by decide, rfl⟩
  · exact ⟨rfl, by decide, rfl, by decide, rfl, by decide, rfl, by decide, fun k hk => absurd hk (Nat.not_lt_zero _), fun k hk => absurd hk (Nat.not_lt_zero _), fun k hk => absurd hk (Nat.not_lt_zero _)⟩
  · rfl
  · intro g hg
    have n : ∀ m, shg m = false → g ≠ m := fun m hm z => by rw [z, hm] at hg; cases hg
    funext k
    show (if g = 2 then (10 : Int32) else if g = 3 then -1 else 0) = (if g = 2 then (10 : Int32) else if g = 3 ∨ g = 15 ∨ g = 16 then -1 else 0)
    rw [if_neg (n 2 rfl), if_neg (n 3 rfl), if_neg (n 2 rfl), if_neg (fun z => z.elim (n 3 rfl) (fun z => z.elim (n 15 rfl) (n 16 rfl)))]
  · exact ⟨fun _ => rfl, fun _ => Nat.zero_testBit p⟩
