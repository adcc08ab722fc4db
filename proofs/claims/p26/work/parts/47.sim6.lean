/-! the end of a fight -/
def wc (st : kM) (k : Nat) (x : Int32) : Int32 := if st 6 k = 1 then (if st 9 k = x then 1 else 0) else 0
theorem winR_u {st st' : kM} {x : Int32} {o : Nat} : ∀ {n : Nat}, o < n → (∀ k, k < n → k ≠ o → st' 6 k = st 6 k ∧ st' 9 k = st 9 k) → winR st' x n + wc st o x = winR st x n + wc st' o x
  | 0, h, _ => absurd h (Nat.not_lt_zero _)
  | n + 1, h, hs => by
    have e1 : winR st' x (n + 1) = winR st' x n + wc st' n x := rfl
    have e2 : winR st x (n + 1) = winR st x n + wc st n x := rfl
    rw [e1, e2]
    by_cases c : o = n
    · subst c
      rw [winR_n (st := st) (st' := st') (fun k hk => hs k (by omega) (by omega)), Int32.add_assoc, Int32.add_comm (wc st' o x), ← Int32.add_assoc]
    · have ih := winR_u (st := st) (st' := st') (x := x) (o := o) (n := n) (by omega) (fun k hk hk2 => hs k (by omega) hk2)
      have e3 : wc st' n x = wc st n x := by
        unfold wc
        rw [(hs n (by omega) (fun z => c z.symm)).1, (hs n (by omega) (fun z => c z.symm)).2]
      rw [e3, Int32.add_assoc, Int32.add_comm (wc st n x), ← Int32.add_assoc, ih, Int32.add_assoc, Int32.add_comm (wc st' o x), ← Int32.add_assoc]
theorem dR.frame_ok {st dt : kM} {nF nC nE w : Nat} (R : dR st dt nF nC nE w) : dt 1 0 = st 1 0 := (dwf_w R.dv).trans (mwf_w R.mw).symm
theorem ptsR_b {st dt : kM} {nF nC nE w : Nat} (R : dR st dt nF nC nE w) (f p e : Int32) : ∀ n, n ≤ nE → ∃ m, m ≤ 9 * n ∧ ptsR st f p e n = nI m
  | 0, _ => ⟨0, Nat.le_refl _, rfl⟩
  | n + 1, hn => by
    obtain ⟨m, hm, e1⟩ := ptsR_b R f p e n (by omega)
    obtain ⟨q, hq, e2⟩ := R.pts n (by omega)
    rw [ptsR, e1]
    have z : ∃ r, r ≤ 9 ∧ (if st 21 n = f then (if st 22 n = p then (if st 25 n = 0 then (if e < st 24 n then 0 else st 23 n) else 0) else 0) else 0) = nI r := by
      repeat' split
      all_goals first | exact ⟨q, hq, e2⟩ | exact ⟨0, by omega, rfl⟩
    obtain ⟨r, hr, e3⟩ := z
    rw [e3, nI_add]
    exact ⟨m + r, by omega, rfl⟩
