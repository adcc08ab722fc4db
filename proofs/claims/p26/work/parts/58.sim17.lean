/-! pass, both sides: cameras, and one frame -/
section SIM14
variable {st dt : kM} {nF nC nE w : Nat} {x y z : Int32} {Ec : String}
theorem dBlo_f (dt : kM) : ∀ n k, dBlo dt n 32 k = if k < n then dt 32 k <<< ((1 : Int32) &&& 31) else dt 32 k
  | 0, k => by rw [if_neg (Nat.not_lt_zero _)]; rfl
  | n + 1, k => by
    have ih := dBlo_f dt n
    show upd (dBlo dt n 32) n (dBlo dt n 32 n <<< ((1 : Int32) &&& 31)) k = _
    rw [ih n, if_neg (Nat.lt_irrefl _)]
    by_cases c : k = n
    · subst c
      rw [if_pos (Nat.lt_succ_self _)]
      simp [upd]
    · by_cases d : k < n
      · rw [if_pos (by omega)]
        simp only [upd, if_neg c]
        rw [ih k, if_pos d]
      · rw [if_neg (by omega)]
        simp only [upd, if_neg c]
        rw [ih k, if_neg d]
theorem nIz {o : Nat} (ho : o < 2 ^ 31) : nI o = 0 ↔ o = 0 := by
  rw [show (0 : Int32) = nI 0 from by decide, nI_eq ho (by decide)]
/-- one camera: what the class makes of its frames in a row and of its frames off -/
theorem cam1 {s r i o : Nat} (h : 1 ≤ s ∧ s ≤ 60 ∧ r ≤ 60 ∧ o ≤ 60 ∧ i ≤ 60 ∧ (o = 0 → i < s)) :
    ((nI i + 1 < nI s) ↔ i + 1 < s) ∧ (nI i + 1 = nI s ↔ i + 1 = s) ∧ ((nI r < 1) ↔ r < 1) ∧ (((1 : Int32) < nI r) ↔ 1 < r) ∧ (nI o - 1 < 0 ↔ o = 0) ∧ ((0 : Int32) < nI o ↔ 0 < o) ∧ ((0 : Int32) = nI s ↔ False) := by
  rw [nI_1, show (1 : Int32) = nI 1 from by decide]
  refine ⟨nI_ltI (by omega) (by omega), nI_eq (by omega) (by omega), nI_ltI (by omega) (by decide), nI_ltI (by decide) (by omega), ?_, ?_, ?_⟩
  · cases o with
    | zero => exact ⟨fun _ => rfl, fun _ => by decide⟩
    | succ o =>
      rw [← nI_1, show (nI 1 : Int32) = 1 from by decide, Int32.add_sub_cancel]
      exact ⟨fun q => absurd q (nI_pos (by omega)), fun q => absurd q (by omega)⟩
  · rw [show (0 : Int32) = nI 0 from by decide, nI_ltI (by decide) (by omega)]
  · rw [show (0 : Int32) = nI 0 from by decide, nI_eq (by decide) (by omega)]
    exact ⟨fun q => by omega, fun q => q.elim⟩
theorem dCams_f {s : kM} {cam : Int32} (hc : ∀ k, k < nC → ∃ s' r i o : Nat, s 11 k = nI s' ∧ s 12 k = nI r ∧ s 13 k = nI i ∧ s 14 k = nI o ∧ (1 ≤ s' ∧ s' ≤ 60 ∧ r ≤ 60 ∧ o ≤ 60 ∧ i ≤ 60 ∧ (o = 0 → i < s'))) (hcam : cam = -1 ∨ ∃ c, c < nC ∧ cam = nI c ∧ s 14 c = 0) (hC : nC ≤ 6) : ∀ n, n ≤ nC → dCams s cam n 13 = inA s cam n ∧ dCams s cam n 14 = offA s cam n
  | 0, _ => ⟨by funext k; unfold inA; rw [if_neg (Nat.not_lt_zero _)]; rfl, by funext k; unfold offA; rw [if_neg (Nat.not_lt_zero _)]; rfl⟩
  | n + 1, hn => by
    obtain ⟨i13, i14⟩ := dCams_f hc hcam hC n (by omega)
    obtain ⟨s', r, i, o, e11, e12, e13, e14, hb⟩ := hc n (by omega)
    obtain ⟨c1, c2, c3, c4, c5, c6, c7⟩ := cam1 hb
    have j13 : dCams s cam n 13 n = nI i := by rw [i13]; unfold inA; rw [if_neg (Nat.lt_irrefl _), e13]
    have j14 : dCams s cam n 14 n = nI o := by rw [i14]; unfold offA; rw [if_neg (Nat.lt_irrefl _), e14]
    have j11 : dCams s cam n 11 n = nI s' := by rw [dCams_g s cam n (by decide) (by decide), e11]
    have j12 : dCams s cam n 12 n = nI r := by rw [dCams_g s cam n (by decide) (by decide), e12]
    rw [dCams, ← inA_s (st := s) (cam := cam) (i := n) rfl, ← offA_s (st := s) (cam := cam) (i := n) rfl, e11, e12, e13, e14]
    by_cases d : nI n = cam
    · have ho : o = 0 := by
        rcases hcam with z | ⟨c, hcn, z, z14⟩
        · rw [z] at d; exact absurd d.symm (m1_ne (by omega))
        · rw [z, nI_eq (by omega) (by omega)] at d
          subst d
          rw [e14, nIz (by omega)] at z14
          exact z14
      subst ho
      rw [if_pos d, if_pos d, dOn, j11, j12, j13]
      by_cases q : i + 1 < s'
      · rw [if_pos (c1.mpr q), if_neg (fun z => by have := c2.mp z; omega)]
        refine ⟨by rw [← i13]; rfl, ?_⟩
        show dCams s cam n 14 = _
        rw [i14]
        funext k
        by_cases e : k = n
        · subst e
          simp only [upd, if_true, offA, if_neg (Nat.lt_irrefl _), e14]
          decide
        · simp [upd, e]
      · rw [if_neg (fun z => q (c1.mp z)), if_pos (c2.mpr (by have := hb.2.2.2.2.2 rfl; omega))]
        refine ⟨by rw [← i13]; rfl, ?_⟩
        rw [← i14]
        show upd (dCams s cam n 14) n _ = upd (dCams s cam n 14) n _
        congr 1
        by_cases q2 : r < 1
        · rw [if_pos (c3.mpr q2), if_neg (fun z => by have := c4.mp z; omega)]
        · rw [if_neg (fun z => q2 (c3.mp z))]
          by_cases q3 : 1 < r
          · rw [if_pos (c4.mpr q3)]
          · rw [if_neg (fun z => q3 (c4.mp z)), show r = 1 by omega]
            decide
    · rw [if_neg d, if_neg d, dOff, j14, if_neg (fun z => c7.mp z)]
      refine ⟨by rw [← i13]; rfl, ?_⟩
      rw [← i14]
      show upd (dCams s cam n 14) n _ = upd (dCams s cam n 14) n _
      congr 1
      by_cases q : o = 0
      · rw [if_pos (c5.mpr q), if_neg (fun z => by have := c6.mp z; omega), q]
        decide
      · rw [if_neg (fun z => q (c5.mp z)), if_pos (c6.mpr (by omega))]
theorem cntR_s {f g : Nat → Int32} {x : Int32} : ∀ {n : Nat}, (∀ k, k < n → f k = g k) → cntR f x n = cntR g x n
  | 0, _ => rfl
  | n + 1, h => by rw [cntR, cntR, cntR_s (fun k hk => h k (by omega)), h n (by omega)]
/-- one camera's numbers stay small -/
theorem cam2 {st : kM} {cam : Int32} {k : Nat} (hk : k < nC) (hC : nC ≤ 6) (h : ∃ s r i o : Nat, st 11 k = nI s ∧ st 12 k = nI r ∧ st 13 k = nI i ∧ st 14 k = nI o ∧ (1 ≤ s ∧ s ≤ 60 ∧ r ≤ 60 ∧ o ≤ 60 ∧ i ≤ 60 ∧ (o = 0 → i < s))) (hcam : cam = -1 ∨ ∃ c, c < nC ∧ cam = nI c ∧ st 14 c = 0) : ∃ s r i o : Nat, st 11 k = nI s ∧ st 12 k = nI r ∧ inA st cam nC k = nI i ∧ offA st cam nC k = nI o ∧ (1 ≤ s ∧ s ≤ 60 ∧ r ≤ 60 ∧ o ≤ 60 ∧ i ≤ 60 ∧ (o = 0 → i < s)) := by
  obtain ⟨s, r, i, o, e11, e12, e13, e14, hb⟩ := h
  obtain ⟨c1, c2, c3, c4, c5, c6, c7⟩ := cam1 hb
  unfold inA offA
  rw [if_pos hk, if_pos hk, e11, e12, e13, e14]
  by_cases d : nI k = cam
  · have ho : o = 0 := by
      rcases hcam with z | ⟨c, hcn, z, z14⟩
      · rw [z] at d; exact absurd d.symm (m1_ne (by omega))
      · rw [z, nI_eq (by omega) (by omega)] at d
        subst d
        rw [e14, nIz (by omega)] at z14
        exact z14
    subst ho
    have hi := hb.2.2.2.2.2 rfl
    rw [if_pos d]
    by_cases q : i + 1 = s
    · rw [if_pos (c2.mpr q)]
      by_cases q3 : 1 < r
      · rw [if_pos (c4.mpr q3)]
        exact ⟨s, r, i + 1, r, rfl, rfl, nI_1 _, rfl, by omega⟩
      · rw [if_neg (fun z => q3 (c4.mp z))]
        exact ⟨s, r, i + 1, 1, rfl, rfl, nI_1 _, by decide, by omega⟩
    · rw [if_neg (fun z => q (c2.mp z)), if_neg (by decide)]
      exact ⟨s, r, i + 1, 0, rfl, rfl, nI_1 _, by decide, by omega⟩
  · rw [if_neg d, if_neg (fun z => c7.mp z)]
    by_cases q : o = 0
    · subst q
      rw [if_neg (by decide)]
      exact ⟨s, r, 0, 0, rfl, rfl, by decide, by decide, by omega⟩
    · rw [if_pos (c6.mpr (by omega))]
      obtain ⟨o, rfl⟩ : ∃ p, o = p + 1 := ⟨o - 1, by omega⟩
      refine ⟨s, r, 0, o, rfl, rfl, by decide, ?_, by omega⟩
      rw [← nI_1, Int32.add_sub_cancel]
end SIM14
