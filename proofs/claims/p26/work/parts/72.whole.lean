/-! counts, and what a desk shows of itself -/
def nct (f : Nat → Int32) (x : Int32) : Nat → Nat
  | 0 => 0
  | k + 1 => nct f x k + (if f k = x then 1 else 0)
def sN (f : Nat → Int32) (w : Nat) : Nat → Nat
  | 0 => 0
  | k + 1 => sN f w k + nct f (nI k) w
def pN (f : Nat → Int32) : Nat → Nat
  | 0 => 0
  | k + 1 => pN f k + (if f k < 0 then 0 else 1)
theorem nct_le (f : Nat → Int32) (x : Int32) : ∀ n, nct f x n ≤ n
  | 0 => Nat.le_refl _
  | n + 1 => by
    have ih := nct_le f x n
    rw [nct]
    split <;> omega
theorem pN_le (f : Nat → Int32) : ∀ n, pN f n ≤ n
  | 0 => Nat.le_refl _
  | n + 1 => by
    have ih := pN_le f n
    rw [pN]
    split <;> omega
theorem cnt_n (f : Nat → Int32) (x : Int32) : ∀ n, cntR f x n = nI (nct f x n)
  | 0 => rfl
  | n + 1 => by
    rw [cntR, nct, cnt_n f x n]
    by_cases c : f n = x
    · rw [if_pos c, if_pos c, nI_1]
    · rw [if_neg c, if_neg c, Int32.add_zero, Nat.add_zero]
theorem sN_0 (f : Nat → Int32) : ∀ n, sN f 0 n = 0
  | 0 => rfl
  | n + 1 => by rw [sN, sN_0 f n]; rfl
theorem sN_n {f : Nat → Int32} {w : Nat} : ∀ n, n ≤ 100 → (∀ k, k < n → ¬ f w = nI k) → sN f (w + 1) n = sN f w n
  | 0, _, _ => rfl
  | n + 1, hn, h => by
    rw [sN, sN, nct, sN_n n (by omega) (fun k hk => h k (by omega)), if_neg (h n (by omega)), Nat.add_zero]
theorem sN_y {f : Nat → Int32} {w j : Nat} (hj : f w = nI j) : ∀ n, n ≤ 100 → j < n → sN f (w + 1) n = sN f w n + 1
  | 0, _, h => absurd h (Nat.not_lt_zero _)
  | n + 1, hn, h => by
    by_cases c : j = n
    · subst c
      rw [sN, sN, nct, if_pos hj, sN_n j (by omega) (fun k hk => by rw [hj, nI_eq (by omega) (by omega)]; omega)]
      omega
    · rw [sN, sN, nct, sN_y hj n (by omega) (by omega), if_neg (by rw [hj, nI_eq (by omega) (by omega)]; exact c)]
      omega
theorem sp_e {f : Nat → Int32} {n : Nat} (hn : n ≤ 100) : ∀ w, (∀ k, k < w → f k = -1 ∨ vp_in (f k) n) → sN f w n = pN f w
  | 0, _ => sN_0 f n
  | w + 1, h => by
    have ih := sp_e hn w (fun k hk => h k (by omega))
    rw [pN]
    rcases h w (by omega) with q | q
    · rw [if_pos (by rw [q]; decide), sN_n n hn (fun k hk => by rw [q]; exact m1_ne (by omega)), ih, Nat.add_zero]
    · obtain ⟨j, hj, hj2⟩ := vp_in_of q (by omega)
      rw [if_neg (by rw [hj2]; exact nI_pos (by omega)), sN_y hj2 n hn hj, ih]
theorem pN_mono {f g : Nat → Int32} : ∀ w, (∀ k, k < w → f k < 0 → g k < 0) → pN g w ≤ pN f w
  | 0, _ => Nat.le_refl _
  | w + 1, h => by
    have ih := pN_mono w (fun k hk => h k (by omega))
    have hw := h w (by omega)
    rw [pN, pN]
    by_cases c : f w < 0
    · rw [if_pos c, if_pos (hw c)]; omega
    · rw [if_neg c]; split <;> omega
theorem ptsR_0 {st : kM} {f p e : Int32} : ∀ n, (∀ j, j < n → st 21 j = f → ¬ st 22 j = p ∨ ¬ st 25 j = 0) → ptsR st f p e n = 0
  | 0, _ => rfl
  | n + 1, h => by
    rw [ptsR, ptsR_0 n (fun j hj => h j (by omega))]
    by_cases c : st 21 n = f
    · rw [if_pos c]
      rcases h n (by omega) c with q | q
      · rw [if_neg q]; rfl
      · rw [if_neg q]
        by_cases c2 : st 22 n = p
        · rw [if_pos c2]; rfl
        · rw [if_neg c2]; rfl
    · rw [if_neg c]; rfl
theorem ptsR_m {st dt : kM} {nF nC nE w : Nat} (R : dR st dt nF nC nE w) (f p e : Int32) : ∀ n, n ≤ nE → ∃ a b, a ≤ b ∧ b ≤ 9 * n ∧ ptsR st f p e n = nI a ∧ ptsR st f p 3000 n = nI b
  | 0, _ => ⟨0, 0, Nat.le_refl _, Nat.le_refl _, rfl, rfl⟩
  | n + 1, hn => by
    obtain ⟨a, b, h1, h2, h3, h4⟩ := ptsR_m R f p e n (by omega)
    obtain ⟨q, hq, hq2⟩ := R.pts n (by omega)
    obtain ⟨t, ht, ht2⟩ := R.at_ n (by omega)
    have hw3 : w ≤ 3000 := R.mw.2.2.2.2.2.2.2.1
    have h30 : ¬ (3000 : Int32) < st 24 n := by rw [ht2, show (3000 : Int32) = nI 3000 from rfl, nI_ltI (by omega) (by omega)]; omega
    have z0 : (0 : Int32) = nI 0 := rfl
    rw [ptsR, ptsR, h3, h4]
    by_cases c1 : st 21 n = f
    · rw [if_pos c1, if_pos c1]
      by_cases c2 : st 22 n = p
      · rw [if_pos c2, if_pos c2]
        by_cases c3 : st 25 n = 0
        · rw [if_pos c3, if_pos c3, if_neg h30, hq2, nI_add]
          by_cases c4 : e < st 24 n
          · rw [if_pos c4, Int32.add_zero]; exact ⟨a, b + q, by omega, by omega, rfl, rfl⟩
          · rw [if_neg c4, nI_add]; exact ⟨a + q, b + q, by omega, by omega, rfl, rfl⟩
        · rw [if_neg c3, if_neg c3, Int32.add_zero, Int32.add_zero]; exact ⟨a, b, h1, by omega, rfl, rfl⟩
      · rw [if_neg c2, if_neg c2, Int32.add_zero, Int32.add_zero]; exact ⟨a, b, h1, by omega, rfl, rfl⟩
    · rw [if_neg c1, if_neg c1, Int32.add_zero, Int32.add_zero]; exact ⟨a, b, h1, by omega, rfl, rfl⟩
def WF1 (dt : kM) (nF nE w : Nat) : Prop := ∀ k, k < nF → (dt 6 k = 1 ∨ dt 9 k = -1) ∧ (dt 9 k = -1 ∨ dt 9 k = dt 7 k ∨ dt 9 k = dt 8 k) ∧ dt 31 k = nI (nct (dt 17) (nI k) w) ∧ (∀ p, p < 10 → ¬ dPts dt (nI w) k (nI p) nE < dPts dt (dt 3 0) k (nI p) nE ∧ (dt 6 k = 2 → dPts dt (nI w) k (nI p) nE = 0) ∧ (¬ nI p = dt 7 k → ¬ nI p = dt 8 k → dPts dt (nI w) k (nI p) nE = 0)) ∧ (¬ dt 9 k = -1 → dPts dt (nI w) k (dt 7 k) nE + dPts dt (nI w) k (dt 8 k) nE < dPts dt (nI w) k (dt 9 k) nE * nI 2)
def WF2 (dt : kM) (nC : Nat) : Prop := ∀ k, k < nC → ¬ dt 11 k < dt 13 k ∧ ¬ dt 14 k < 0 ∧ (dt 13 k = dt 11 k ↔ 0 < dt 13 k ∧ 0 < dt 14 k)
def WF3 (dt : kM) (nF w : Nat) : Prop := ∀ f, f < w → (dt 17 f < 0 ↔ dt 18 f < 0) ∧ (dt 17 f < 0 → dt 19 f = -1) ∧ (dt 19 f = -1 ∨ ∃ k, k < nF ∧ dt 17 f = nI k ∧ ¬ dt 6 k = 2)
def WH (dt : kM) (nF nC nE w : Nat) : Prop := dt 3 0 < nI w ∧ (∀ s, s < 6 → dt 33 s = nI (nct (dt 19) (nI s) w) ∧ ¬ dOwe dt s < 0) ∧ WF1 dt nF nE w ∧ WF2 dt nC ∧ WF3 dt nF w ∧ sN (dt 17) w nF = pN (dt 17) w ∧ sN (dt 19) w 6 ≤ pN (dt 17) w
section WW
variable {st dt : kM} {nF nC nE w : Nat}
theorem WF1_of (R : dR st dt nF nC nE w) (J : JJ st nF nC nE w) : WF1 dt nF nE w := by
  obtain ⟨j1, j2, j3, j4, j5, j6, j7, j8, j9⟩ := J
  have hF := R.mw.2.1
  have hE := R.mw.2.2.2.2.2.1
  intro k hk
  have e6 := R.eg 6 rfl
  have e7 := R.eg 7 rfl
  have e8 := R.eg 8 rfl
  have e9 := R.eg 9 rfl
  have e17 := R.eg 17 rfl
  have pw : ∀ p, dPts dt (nI w) k p nE = ptsR st (nI k) p 3000 nE := fun p => pts_e R hk (at_now R) nE (Nat.le_refl _)
  have pe : ∀ p, dPts dt (dt 3 0) k p nE = ptsR st (nI k) p (dt 3 0) nE := fun p => pts_e R hk (fun j hj => Iff.rfl) nE (Nat.le_refl _)
  rw [e6, e7, e8, e9, e17]
  refine ⟨?_, j4 k hk, ?_, fun p hp => ⟨?_, fun h2 => ?_, fun h7 h8 => ?_⟩, fun h9 => ?_⟩
  · by_cases c : st 6 k = 1
    · exact Or.inl c
    · exact Or.inr (j3 k hk c)
  · rw [R.frm k hk, cnt_n]
  · obtain ⟨a, b, h1, h2, h3, h4⟩ := ptsR_m R (nI k) (nI p) (dt 3 0) nE (Nat.le_refl _)
    rw [pw, pe, h3, h4, nI_ltI (by omega) (by omega)]
    omega
  · rw [pw]
    exact ptsR_0 nE (fun j hj h21 => Or.inr (j5 j hj k hk h21 h2))
  · rw [pw]
    refine ptsR_0 nE (fun j hj h21 => Or.inl (fun h22 => ?_))
    rcases j6 j hj k hk h21 with q | q
    · exact h7 (h22.symm.trans q)
    · exact h8 (h22.symm.trans q)
  · have h := j7 k hk h9
    rw [pw, pw, pw]
    obtain ⟨a, ha, ha2⟩ := ptsR_b R (nI k) (st 7 k) 3000 nE (Nat.le_refl _)
    obtain ⟨b, hb, hb2⟩ := ptsR_b R (nI k) (st 8 k) 3000 nE (Nat.le_refl _)
    obtain ⟨c, hc, hc2⟩ := ptsR_b R (nI k) (st 9 k) 3000 nE (Nat.le_refl _)
    rw [ha2, hb2, hc2, nI_toInt (by omega), nI_toInt (by omega), nI_toInt (by omega)] at h
    rw [ha2, hb2, hc2, nI_add, pk_mul, nI_ltI (by omega) (by omega)]
    omega
theorem WF2_of (R : dR st dt nF nC nE w) (J : JJ st nF nC nE w) : WF2 dt nC := by
  obtain ⟨j1, j2, j3, j4, j5, j6, j7, j8, j9⟩ := J
  intro k hk
  obtain ⟨s, i, o, a1, a2, a3, a4, a5, a6, a7, a8, a9⟩ := j8 k hk
  have z0 : (0 : Int32) = nI 0 := rfl
  rw [R.eg 11 rfl, R.eg 13 rfl, R.eg 14 rfl, a1, a2, a3, z0, nI_ltI (by omega) (by omega), nI_ltI (by omega) (by omega), nI_ltI (by omega) (by omega), nI_ltI (by omega) (by omega), nI_eq (by omega) (by omega)]
  refine ⟨by omega, by omega, fun h => ?_, fun h => a7 h.1 h.2⟩
  constructor
  · omega
  · rcases Nat.eq_zero_or_pos o with q | q
    · have := a8 q; omega
    · exact q
theorem neg_m1 {x : Int32} {n : Nat} (hn : n ≤ 100) (h : x = -1 ∨ vp_in x n) : x < 0 ↔ x = -1 := by
  rcases h with q | q
  · rw [q]; exact ⟨fun _ => rfl, fun _ => by decide⟩
  · obtain ⟨j, hj, rfl⟩ := vp_in_of q (by omega)
    exact ⟨fun z => absurd z (nI_pos (by omega)), fun z => absurd z.symm (m1_ne (by omega))⟩
theorem WF3_of (R : dR st dt nF nC nE w) (J : JJ st nF nC nE w) : WF3 dt nF w := by
  obtain ⟨j1, j2, j3, j4, j5, j6, j7, j8, j9⟩ := J
  have hF := R.mw.2.1
  intro f hf
  obtain ⟨q1, q2, q3⟩ := j9 f hf
  rw [R.eg 17 rfl, R.eg 18 rfl, R.eg 19 rfl, R.eg 6 rfl, neg_m1 (by omega) (R.f17 f hf), neg_m1 (by omega) q2]
  refine ⟨q1, fun h => ?_, ?_⟩
  · refine Classical.byContradiction fun z => ?_
    obtain ⟨k, hk, r1, r2⟩ := q3 z
    exact m1_ne (p := k) (by omega) (h.symm.trans r1)
  · by_cases c : st 19 f = -1
    · exact Or.inl c
    · exact Or.inr (q3 c)
theorem WH_of (R : dR st dt nF nC nE w) (J : JJ st nF nC nE w) : WH dt nF nC nE w := by
  have hF := R.mw.2.1
  have hw3 : w ≤ 3000 := R.mw.2.2.2.2.2.2.2.1
  have h3 := WF3_of R J
  refine ⟨?_, fun s hs => ⟨?_, ?_⟩, WF1_of R J, WF2_of R J, h3, ?_, ?_⟩
  · rw [R.e3]
    rcases J.2.1 with q | ⟨s, hs, q⟩
    · rw [q, kI_lt, nI_toInt (by omega)]
      have : (-1 : Int32).toInt = -1 := rfl
      omega
    · rw [q]; exact nI_lt hs (by omega)
  · rw [R.cnt s hs, ← R.eg 19 rfl, cnt_n]
  · unfold dOwe
    split
    · decide
    · assumption
  · exact sp_e (by omega) w (fun k hk => by rw [R.eg 17 rfl]; exact R.f17 k hk)
  · rw [sp_e (by omega) w R.dv.2.2.2.2.2.2.2.2.2.2]
    exact pN_mono w (fun k hk h => by rw [(h3 k hk).2.1 h]; decide)
end WW
theorem vp_rng {x : Int32} (h : vp_in x 10) : ¬ x < 0 ∧ x < 10 := by
  obtain ⟨j, hj, rfl⟩ := vp_in_of h (by omega)
  exact gd10 hj
