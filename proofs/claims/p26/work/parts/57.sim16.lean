/-! pass, both sides: heat, the fight to be shown, the camera, the sponsor -/
section SIM13
variable {st dt : kM} {nF nC nE w : Nat} {x y z : Int32} {Ec : String}
theorem hasR_0 (st : kM) (x f : Int32) : ∀ n, hasR st x f n = 0 ↔ ¬ ∃ e, e < n ∧ st 21 e = x ∧ st 24 e = f
  | 0 => ⟨fun _ ⟨e, he, _⟩ => absurd he (Nat.not_lt_zero _), fun _ => rfl⟩
  | n + 1 => by
    have ih := hasR_0 st x f n
    rw [hasR]
    by_cases c : hasR st x f n = 0
    · rw [if_pos c]
      have h1 := ih.mp c
      by_cases c1 : st 21 n = x
      · rw [if_pos c1]
        by_cases c2 : st 24 n = f
        · rw [if_pos c2]
          exact ⟨fun z => absurd z (by decide), fun z => absurd ⟨n, by omega, c1, c2⟩ z⟩
        · rw [if_neg c2]
          refine ⟨fun _ ⟨e, he, h21, h24⟩ => ?_, fun _ => rfl⟩
          by_cases d : e = n
          · subst d; exact c2 h24
          · exact h1 ⟨e, by omega, h21, h24⟩
      · rw [if_neg c1]
        refine ⟨fun _ ⟨e, he, h21, h24⟩ => ?_, fun _ => rfl⟩
        by_cases d : e = n
        · subst d; exact c1 h21
        · exact h1 ⟨e, by omega, h21, h24⟩
    · rw [if_neg c]
      refine ⟨fun z => absurd z (by decide), fun z => absurd (ih.mpr (fun ⟨e, he, h⟩ => z ⟨e, by omega, h⟩)) c⟩
theorem fr_e {t t2 w : Nat} (ht : t ≤ 4) (ht2 : t2 ≤ w) (hw : w ≤ 3000) : nI t2 = nI w - 5 + nI t ↔ t2 + (5 - t) = w := by
  have e : nI t2 = nI w - 5 + nI t ↔ nI (t2 + 5) = nI (w + t) := by
    rw [← nI_add, ← nI_add, show (5 : Int32) = nI 5 from by decide]
    constructor
    · intro h; rw [h, Int32.add_assoc, Int32.add_comm (nI t), ← Int32.add_assoc, Int32.sub_add_cancel]
    · intro h
      have h2 := congrArg (fun q => q - nI 5) h
      simp only [Int32.add_sub_cancel] at h2
      rw [h2, Int32.sub_eq_add_neg, Int32.sub_eq_add_neg, Int32.add_assoc, Int32.add_assoc, Int32.add_comm (nI t)]
  rw [e, nI_eq (by omega) (by omega)]
  omega
theorem has_e (R : dR st dt nF nC nE w) {k t : Nat} (hk : k < nF) (ht : t ≤ 4) : hasR st (nI k) (st 1 0 - 5 + nI t) nE = 0 ↔ (bX (dt 32 k)).testBit (5 - t) = false := by
  have hw := R.mw.2.2.2.2.2.2.2.1
  have hb := R.blo k hk (5 - t) (by omega)
  rw [hasR_0, mwf_w R.mw]
  constructor
  · intro h
    cases c : (bX (dt 32 k)).testBit (5 - t) with
    | false => rfl
    | true =>
      obtain ⟨e, he, h21, t2, ht2, h24⟩ := hb.mp c
      exact absurd ⟨e, he, h21, by rw [h24, fr_e ht (by omega) hw]; exact ht2⟩ h
  · rintro h ⟨e, he, h21, h24⟩
    obtain ⟨t2, ht2, e24⟩ := R.at_ e he
    rw [e24, fr_e ht ht2 hw] at h24
    rw [hb.mpr ⟨e, he, h21, t2, h24, e24⟩] at h
    cases h
theorem heat_e (R : dR st dt nF nC nE w) {k : Nat} (hk : k < nF) : dHeat dt k = mheat st nE (nI k) := by
  have hF := R.mw.2.1
  have t : ∀ t, t ≤ 4 → (if hasR st (nI k) (st 1 0 - 5 + nI t) nE = 0 then (0 : Int32) else 10) = if (bX (dt 32 k)).testBit (5 - t) = false then 0 else 10 := by
    intro t ht
    by_cases c : hasR st (nI k) (st 1 0 - 5 + nI t) nE = 0
    · rw [if_pos c, if_pos ((has_e R hk ht).mp c)]
    · rw [if_neg c, if_neg (fun q => c ((has_e R hk ht).mpr q))]
  rw [dHeat, dHoB, bitc_62, mheat, sumR, sumR, sumR, sumR, sumR, sumR, t 0 (by decide), t 1 (by decide), t 2 (by decide), t 3 (by decide), t 4 (by decide), nI_clamp (by omega), R.eg 4 rfl, R.eg 7 rfl, R.eg 8 rfl]
  exact (heat_sum _ _).symm
theorem hot_e (R : dR st dt nF nC nE w) : ∀ n, n ≤ nF → ((dHot dt w n).1 = none ∧ hotR st nE n = -1) ∨ ∃ o, o < n ∧ (dHot dt w n).1 = some o ∧ hotR st nE n = nI o ∧ (dHot dt w n).2 = mheat st nE (nI o)
  | 0, _ => Or.inl ⟨rfl, rfl⟩
  | n + 1, hn => by
    have hF := R.mw.2.1
    have ih := hot_e R n (by omega)
    have hh := heat_e R (show n < nF by omega)
    have N : ((some n, dHeat dt n) : Option Nat × Int32).1 = some n ∧ ((some n, dHeat dt n) : Option Nat × Int32).2 = mheat st nE (nI n) := ⟨rfl, hh⟩
    have e6 : dt 6 n = st 6 n := by rw [R.eg 6 rfl]
    have e16 : (nI n = dAhead dt w 17) ↔ (nI n = st 16 0) := by rw [R.o16]
    rw [dHot, hotR]
    by_cases c6 : st 6 n = 0
    · rw [if_pos (by rw [e6]; exact c6), if_pos c6]
      rcases ih with ⟨h1, h2⟩ | ⟨o, ho, h1, h2, h3⟩
      · rw [if_pos h1, if_pos h2]
        exact Or.inr ⟨n, by omega, rfl, rfl, hh⟩
      · rw [if_neg (show ¬ (dHot dt w n).1 = none by rw [h1]; exact fun q => by cases q), if_neg (show ¬ hotR st nE n = -1 by rw [h2]; exact fun q => m1_ne (by omega) q.symm), h2, h3, hh]
        by_cases d1 : mheat st nE (nI o) < mheat st nE (nI n)
        · rw [if_pos d1, if_pos d1]
          exact Or.inr ⟨n, by omega, rfl, rfl, rfl⟩
        · rw [if_neg d1, if_neg d1]
          by_cases d2 : mheat st nE (nI n) = mheat st nE (nI o)
          · rw [if_pos d2, if_pos d2]
            by_cases d3 : nI n = st 16 0
            · rw [if_pos (e16.mpr d3), if_pos d3]
              exact Or.inr ⟨n, by omega, rfl, rfl, rfl⟩
            · rw [if_neg (fun q => d3 (e16.mp q)), if_neg d3]
              exact Or.inr ⟨o, by omega, h1, rfl, h3⟩
          · rw [if_neg d2, if_neg d2]
            exact Or.inr ⟨o, by omega, h1, rfl, h3⟩
    · rw [if_neg (by rw [e6]; exact c6), if_neg c6]
      rcases ih with h | ⟨o, ho, h⟩
      · exact Or.inl h
      · exact Or.inr ⟨o, by omega, h⟩
theorem camL_e (R : dR st dt nF nC nE w) : ∀ d, dCamL dt nC d = choR st nC d
  | 0 => rfl
  | d + 1 => by rw [dCamL, choR, R.eg 14 rfl, camL_e R d]
theorem cam_e (R : dR st dt nF nC nE w) : dCam dt nC w = mcho st nC := by
  have hC := R.mw.2.2.2.1
  rw [dCam, mcho, ← R.o15, camL_e R]
  rcases R.mw.2.2.2.2.2.2.2.2.2.2.1 with h | ⟨c, hc, h⟩
  · rw [h, if_pos (show dCan dt nC (-1) = 0 by rw [dCan, if_pos (by decide)]), if_pos (show (-1 : Int32) = -1 from rfl)]
  · rw [h, if_neg (show ¬ nI c = -1 from fun q => m1_ne (by omega) q.symm), dCan_nI hc hC, nI_clamp (by omega), R.eg 14 rfl]
    by_cases d : st 14 c = 0
    · rw [if_pos d, if_pos d, if_neg (by decide)]
    · rw [if_neg d, if_neg d, if_pos rfl]
theorem choR_0 (st : kM) (nC : Nat) : ∀ d, d ≤ nC → choR st nC d = -1 ∨ ∃ c, c < nC ∧ choR st nC d = nI c ∧ st 14 c = 0
  | 0, _ => Or.inl rfl
  | d + 1, hd => by
    rw [choR]
    by_cases c : st 14 (nC - (d + 1)) = 0
    · rw [if_pos c]; exact Or.inr ⟨nC - (d + 1), by omega, rfl, c⟩
    · rw [if_neg c]; exact choR_0 st nC d (by omega)
theorem mcho_0 (h : mwf st nF nC nE w) : mcho st nC = -1 ∨ ∃ c, c < nC ∧ mcho st nC = nI c ∧ st 14 c = 0 := by
  have hC := h.2.2.2.1
  rw [mcho]
  rcases h.2.2.2.2.2.2.2.2.2.2.1 with e | ⟨c, hc, e⟩
  · rw [e, if_pos rfl]; exact choR_0 st nC nC (Nat.le_refl _)
  · rw [e, if_neg (fun q => m1_ne (by omega) q.symm), nI_clamp (by omega)]
    by_cases d : st 14 c = 0
    · rw [if_pos d]; exact Or.inr ⟨c, hc, rfl, d⟩
    · rw [if_neg d]; exact choR_0 st nC nC (Nat.le_refl _)
theorem spo_e (R : dR st dt nF nC nE w) {o : Nat} (ho : o < nF) : ∀ n, n ≤ 6 → ((dSpo dt o n).1 = -1 ∧ (dSpo dt o n).2 = 0 ∧ spoR st w (st 7 o).toNatClampNeg (st 8 o).toNatClampNeg n = -1) ∨ ∃ s, s < n ∧ (dSpo dt o n).1 = nI s ∧ (dSpo dt o n).2 = mowed st w s ∧ spoR st w (st 7 o).toNatClampNeg (st 8 o).toNatClampNeg n = nI s
  | 0, _ => Or.inl ⟨rfl, rfl, rfl⟩
  | n + 1, hn => by
    have ih := spo_e R ho n (by omega)
    obtain ⟨v7, v8⟩ := R.mw.2.2.2.2.2.2.2.2.1 o ho
    have l7 := vp_lt v7
    have l8 := vp_lt v8
    have hb : dt 34 n &&& dBoth dt o = 0 ↔ (st 27 (10 * n + (st 7 o).toNatClampNeg) = 0 ∧ st 27 (10 * n + (st 8 o).toNatClampNeg) = 0) := by
      have e7 : st 7 o = nI (st 7 o).toNatClampNeg := (vp_nI v7 (by omega)).mp rfl
      have e8 : st 8 o = nI (st 8 o).toNatClampNeg := (vp_nI v8 (by omega)).mp rfl
      rw [dBoth, R.eg 7 rfl, R.eg 8 rfl]
      rw [← R.slo n (by omega) _ l7, ← R.slo n (by omega) _ l8, ← and_both l7 l8, ← e7, ← e8]
    have how := owe_e R (show n < 6 by omega)
    rw [dSpo, spoR, how]
    by_cases c : st 27 (10 * n + (st 7 o).toNatClampNeg) = 0 ∧ st 27 (10 * n + (st 8 o).toNatClampNeg) = 0
    · rw [if_pos (hb.mpr c), if_pos c]
      rcases ih with h | ⟨s, hs, h⟩
      · exact Or.inl h
      · exact Or.inr ⟨s, by omega, h⟩
    · rw [if_neg (fun q => c (hb.mp q)), if_neg c]
      rcases ih with ⟨h1, h2, h3⟩ | ⟨s, hs, h1, h2, h3⟩
      · rw [if_pos h3, h2]
        by_cases d : 0 < mowed st w n
        · rw [if_pos d, if_pos d]; exact Or.inr ⟨n, by omega, rfl, rfl, rfl⟩
        · rw [if_neg d, if_neg d]; exact Or.inl ⟨h1, h2, h3⟩
      · rw [if_neg (show ¬ spoR st w (st 7 o).toNatClampNeg (st 8 o).toNatClampNeg n = -1 by rw [h3]; exact fun q => m1_ne (by omega) q.symm), h2, h3, nI_clamp (by omega)]
        by_cases d : mowed st w s < mowed st w n
        · rw [if_pos d, if_pos d]; exact Or.inr ⟨n, by omega, rfl, rfl, rfl⟩
        · rw [if_neg d, if_neg d]; exact Or.inr ⟨s, by omega, h1, h2, rfl⟩
end SIM13
