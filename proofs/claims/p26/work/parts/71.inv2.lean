/-! what holds of a desk: the end of a fight, a replay, frames -/
theorem hot_0 (st : kM) (nE : Nat) : ∀ n, ¬ hotR st nE n = -1 → ∃ k, k < n ∧ hotR st nE n = nI k ∧ st 6 k = 0
  | 0, h => absurd rfl h
  | k + 1, h => by
    have ih := hot_0 st nE k
    have up : ¬ hotR st nE k = -1 → ∃ j, j < k + 1 ∧ hotR st nE k = nI j ∧ st 6 j = 0 := fun q => by
      obtain ⟨j, h1, h2, h3⟩ := ih q
      exact ⟨j, by omega, h2, h3⟩
    rw [hotR] at h ⊢
    by_cases c : st 6 k = 0
    · rw [if_pos c] at h ⊢
      by_cases c2 : hotR st nE k = -1
      · rw [if_pos c2]; exact ⟨k, by omega, rfl, c⟩
      · rw [if_neg c2] at h ⊢
        split
        · exact ⟨k, by omega, rfl, c⟩
        · split
          · split
            · exact ⟨k, by omega, rfl, c⟩
            · exact up c2
          · exact up c2
    · rw [if_neg c] at h ⊢
      exact up h
section JT
variable {st dt : kM} {nF nC nE w : Nat} {x y z : Int32}
theorem J_end (R : dR st dt nF nC nE w) (J : JJ st nF nC nE w) {o : Nat} (ho : o < nF) (h6 : dt 6 o = 0) : JJ (mend st nE (nI o)).2 nF nC nE w := by
  have hE := R.mw.2.2.2.2.2.1
  have hF := R.mw.2.1
  have he : (nI o).toNatClampNeg = o := nI_clamp (by omega)
  have hx : inr (nI o) 0 (st 5 0 - 1) = true := by rw [mwf_F R.mw]; exact (inN (by omega)).mp (nI_rng ho (by omega))
  have q6 : st 6 o = 0 := by rw [← R.eg 6 rfl]; exact h6
  rw [mend, he, if_pos hx, if_pos q6]
  obtain ⟨j1, j2, j3, j4, j5, j6, j7, j8, j9⟩ := J
  have e1 : ∀ f p, ptsR (ma (ms st 0 0) 6 o 1) f p 3000 nE = ptsR st f p 3000 nE := fun f p => ptsR_x nE (fun j _ => ⟨rfl, fun _ => ⟨rfl, rfl, rfl, rfl⟩⟩)
  obtain ⟨a, ha, ha2⟩ := ptsR_b R (nI o) (st 7 o) 3000 nE (Nat.le_refl _)
  obtain ⟨b, hb, hb2⟩ := ptsR_b R (nI o) (st 8 o) 3000 nE (Nat.le_refl _)
  have ta : (nI a).toInt = a := nI_toInt (by omega)
  have tb : (nI b).toInt = b := nI_toInt (by omega)
  have tz : (0 : Int32).toInt = 0 := rfl
  have td : (nI a - nI b).toInt = a - b := by rw [ksub] <;> omega
  simp only [e1]
  rw [ha2, hb2]
  generalize hwn : (if 0 < nI a - nI b then st 7 o else if nI a - nI b < 0 then st 8 o else -1) = wn
  have hw3 : (b < a ∧ wn = st 7 o) ∨ (a < b ∧ wn = st 8 o) ∨ wn = -1 := by
    by_cases c : 0 < nI a - nI b
    · rw [if_pos c] at hwn
      rw [kI_lt, td, tz] at c
      exact Or.inl ⟨by omega, hwn.symm⟩
    · rw [if_neg c] at hwn
      by_cases c2 : nI a - nI b < 0
      · rw [if_pos c2] at hwn
        rw [kI_lt, td, tz] at c2
        exact Or.inr (Or.inl ⟨by omega, hwn.symm⟩)
      · rw [if_neg c2] at hwn
        exact Or.inr (Or.inr hwn.symm)
  have f6 : (ma (ma (ms st 0 0) 6 o 1) 9 o wn) 6 = upd (st 6) o 1 := rfl
  have f9 : (ma (ma (ms st 0 0) 6 o 1) 9 o wn) 9 = upd (st 9) o wn := rfl
  refine ⟨j1, j2, ?_, ?_, ?_, j6, ?_, j8, ?_⟩
  · intro k hk h
    rw [f6] at h
    rw [f9]
    by_cases c : k = o
    · rw [c, upd_s] at h; exact absurd rfl h
    · rw [upd_n _ _ c] at h ⊢; exact j3 k hk h
  · intro k hk
    rw [f9]
    show upd (st 9) o wn k = -1 ∨ upd (st 9) o wn k = st 7 k ∨ upd (st 9) o wn k = st 8 k
    by_cases c : k = o
    · rw [c, upd_s]
      rcases hw3 with ⟨_, q⟩ | ⟨_, q⟩ | q
      · exact Or.inr (Or.inl q)
      · exact Or.inr (Or.inr q)
      · exact Or.inl q
    · rw [upd_n _ _ c]; exact j4 k hk
  · intro e he2 k hk q21 h
    rw [f6] at h
    by_cases c : k = o
    · rw [c, upd_s] at h; exact absurd h (by decide)
    · rw [upd_n _ _ c] at h; exact j5 e he2 k hk q21 h
  · intro k hk
    have e : ∀ p, ptsR (ma (ma (ms st 0 0) 6 o 1) 9 o wn) (nI k) p 3000 nE = ptsR st (nI k) p 3000 nE := fun p => ptsR_x nE (fun j _ => ⟨rfl, fun _ => ⟨rfl, rfl, rfl, rfl⟩⟩)
    rw [e, e, e, f9]
    show ¬ upd (st 9) o wn k = -1 → (ptsR st (nI k) (st 7 k) 3000 nE).toInt + (ptsR st (nI k) (st 8 k) 3000 nE).toInt < 2 * (ptsR st (nI k) (upd (st 9) o wn k) 3000 nE).toInt
    by_cases c : k = o
    · subst c
      rw [upd_s]
      intro h
      rw [ha2, hb2]
      rcases hw3 with ⟨q0, q⟩ | ⟨q0, q⟩ | q
      · rw [q, ha2, ta, tb]; omega
      · rw [q, hb2, ta, tb]; omega
      · exact absurd q h
    · rw [upd_n _ _ c]; exact j7 k hk
  · intro f hf
    obtain ⟨q1, q2, q3⟩ := j9 f hf
    refine ⟨q1, q2, fun z => ?_⟩
    obtain ⟨k, hk, r1, r2⟩ := q3 z
    refine ⟨k, hk, r1, ?_⟩
    rw [f6]
    by_cases c : k = o
    · rw [c, upd_s]; decide
    · rw [upd_n _ _ c]; exact r2
theorem J_replay (R : dR st dt nF nC nE w) (J : JJ st nF nC nE w) {o : Nat} (ho : o < nF) (h1 : dt 6 o = 1) (h2 : nF < 20 ∧ ¬ dBusy dt (dt 7 o) (dt 8 o) nF) : JJ (mreplay st nF nE w (nI o)).2 (nF + 1) nC nE w := by
  have hE := R.mw.2.2.2.2.2.1
  have hF := R.mw.2.1
  have he : (nI o).toNatClampNeg = o := nI_clamp (by omega)
  have hx : inr (nI o) 0 (st 5 0 - 1) = true := by rw [mwf_F R.mw]; exact (inN (by omega)).mp (nI_rng ho (by omega))
  have q6 : st 6 o = 1 := by rw [← R.eg 6 rfl]; exact h1
  have h20 : ¬ st 5 0 = 20 := by rw [mwf_F R.mw]; exact (n20_e R.mw.2.1).mpr h2.1
  have hb := (busy_e R (x := st 7 o) (y := st 8 o)).mpr (by rw [← R.eg 7 rfl, ← R.eg 8 rfl]; exact h2.2)
  rw [mreplay, he, if_pos hx, if_pos ⟨q6, hb.1, hb.2, h20⟩]
  obtain ⟨j1, j2, j3, j4, j5, j6, j7, j8, j9⟩ := J
  have hent : ∀ e, e < nE → ¬ st 21 e = nI nF := fun e he z => vp_ne (R.mw.2.2.2.2.2.2.2.2.2.1 e he) (by omega) z
  show JJ (mbegin (mf (mf (ma (ma (ms st 0 0) 6 o 2) 9 o (-1)) 25 (strA st (nI o) nE)) 19 (uncA st (nI o) w)) nF (st 7 o) (st 8 o)) (nF + 1) nC nE w
  generalize hs : mbegin (mf (mf (ma (ma (ms st 0 0) 6 o 2) 9 o (-1)) 25 (strA st (nI o) nE)) 19 (uncA st (nI o) w)) nF (st 7 o) (st 8 o) = s2
  have f6 : s2 6 = upd (st 6) o 2 := by rw [← hs]; rfl
  have f9 : s2 9 = upd (upd (st 9) o (-1)) nF (-1) := by rw [← hs]; rfl
  have f7 : s2 7 = upd (st 7) nF (st 7 o) := by rw [← hs]; rfl
  have f8 : s2 8 = upd (st 8) nF (st 8 o) := by rw [← hs]; rfl
  have f25 : s2 25 = strA st (nI o) nE := by rw [← hs]; rfl
  have f19 : s2 19 = uncA st (nI o) w := by rw [← hs]; rfl
  have f2 : s2 2 = st 2 := by rw [← hs]; rfl
  have f3 : s2 3 = st 3 := by rw [← hs]; rfl
  have f21 : s2 21 = st 21 := by rw [← hs]; rfl
  have f22 : s2 22 = st 22 := by rw [← hs]; rfl
  have f23 : s2 23 = st 23 := by rw [← hs]; rfl
  have f24 : s2 24 = st 24 := by rw [← hs]; rfl
  have f11 : s2 11 = st 11 := by rw [← hs]; rfl
  have f13 : s2 13 = st 13 := by rw [← hs]; rfl
  have f14 : s2 14 = st 14 := by rw [← hs]; rfl
  have f17 : s2 17 = st 17 := by rw [← hs]; rfl
  have f18 : s2 18 = st 18 := by rw [← hs]; rfl
  have z6 : st 6 nF = 0 := R.z6 nF (Nat.le_refl _)
  refine ⟨?_, ?_, ?_, ?_, ?_, ?_, ?_, ?_, ?_⟩
  · unfold J1; rw [f2]; exact j1
  · unfold J2; rw [f3]; exact j2
  · intro k hk h
    rw [f6] at h
    rw [f9]
    by_cases c : k = nF
    · rw [c, upd_s]
    · rw [upd_n _ _ c]
      by_cases c2 : k = o
      · rw [c2, upd_s]
      · rw [upd_n _ _ c2] at h ⊢
        exact j3 k (by omega) h
  · intro k hk
    rw [f9, f7, f8]
    by_cases c : k = nF
    · rw [c, upd_s]; exact Or.inl rfl
    · rw [upd_n _ _ c, upd_n _ _ c, upd_n _ _ c]
      by_cases c2 : k = o
      · rw [c2, upd_s]; exact Or.inl rfl
      · rw [upd_n _ _ c2]; exact j4 k (by omega)
  · intro e he2 k hk q21 h
    rw [f21] at q21
    rw [f6] at h
    rw [f25]
    show ¬ (if e < nE then (if st 25 e = 0 then (if st 21 e = nI o then (1 : Int32) else 0) else 1) else st 25 e) = 0
    rw [if_pos he2]
    by_cases c2 : k = o
    · rw [← c2, if_pos q21]
      split <;> decide
    · rw [upd_n _ _ c2] at h
      have hk2 : k < nF := by
        rcases Nat.lt_or_ge k nF with q | q
        · exact q
        · have : k = nF := by omega
          rw [this, z6] at h; exact absurd h (by decide)
      have := j5 e he2 k hk2 q21 h
      rw [if_neg this]; decide
  · intro e he2 k hk q21
    rw [f21] at q21
    rw [f22, f7, f8]
    have c : k ≠ nF := fun z => by rw [z] at q21; exact hent e he2 q21
    rw [upd_n _ _ c, upd_n _ _ c]
    exact j6 e he2 k (by omega) q21
  · intro k hk
    rw [f9, f7, f8]
    by_cases c : k = nF
    · rw [c, upd_s]; intro z; exact absurd rfl z
    · rw [upd_n _ _ c, upd_n _ _ c, upd_n _ _ c]
      by_cases c2 : k = o
      · rw [c2, upd_s]; intro z; exact absurd rfl z
      · rw [upd_n _ _ c2]
        have e : ∀ p, ptsR s2 (nI k) p 3000 nE = ptsR st (nI k) p 3000 nE := fun p => ptsR_x nE (fun j hj => by
          rw [f21, f22, f23, f24, f25]
          refine ⟨rfl, fun q => ⟨rfl, rfl, rfl, ?_⟩⟩
          show (if j < nE then (if st 25 j = 0 then (if st 21 j = nI o then (1 : Int32) else 0) else 1) else st 25 j) = st 25 j
          rw [if_pos hj, if_neg (fun z => c2 ((nI_eq (by omega) (by omega)).mp (q.symm.trans z)))]
          rcases R.b25 j with z | z
          · rw [z]; rfl
          · rw [z]; rfl)
        rw [e, e, e]
        exact j7 k (by omega)
  · unfold J8; rw [f11, f13, f14]; exact j8
  · intro f hf
    rw [f17, f18, f19]
    obtain ⟨q1, q2, q3⟩ := j9 f hf
    refine ⟨q1, q2, fun h => ?_⟩
    have hu : uncA st (nI o) w f = (if st 17 f = nI o then -1 else st 19 f) := by unfold uncA; rw [if_pos hf]
    rw [hu] at h
    by_cases c : st 17 f = nI o
    · rw [if_pos c] at h; exact absurd rfl h
    · rw [if_neg c] at h
      obtain ⟨k, hk, r1, r2⟩ := q3 h
      refine ⟨k, by omega, r1, ?_⟩
      have c2 : k ≠ o := fun z => c (by rw [r1, z])
      rw [f6, upd_n _ _ c2]; exact r2
/-- one frame -/
theorem J_pass1 (R : dR st dt nF nC nE w) (J : JJ st nF nC nE w) (hw : w < 3000) : JJ (mpasses st nF nC nE w) nF nC nE (w + 1) := by
  have hF := R.mw.2.1
  have hC := R.mw.2.2.2.1
  rw [mpasses_e]
  -- what is on air, and shown
  have hcam : (mpS st nF nC nE w).2.1 = -1 ∨ ∃ c, c < nC ∧ (mpS st nF nC nE w).2.1 = nI c ∧ st 14 c = 0 := by
    show (if hotR st nE nF = -1 then -1 else mcho st nC) = -1 ∨ ∃ c, c < nC ∧ (if hotR st nE nF = -1 then -1 else mcho st nC) = nI c ∧ st 14 c = 0
    split
    · exact Or.inl rfl
    · exact mcho_0 R.mw
  have hown : ((mpS st nF nC nE w).1 = -1 ↔ (mpS st nF nC nE w).2.1 = -1) ∧ ((mpS st nF nC nE w).1 = -1 ∨ ∃ k, k < nF ∧ (mpS st nF nC nE w).1 = nI k ∧ st 6 k = 0) := by
    show ((if (if hotR st nE nF = -1 then -1 else mcho st nC) = -1 then -1 else hotR st nE nF) = -1 ↔ (if hotR st nE nF = -1 then -1 else mcho st nC) = -1) ∧ ((if (if hotR st nE nF = -1 then -1 else mcho st nC) = -1 then -1 else hotR st nE nF) = -1 ∨ ∃ k, k < nF ∧ (if (if hotR st nE nF = -1 then -1 else mcho st nC) = -1 then -1 else hotR st nE nF) = nI k ∧ st 6 k = 0)
    by_cases c : hotR st nE nF = -1
    · rw [if_pos c, if_pos rfl]; exact ⟨Iff.rfl, Or.inl rfl⟩
    · rw [if_neg c]
      by_cases c2 : mcho st nC = -1
      · rw [if_pos c2]; exact ⟨⟨fun _ => c2, fun _ => rfl⟩, Or.inl rfl⟩
      · rw [if_neg c2]
        refine ⟨⟨fun z => absurd z c, fun z => absurd z c2⟩, Or.inr ?_⟩
        exact hot_0 st nE nF c
  generalize (mpS st nF nC nE w).1 = own at hown ⊢
  generalize (mpS st nF nC nE w).2.1 = cam at hcam hown ⊢
  generalize hsp : (if own = -1 then (-1 : Int32) else mspo st w own) = sp
  have hsp0 : own = -1 → sp = -1 := fun z => by rw [← hsp, if_pos z]
  have hmw : (mfr st nC w own cam sp) 1 0 = nI (w + 1) := rfl
  obtain ⟨j1, j2, j3, j4, j5, j6, j7, j8, j9⟩ := J
  refine JJ_see hmw hw ⟨j1, ?_, j3, j4, j5, j6, ?_, ?_, ?_⟩ j1
  · exact j2.imp id (fun ⟨s, hs, z⟩ => ⟨s, by omega, z⟩)
  · intro k hk
    have e : ∀ p, ptsR (mfr st nC w own cam sp) (nI k) p 3000 nE = ptsR st (nI k) p 3000 nE := fun p => ptsR_x nE (fun j _ => ⟨rfl, fun _ => ⟨rfl, rfl, rfl, rfl⟩⟩)
    rw [e, e, e]
    exact j7 k hk
  · intro k hk
    obtain ⟨s, i, o, a1, a2, a3, a4, a5, a6, a7, a8, a9⟩ := j8 k hk
    obtain ⟨s', r, i', o', b1, b2, b3, b4, b5⟩ := R.cam k hk
    have es : s' = s := (nI_eq (by omega) (by omega)).mp (b1.symm.trans a1)
    have ei : i' = i := (nI_eq (by omega) (by omega)).mp (b3.symm.trans a2)
    have eo : o' = o := (nI_eq (by omega) (by omega)).mp (b4.symm.trans a3)
    subst es ei eo
    show ∃ s i o : Nat, st 11 k = nI s ∧ inA st cam nC k = nI i ∧ offA st cam nC k = nI o ∧ _
    unfold inA offA
    rw [if_pos hk, if_pos hk, a1, a2, a3, b2]
    by_cases c : nI k = cam
    · have ho : o' = 0 := by
        rcases hcam with z | ⟨q, hq, z, z2⟩
        · exact absurd (c.trans z).symm (m1_ne (by omega))
        · have : k = q := (nI_eq (by omega) (by omega)).mp (c.trans z)
          subst this
          rw [a3] at z2
          exact (nIz (by omega)).mp z2
      subst ho
      rw [if_pos c]
      rw [show nI i' + 1 = nI (i' + 1) from nI_1 i']
      have hlt := a8 rfl
      by_cases c2 : i' + 1 = s'
      · refine ⟨s', i' + 1, if 1 < r then r else 1, rfl, rfl, ?_, by omega, by omega, by split <;> omega, by omega, by split <;> omega, by omega⟩
        rw [if_pos (by rw [c2])]
        have hr : ((1 : Int32) < nI r) ↔ 1 < r := by rw [show (1 : Int32) = nI 1 from rfl, nI_ltI (by omega) (by omega)]
        by_cases c3 : 1 < r
        · rw [if_pos (hr.mpr c3), if_pos c3]
        · rw [if_neg (fun z => c3 (hr.mp z)), if_neg c3]; rfl
      · refine ⟨s', i' + 1, 0, rfl, rfl, ?_, by omega, by omega, by omega, by omega, by omega, by omega⟩
        rw [if_neg (fun z => c2 ((nI_eq (by omega) (by omega)).mp z))]
        rfl
    · rw [if_neg c]
      have hz : ¬ (0 : Int32) = nI s' := by rw [show (0 : Int32) = nI 0 from rfl, nI_eq (by omega) (by omega)]; omega
      have ho : (0 : Int32) < nI o' ↔ 0 < o' := by rw [show (0 : Int32) = nI 0 from rfl, nI_ltI (by omega) (by omega)]
      rw [if_neg hz]
      refine ⟨s', 0, o' - 1, rfl, rfl, ?_, by omega, by omega, by omega, by omega, by omega, by omega⟩
      by_cases c3 : 0 < o'
      · rw [if_pos (ho.mpr c3)]
        obtain ⟨m, rfl⟩ : ∃ m, o' = m + 1 := ⟨o' - 1, by omega⟩
        rw [nI_pred]; rfl
      · rw [if_neg (fun z => c3 (ho.mp z))]
        have : o' = 0 := by omega
        subst this; rfl
  · intro f hf
    show (upd (st 17) w own f = -1 ↔ upd (st 18) w cam f = -1) ∧ (upd (st 18) w cam f = -1 ∨ vp_in (upd (st 18) w cam f) 6) ∧ (¬ upd (st 19) w sp f = -1 → ∃ k, k < nF ∧ upd (st 17) w own f = nI k ∧ ¬ st 6 k = 2)
    by_cases c : f = w
    · rw [c, upd_s, upd_s, upd_s]
      refine ⟨hown.1, ?_, fun h => ?_⟩
      · rcases hcam with z | ⟨q, hq, z, z2⟩
        · exact Or.inl z
        · right; rw [z]; exact vp_in_nI (by omega) (by decide)
      · rcases hown.2 with z | ⟨k, hk, z, z2⟩
        · exact absurd (hsp0 z) h
        · exact ⟨k, hk, z, by rw [z2]; decide⟩
    · rw [upd_n _ _ c, upd_n _ _ c, upd_n _ _ c]
      exact j9 f (by omega)
theorem J_passes (R : dR st dt nF nC nE w) (J : JJ st nF nC nE w) : ∀ i, w + i ≤ 3000 → JJ (passR st nF nC nE w i) nF nC nE (w + i)
  | 0, _ => J
  | i + 1, hi => J_pass1 (dR_pass R i (by omega)) (J_passes R J i (by omega)) (by omega)
theorem J_pass (R : dR st dt nF nC nE w) (J : JJ st nF nC nE w) (h1 : ¬ x < 1 ∧ ¬ 200 < x) (h2 : ¬ 3000 < dt 1 0 + x) {m : Nat} (hm : m ≤ 200) (hwm : w + m ≤ 3000) (hx : x = nI m) : JJ (mpass st nF nC nE w x).2 nF nC nE (w + m) := by
  have h3 : ¬ 3000 < st 1 0 + x := by rw [← R.frame_ok]; exact h2
  rw [mpass, if_pos (inr_iff.mpr h1), if_neg h3, hx, nI_clamp (by omega)]
  exact J_passes (dR_0 R 0) (JJ_s rfl J) m hwm
theorem J_start : JJ mst0 0 0 0 0 := ⟨⟨10, by omega, rfl⟩, Or.inl rfl, fun k hk => absurd hk (Nat.not_lt_zero _), fun k hk => absurd hk (Nat.not_lt_zero _), fun k hk => absurd hk (Nat.not_lt_zero _), fun k hk => absurd hk (Nat.not_lt_zero _), fun k hk => absurd hk (Nat.not_lt_zero _), fun k hk => absurd hk (Nat.not_lt_zero _), fun k hk => absurd hk (Nat.not_lt_zero _)⟩
end JT
