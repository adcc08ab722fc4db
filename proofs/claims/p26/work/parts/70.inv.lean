/-! what holds of a desk between calls, beside the relation -/
def J1 (st : kM) : Prop := ∃ d, d ≤ 100 ∧ st 2 0 = nI d
def J2 (st : kM) (w : Nat) : Prop := st 3 0 = -1 ∨ ∃ s, s < w ∧ st 3 0 = nI s
def J3 (st : kM) (nF : Nat) : Prop := ∀ k, k < nF → ¬ st 6 k = 1 → st 9 k = -1
def J4 (st : kM) (nF : Nat) : Prop := ∀ k, k < nF → st 9 k = -1 ∨ st 9 k = st 7 k ∨ st 9 k = st 8 k
def J5 (st : kM) (nF nE : Nat) : Prop := ∀ e, e < nE → ∀ k, k < nF → st 21 e = nI k → st 6 k = 2 → ¬ st 25 e = 0
def J6 (st : kM) (nF nE : Nat) : Prop := ∀ e, e < nE → ∀ k, k < nF → st 21 e = nI k → st 22 e = st 7 k ∨ st 22 e = st 8 k
def J7 (st : kM) (nF nE : Nat) : Prop := ∀ k, k < nF → ¬ st 9 k = -1 → (ptsR st (nI k) (st 7 k) 3000 nE).toInt + (ptsR st (nI k) (st 8 k) 3000 nE).toInt < 2 * (ptsR st (nI k) (st 9 k) 3000 nE).toInt
def J8 (st : kM) (nC : Nat) : Prop := ∀ k, k < nC → ∃ s i o : Nat, st 11 k = nI s ∧ st 13 k = nI i ∧ st 14 k = nI o ∧ i ≤ s ∧ s ≤ 60 ∧ o ≤ 60 ∧ (0 < i → 0 < o → i = s) ∧ (o = 0 → i < s) ∧ 1 ≤ s
def J9 (st : kM) (nF w : Nat) : Prop := ∀ f, f < w → (st 17 f = -1 ↔ st 18 f = -1) ∧ (st 18 f = -1 ∨ vp_in (st 18 f) 6) ∧ (¬ st 19 f = -1 → ∃ k, k < nF ∧ st 17 f = nI k ∧ ¬ st 6 k = 2)
def JJ (st : kM) (nF nC nE w : Nat) : Prop := J1 st ∧ J2 st w ∧ J3 st nF ∧ J4 st nF ∧ J5 st nF nE ∧ J6 st nF nE ∧ J7 st nF nE ∧ J8 st nC ∧ J9 st nF w
theorem ptsR_x {st st' : kM} {f p e : Int32} : ∀ n, (∀ k, k < n → st' 21 k = st 21 k ∧ (st 21 k = f → st' 22 k = st 22 k ∧ st' 23 k = st 23 k ∧ st' 24 k = st 24 k ∧ st' 25 k = st 25 k)) → ptsR st' f p e n = ptsR st f p e n
  | 0, _ => rfl
  | n + 1, h => by
    have ih := ptsR_x (p := p) (e := e) n (fun k hk => h k (by omega))
    obtain ⟨h1, h2⟩ := h n (by omega)
    rw [ptsR, ptsR, ih, h1]
    by_cases c : st 21 n = f
    · obtain ⟨q1, q2, q3, q4⟩ := h2 c
      rw [q1, q2, q3, q4]
    · rw [if_neg c, if_neg c]
def jfl (g : Nat) : Bool := g == 2 || g == 3 || g == 6 || g == 7 || g == 8 || g == 9 || g == 11 || g == 13 || g == 14 || g == 17 || g == 18 || g == 19 || g == 21 || g == 22 || g == 23 || g == 24 || g == 25
theorem JJ_c {st st' : kM} {nF nC nE w : Nat} (h : ∀ g, jfl g = true → st' g = st g) (J : JJ st nF nC nE w) : JJ st' nF nC nE w := by
  obtain ⟨j1, j2, j3, j4, j5, j6, j7, j8, j9⟩ := J
  refine ⟨?_, ?_, ?_, ?_, ?_, ?_, ?_, ?_, ?_⟩
  · unfold J1; rw [h 2 rfl]; exact j1
  · unfold J2; rw [h 3 rfl]; exact j2
  · unfold J3; rw [h 6 rfl, h 9 rfl]; exact j3
  · unfold J4; rw [h 7 rfl, h 8 rfl, h 9 rfl]; exact j4
  · unfold J5; rw [h 21 rfl, h 6 rfl, h 25 rfl]; exact j5
  · unfold J6; rw [h 21 rfl, h 22 rfl, h 7 rfl, h 8 rfl]; exact j6
  · intro k hk
    rw [h 7 rfl, h 8 rfl, h 9 rfl]
    have e : ∀ p, ptsR st' (nI k) p 3000 nE = ptsR st (nI k) p 3000 nE := fun p => ptsR_x nE (fun j _ => by rw [h 21 rfl, h 22 rfl, h 23 rfl, h 24 rfl, h 25 rfl]; exact ⟨rfl, fun _ => ⟨rfl, rfl, rfl, rfl⟩⟩)
    rw [e, e, e]
    exact j7 k hk
  · unfold J8; rw [h 11 rfl, h 13 rfl, h 14 rfl]; exact j8
  · unfold J9; rw [h 17 rfl, h 18 rfl, h 19 rfl, h 6 rfl]; exact j9
theorem ms_o {st : kM} {k g : Nat} {v : Int32} (h : g ≠ k) : ms st k v g = st g := by simp [ms, h]
theorem ma_o {st : kM} {k i g : Nat} {v : Int32} (h : g ≠ k) : ma st k i v g = st g := by simp [ma, h]
theorem mf_o {st : kM} {k g : Nat} {f : Nat → Int32} (h : g ≠ k) : mf st k f g = st g := by simp [mf, h]
theorem jf_ne {g k : Nat} (hg : jfl g = true) (hk : jfl k = false) : g ≠ k := fun z => by rw [z, hk] at hg; cases hg
theorem JJ_s {st : kM} {nF nC nE w k : Nat} {v : Int32} (hk : jfl k = false) (J : JJ st nF nC nE w) : JJ (ms st k v) nF nC nE w := JJ_c (fun g hg => ms_o (jf_ne hg hk)) J
theorem JJ_a {st : kM} {nF nC nE w k i : Nat} {v : Int32} (hk : jfl k = false) (J : JJ st nF nC nE w) : JJ (ma st k i v) nF nC nE w := JJ_c (fun g hg => ma_o (jf_ne hg hk)) J
theorem JJ_see {st : kM} {nF nC nE w : Nat} (hw : st 1 0 = nI w) (hw3 : w ≤ 3000) (J : JJ st nF nC nE w) (h1 : J1 st) : JJ (msee st) nF nC nE w := by
  obtain ⟨j1, j2, j3, j4, j5, j6, j7, j8, j9⟩ := J
  refine ⟨j1, ?_, j3, j4, j5, j6, ?_, j8, j9⟩
  · obtain ⟨d, hd, hd2⟩ := h1
    show (if st 3 0 < st 1 0 - 1 - st 2 0 then st 1 0 - 1 - st 2 0 else st 3 0) = -1 ∨ ∃ s, s < w ∧ (if st 3 0 < st 1 0 - 1 - st 2 0 then st 1 0 - 1 - st 2 0 else st 3 0) = nI s
    by_cases c : st 3 0 < st 1 0 - 1 - st 2 0
    · rw [if_pos c]
      have e1 : (nI w).toInt = w := nI_toInt (by omega)
      have e2 : (nI d).toInt = d := nI_toInt (by omega)
      have e3 : (1 : Int32).toInt = 1 := rfl
      have e4 : (nI w - 1).toInt = w - 1 := by rw [ksub] <;> omega
      have e5 : (nI w - 1 - nI d).toInt = w - 1 - d := by rw [ksub] <;> omega
      rw [hw, hd2] at c ⊢
      have h3 : -1 ≤ (st 3 0).toInt := by
        rcases j2 with z | ⟨s, hs, z⟩
        · rw [z]; decide
        · rw [z, nI_toInt (by omega)]; omega
      rw [kI_lt, e5] at c
      obtain ⟨j, hj, _, hj2⟩ := kI_ex (x := nI w - 1 - nI d) (by omega)
      exact Or.inr ⟨j, by omega, hj⟩
    · rw [if_neg c]; exact j2
  · intro k hk
    have e : ∀ p, ptsR (msee st) (nI k) p 3000 nE = ptsR st (nI k) p 3000 nE := fun p => ptsR_x nE (fun j _ => ⟨rfl, fun _ => ⟨rfl, rfl, rfl, rfl⟩⟩)
    rw [e, e, e]
    exact j7 k hk
section JS
variable {st dt : kM} {nF nC nE w : Nat} {x y z : Int32}
theorem J_rank (J : JJ st nF nC nE w) (h1 : ¬ x < 0 ∧ x < 10) (h2 : ¬ y < 0 ∧ ¬ 99 < y) : JJ (mrank st x y).2 nF nC nE w := by
  rw [mrank, if_pos (in10.mp h1), if_pos (inr_iff.mpr h2)]
  exact JJ_a rfl (JJ_s rfl J)
theorem J_promise (J : JJ st nF nC nE w) (h1 : ¬ x < 0 ∧ x < 6) (h2 : ¬ y < 0 ∧ ¬ 1000 < y) : JJ (mpromise st x y).2 nF nC nE w := by
  rw [mpromise, if_pos (in6.mp h1), if_pos (inr_iff.mpr h2)]
  exact JJ_a rfl (JJ_s rfl J)
theorem J_slot (J : JJ st nF nC nE w) : JJ (mslot st x y).2 nF nC nE w := by
  rw [mslot]
  split
  · split
    · exact JJ_s rfl J
    · split
      · exact JJ_s rfl (JJ_a rfl (JJ_s rfl J))
      · exact JJ_s rfl J
  · exact JJ_s rfl J
theorem J_delay (R : dR st dt nF nC nE w) (J : JJ st nF nC nE w) (h : ¬ x < 0 ∧ ¬ 100 < x) : JJ (mdelay st x).2 nF nC nE w := by
  rw [mdelay, if_pos (inr_iff.mpr h)]
  have hw := mwf_w R.mw
  have hw3 : w ≤ 3000 := R.mw.2.2.2.2.2.2.2.1
  obtain ⟨j1, j2, j3, j4, j5, j6, j7, j8, j9⟩ := J
  obtain ⟨d, hd, rfl⟩ := inr_nat (m := 100) (by omega) (inr_iff.mpr h)
  have h1 : J1 (ms (ms st 0 0) 2 (nI d)) := ⟨d, hd, rfl⟩
  refine JJ_see hw hw3 ⟨h1, j2, j3, j4, j5, j6, ?_, j8, j9⟩ h1
  intro k hk
  have e : ∀ p, ptsR (ms (ms st 0 0) 2 (nI d)) (nI k) p 3000 nE = ptsR st (nI k) p 3000 nE := fun p => ptsR_x nE (fun j _ => ⟨rfl, fun _ => ⟨rfl, rfl, rfl, rfl⟩⟩)
  rw [e, e, e]
  exact j7 k hk
theorem upd_s (f : Nat → Int32) (i : Nat) (v : Int32) : upd f i v i = v := by simp [upd]
theorem upd_n (f : Nat → Int32) {i j : Nat} (v : Int32) (h : j ≠ i) : upd f i v j = f j := by simp [upd, h]
theorem J_beg (R : dR st dt nF nC nE w) (J : JJ st nF nC nE w) (hn : nF < 20) : JJ (mbegin st nF x y) (nF + 1) nC nE w := by
  obtain ⟨j1, j2, j3, j4, j5, j6, j7, j8, j9⟩ := J
  have h7 : mbegin st nF x y 7 = upd (st 7) nF x := rfl
  have h8 : mbegin st nF x y 8 = upd (st 8) nF y := rfl
  have h9 : mbegin st nF x y 9 = upd (st 9) nF (-1) := rfl
  have hent : ∀ e, e < nE → ¬ st 21 e = nI nF := fun e he z => by
    have := R.mw.2.2.2.2.2.2.2.2.2.1 e he
    exact vp_ne this (by omega) z
  have hf9 : ∀ f, f < w → ∀ k, st 17 f = nI k → True := fun _ _ _ _ => trivial
  refine ⟨j1, j2, ?_, ?_, ?_, ?_, ?_, j8, ?_⟩
  · intro k hk h6
    rw [h9]
    by_cases c : k = nF
    · rw [c, upd_s]
    · rw [upd_n _ _ c]; exact j3 k (by omega) h6
  · intro k hk
    rw [h7, h8, h9]
    by_cases c : k = nF
    · rw [c, upd_s]; exact Or.inl rfl
    · rw [upd_n _ _ c, upd_n _ _ c, upd_n _ _ c]; exact j4 k (by omega)
  · intro e he k hk h21 h6
    by_cases c : k = nF
    · subst c; exact absurd h21 (hent e he)
    · exact j5 e he k (by omega) h21 h6
  · intro e he k hk h21
    rw [h7, h8]
    by_cases c : k = nF
    · subst c; exact absurd h21 (hent e he)
    · rw [upd_n _ _ c, upd_n _ _ c]; exact j6 e he k (by omega) h21
  · intro k hk
    have e : ∀ p, ptsR (mbegin st nF x y) (nI k) p 3000 nE = ptsR st (nI k) p 3000 nE := fun p => ptsR_x nE (fun j _ => ⟨rfl, fun _ => ⟨rfl, rfl, rfl, rfl⟩⟩)
    rw [e, e, e, h7, h8, h9]
    by_cases c : k = nF
    · rw [c, upd_s]; intro z; exact absurd rfl z
    · rw [upd_n _ _ c, upd_n _ _ c, upd_n _ _ c]; exact j7 k (by omega)
  · intro f hf
    obtain ⟨q1, q2, q3⟩ := j9 f hf
    exact ⟨q1, q2, fun z => by obtain ⟨k, hk, r1, r2⟩ := q3 z; exact ⟨k, by omega, r1, r2⟩⟩
theorem dR_s0 (R : dR st dt nF nC nE w) (v : Int32) : dR (ms st 0 v) dt nF nC nE w := dR_0 R v
theorem J_fight (R : dR st dt nF nC nE w) (J : JJ st nF nC nE w) (h1 : ¬ x < 0 ∧ x < 10) (h2 : ¬ y < 0 ∧ y < 10) (h3 : ¬ x = y) (h4 : nF < 20 ∧ ¬ dBusy dt x y nF) : JJ (mfight st nF x y).2 (nF + 1) nC nE w := by
  have hb := (busy_e R (x := x) (y := y)).mpr h4.2
  have h20 : ¬ st 5 0 = 20 := by rw [mwf_F R.mw]; exact (n20_e R.mw.2.1).mpr h4.1
  rw [mfight, if_pos ⟨in10.mp h1, in10.mp h2⟩, if_neg h3, if_pos ⟨hb.1, hb.2, h20⟩]
  exact J_beg (R := dR_0 R 0) (JJ_s rfl J) h4.1
theorem J_camera (R : dR st dt nF nC nE w) (J : JJ st nF nC nE w) (h1 : ¬ x < 1 ∧ ¬ 60 < x) (h2 : ¬ y < 0 ∧ ¬ 60 < y) (hn : nC < 6) : JJ (mcamera st nC x y).2 nF (nC + 1) nE w := by
  have h6 : ¬ st 10 0 = 6 := by rw [mwf_C R.mw]; exact (n6_e R.mw.2.2.2.1).mpr hn
  rw [mcamera, if_pos ⟨inr_iff.mpr h1, inr_iff.mpr h2⟩, if_neg h6]
  obtain ⟨s, hs, rfl⟩ := inr_low (l := 1) (m := 60) (by omega) (by omega) (inr_iff.mpr h1)
  obtain ⟨j1, j2, j3, j4, j5, j6, j7, j8, j9⟩ := J
  refine ⟨j1, j2, j3, j4, j5, j6, ?_, ?_, j9⟩
  · intro k hk
    have e : ∀ p, ptsR (ms (ma (ma (ms st 0 0) 11 nC (nI s)) 12 nC y) 10 (nI (nC + 1))) (nI k) p 3000 nE = ptsR st (nI k) p 3000 nE := fun p => ptsR_x nE (fun j _ => ⟨rfl, fun _ => ⟨rfl, rfl, rfl, rfl⟩⟩)
    show ¬ st 9 k = -1 → _
    rw [e, e, e]
    exact j7 k hk
  · intro k hk
    show ∃ s' i o : Nat, upd (st 11) nC (nI s) k = nI s' ∧ st 13 k = nI i ∧ st 14 k = nI o ∧ _
    by_cases c : k = nC
    · subst c
      obtain ⟨z1, z2⟩ := R.z13 k (Nat.le_refl _)
      exact ⟨s, 0, 0, upd_s _ _ _, z1, z2, by omega, by omega, by omega, by omega, by omega, by omega⟩
    · rw [upd_n _ _ c]; exact j8 k (by omega)
theorem J_blow (R : dR st dt nF nC nE w) (J : JJ st nF nC nE w) {o : Nat} (ho : o < nF) (h1 : ¬ y < 0 ∧ y < 10) (h2 : ¬ z < 1 ∧ ¬ 9 < z) (h3 : ¬ dIsOf dt o y = 0) (h4 : dt 6 o = 0) (hn : nE < 80) : JJ (mblow st nE (nI o) y z).2 nF nC (nE + 1) w := by
  have hF := R.mw.2.1
  have he : (nI o).toNatClampNeg = o := nI_clamp (by omega)
  have hx : inr (nI o) 0 (st 5 0 - 1) = true := by rw [mwf_F R.mw]; exact (inN (by omega)).mp (nI_rng ho (by omega))
  have h80 : ¬ st 20 0 = 80 := by rw [mwf_E R.mw]; exact (n80_e R.mw.2.2.2.2.2.1).mpr hn
  have h6 : st 6 o = 0 := by rw [← R.eg 6 rfl]; exact h4
  have h7 := (isof_e R).mp h3
  rw [mblow, he, if_pos ⟨hx, in10.mp h1⟩, if_pos ⟨inr_iff.mpr h2, h7⟩, if_pos ⟨h6, h80⟩]
  show JJ (ms (ma (ma (ma (ma (ms st 0 0) 21 nE (nI o)) 22 nE y) 23 nE z) 24 nE (st 1 0)) 20 (nI (nE + 1))) nF nC (nE + 1) w
  obtain ⟨j1, j2, j3, j4, j5, j6, j7, j8, j9⟩ := J
  have hz : st 25 nE = 0 := R.z25 nE (Nat.le_refl _)
  have h21 : ∀ e, (ms (ma (ma (ma (ma (ms st 0 0) 21 nE (nI o)) 22 nE y) 23 nE z) 24 nE (st 1 0)) 20 (nI (nE + 1))) 21 e = upd (st 21) nE (nI o) e := fun e => rfl
  refine ⟨j1, j2, j3, j4, ?_, ?_, ?_, j8, j9⟩
  · intro e he2 k hk q21 q6
    rw [h21] at q21
    by_cases c : e = nE
    · rw [c, upd_s, nI_eq (by omega) (by omega)] at q21
      subst q21
      have q6' : st 6 o = 2 := q6
      rw [h6] at q6'
      exact absurd q6' (by decide)
    · rw [upd_n _ _ c] at q21
      exact j5 e (by omega) k hk q21 q6
  · intro e he2 k hk q21
    rw [h21] at q21
    show upd (st 22) nE y e = st 7 k ∨ upd (st 22) nE y e = st 8 k
    by_cases c : e = nE
    · rw [c, upd_s, nI_eq (by omega) (by omega)] at q21
      subst q21
      rw [c, upd_s]
      exact h7.imp Eq.symm Eq.symm
    · rw [upd_n _ _ c] at q21 ⊢
      exact j6 e (by omega) k hk q21
  · intro k hk
    show ¬ st 9 k = -1 → _
    intro h9
    have hk6 : st 6 k = 1 := Classical.byContradiction fun q => h9 (j3 k hk q)
    have hko : ¬ k = o := fun q => by rw [q, h6] at hk6; exact absurd hk6 (by decide)
    have e : ∀ p, ptsR (ms (ma (ma (ma (ma (ms st 0 0) 21 nE (nI o)) 22 nE y) 23 nE z) 24 nE (st 1 0)) 20 (nI (nE + 1))) (nI k) p 3000 (nE + 1) = ptsR st (nI k) p 3000 nE := fun p => by
      rw [ptsR, h21, upd_s, if_neg (fun q => hko ((nI_eq (by omega) (by omega)).mp q).symm), Int32.add_zero]
      refine ptsR_x nE (fun j hj => ?_)
      have c : j ≠ nE := by omega
      rw [h21]
      exact ⟨upd_n _ _ c, fun _ => ⟨upd_n _ _ c, upd_n _ _ c, upd_n _ _ c, rfl⟩⟩
    rw [e, e, e]
    exact j7 k hk h9
theorem J_fix (R : dR st dt nF nC nE w) {o : Nat} (ho : o < nE) (h : ¬ dCor dt o = 0) : mfix st (nI o) = 0 ∧ st 25 o = 0 ∧ ∃ k, k < nF ∧ st 21 o = nI k ∧ st 6 k = 0 := by
  have hE := R.mw.2.2.2.2.2.1
  have hF := R.mw.2.1
  have he : (nI o).toNatClampNeg = o := nI_clamp (by omega)
  have hm : mfix st (nI o) = 0 := Classical.byContradiction fun q => h ((cor_fix R ho).mpr q)
  refine ⟨hm, ?_⟩
  obtain ⟨k, hk, h21⟩ := vp_in_of (R.mw.2.2.2.2.2.2.2.2.2.1 o ho) (by omega)
  have hk2 : (nI k).toNatClampNeg = k := nI_clamp (by omega)
  rw [mfix, he, h21, hk2] at hm
  by_cases c : st 25 o = 0
  · rw [if_pos c] at hm
    by_cases c2 : st 6 k = 0
    · exact ⟨c, k, hk, h21, c2⟩
    · rw [if_neg c2] at hm; exact absurd hm (by decide)
  · rw [if_neg c] at hm; exact absurd hm (by decide)
theorem J_strike (R : dR st dt nF nC nE w) (J : JJ st nF nC nE w) {o : Nat} (ho : o < nE) (h : ¬ dCor dt o = 0) : JJ (mstrike st (nI o)).2 nF nC nE w := by
  have hE := R.mw.2.2.2.2.2.1
  have hF := R.mw.2.1
  have he : (nI o).toNatClampNeg = o := nI_clamp (by omega)
  have hx : inr (nI o) 0 (st 20 0 - 1) = true := by rw [mwf_E R.mw]; exact (inN (by omega)).mp (nI_rng ho (by omega))
  obtain ⟨hm, h25, k0, hk0, h210, h60⟩ := J_fix R ho h
  rw [mstrike, if_pos hx, if_pos hm, he]
  obtain ⟨j1, j2, j3, j4, j5, j6, j7, j8, j9⟩ := J
  refine ⟨j1, j2, j3, j4, ?_, j6, ?_, j8, j9⟩
  · intro e he2 k hk q21 q6
    show ¬ upd (st 25) o 1 e = 0
    by_cases c : e = o
    · rw [c, upd_s]; decide
    · rw [upd_n _ _ c]; exact j5 e he2 k hk q21 q6
  · intro k hk
    show ¬ st 9 k = -1 → _
    intro h9
    have hk6 : st 6 k = 1 := Classical.byContradiction fun q => h9 (j3 k hk q)
    have hko : ¬ k = k0 := fun q => by rw [q, h60] at hk6; exact absurd hk6 (by decide)
    have e : ∀ p, ptsR (ma (ms st 0 0) 25 o 1) (nI k) p 3000 nE = ptsR st (nI k) p 3000 nE := fun p => by
      refine ptsR_x nE (fun j hj => ⟨rfl, fun q => ⟨rfl, rfl, rfl, ?_⟩⟩)
      have c : j ≠ o := fun z => by rw [z, h210, nI_eq (by omega) (by omega)] at q; omega
      exact upd_n _ _ c
    rw [e, e, e]
    exact j7 k hk h9
theorem J_mend (R : dR st dt nF nC nE w) (J : JJ st nF nC nE w) {o : Nat} (ho : o < nE) (h1 : ¬ y < 1 ∧ ¬ 9 < y) (h : ¬ dCor dt o = 0) : JJ (mmend st (nI o) y).2 nF nC nE w := by
  have hE := R.mw.2.2.2.2.2.1
  have hF := R.mw.2.1
  have he : (nI o).toNatClampNeg = o := nI_clamp (by omega)
  have hx : inr (nI o) 0 (st 20 0 - 1) = true := by rw [mwf_E R.mw]; exact (inN (by omega)).mp (nI_rng ho (by omega))
  obtain ⟨hm, h25, k0, hk0, h210, h60⟩ := J_fix R ho h
  rw [mmend, if_pos hx, if_pos (inr_iff.mpr h1), if_pos hm, he]
  obtain ⟨j1, j2, j3, j4, j5, j6, j7, j8, j9⟩ := J
  refine ⟨j1, j2, j3, j4, j5, j6, ?_, j8, j9⟩
  intro k hk
  show ¬ st 9 k = -1 → _
  intro h9
  have hk6 : st 6 k = 1 := Classical.byContradiction fun q => h9 (j3 k hk q)
  have hko : ¬ k = k0 := fun q => by rw [q, h60] at hk6; exact absurd hk6 (by decide)
  have e : ∀ p, ptsR (ma (ms st 0 0) 23 o y) (nI k) p 3000 nE = ptsR st (nI k) p 3000 nE := fun p => by
    refine ptsR_x nE (fun j hj => ⟨rfl, fun q => ⟨rfl, ?_, rfl, rfl⟩⟩)
    have c : j ≠ o := fun z => by rw [z, h210, nI_eq (by omega) (by omega)] at q; omega
    exact upd_n _ _ c
  rw [e, e, e]
  exact j7 k hk h9
end JS
