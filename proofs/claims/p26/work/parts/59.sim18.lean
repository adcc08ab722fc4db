/-! pass, both sides: one frame, many frames -/
/-- the reference's state behind a frame, before the tracks are seen -/
def mfr (st : kM) (nC w : Nat) (own cam sp : Int32) : kM := ms (ms (ms (mf (mf (ma (ma (ma st 17 w own) 18 w cam) 19 w sp) 14 (offA (ma (ma (ma st 17 w own) 18 w cam) 19 w sp) cam nC)) 13 (inA (ma (ma (ma st 17 w own) 18 w cam) 19 w sp) cam nC)) 16 own) 15 cam) 1 (nI (w + 1))
theorem mfr_o {st : kM} {nC w : Nat} {own cam sp : Int32} {g : Nat} (h : g ≠ 17 ∧ g ≠ 18 ∧ g ≠ 19 ∧ g ≠ 14 ∧ g ≠ 13 ∧ g ≠ 16 ∧ g ≠ 15 ∧ g ≠ 1) : mfr st nC w own cam sp g = st g := by
  obtain ⟨h1, h2, h3, h4, h5, h6, h7, h8⟩ := h
  simp [mfr, ms, mf, ma, h1, h2, h3, h4, h5, h6, h7, h8]
section SIM15
variable {st dt : kM} {nF nC nE w : Nat} {x y z : Int32} {Ec : String}
theorem dR_frame (R : dR st dt nF nC nE w) (hw : w < 3000) {s2 : kM} {own cam sp : Int32} (hg : ∀ g, g ≠ 17 → g ≠ 18 → g ≠ 19 → g ≠ 31 → g ≠ 33 → s2 g = dt g) (h17 : s2 17 = upd (st 17) w own) (h18 : s2 18 = upd (st 18) w cam) (h19 : s2 19 = upd (st 19) w sp) (h31 : ∀ k, k < nF → s2 31 k = dt 31 k + (if own = nI k then 1 else 0)) (h33 : ∀ s, s < 6 → s2 33 s = dt 33 s + (if sp = nI s then 1 else 0)) (hown : own = -1 ∨ vp_in own nF) (hcam : cam = -1 ∨ ∃ c, c < nC ∧ cam = nI c ∧ st 14 c = 0) (hsp : sp = -1 ∨ vp_in sp 6) : dR (mfr st nC w own cam sp) (ms (dBlo (dCams s2 cam nC) nF) 1 (nI (w + 1))) nF nC nE (w + 1) := by
  have hC := R.mw.2.2.2.1
  have hF := R.mw.2.1
  have hg' : ∀ g, shg g = true → g ≠ 17 → g ≠ 18 → g ≠ 19 → s2 g = st g := fun g h a b c => by
    rw [hg g a b c (fun z => by rw [z] at h; exact absurd h (by decide)) (fun z => by rw [z] at h; exact absurd h (by decide)), R.eg g h]
  have e11 := hg' 11 rfl (by decide) (by decide) (by decide)
  have e12 := hg' 12 rfl (by decide) (by decide) (by decide)
  have e13 := hg' 13 rfl (by decide) (by decide) (by decide)
  have e14 := hg' 14 rfl (by decide) (by decide) (by decide)
  obtain ⟨k13, k14⟩ := dCams_f (nC := nC) (s := s2) (cam := cam) (fun k hk => by rw [e11, e12, e13, e14]; exact R.cam k hk) (by rw [e14]; exact hcam) hC nC (Nat.le_refl _)
  have x13 : inA s2 cam nC = inA st cam nC := by unfold inA; rw [e13]
  have x14 : offA s2 cam nC = offA st cam nC := by unfold offA; rw [e11, e12, e13, e14]
  have D : ∀ g, g ≠ 1 → g ≠ 32 → ms (dBlo (dCams s2 cam nC) nF) 1 (nI (w + 1)) g = dCams s2 cam nC g := fun g h1 h2 => by
    rw [← dBlo_g (dCams s2 cam nC) nF h2]; simp [ms, h1]
  have D' : ∀ g, g ≠ 1 → g ≠ 32 → g ≠ 13 → g ≠ 14 → ms (dBlo (dCams s2 cam nC) nF) 1 (nI (w + 1)) g = s2 g := fun g h1 h2 h3 h4 => by
    rw [D g h1 h2, dCams_g s2 cam nC h3 h4]
  have D2 : ∀ g, g ≠ 1 → g ≠ 32 → g ≠ 13 → g ≠ 14 → g ≠ 17 → g ≠ 18 → g ≠ 19 → g ≠ 31 → g ≠ 33 → ms (dBlo (dCams s2 cam nC) nF) 1 (nI (w + 1)) g = dt g := fun g h1 h2 h3 h4 h5 h6 h7 h8 h9 => by
    rw [D' g h1 h2 h3 h4, hg g h5 h6 h7 h8 h9]
  have d32 : ∀ k, k < nF → ms (dBlo (dCams s2 cam nC) nF) 1 (nI (w + 1)) 32 k = dt 32 k <<< ((1 : Int32) &&& 31) := fun k hk => by
    show dBlo (dCams s2 cam nC) nF 32 k = _
    rw [dBlo_f, if_pos hk, dCams_g s2 cam nC (by decide) (by decide), hg 32 (by decide) (by decide) (by decide) (by decide) (by decide)]
  have d17 : ms (dBlo (dCams s2 cam nC) nF) 1 (nI (w + 1)) 17 = upd (st 17) w own := by rw [D' 17 (by decide) (by decide) (by decide) (by decide), h17]
  have d18 : ms (dBlo (dCams s2 cam nC) nF) 1 (nI (w + 1)) 18 = upd (st 18) w cam := by rw [D' 18 (by decide) (by decide) (by decide) (by decide), h18]
  have d19 : ms (dBlo (dCams s2 cam nC) nF) 1 (nI (w + 1)) 19 = upd (st 19) w sp := by rw [D' 19 (by decide) (by decide) (by decide) (by decide), h19]
  have u_lt : ∀ (f : Nat → Int32) v k, k < w → upd f w v k = f k := fun f v k hk => by unfold upd; exact if_neg (by omega)
  have u_w : ∀ (f : Nat → Int32) v, upd f w v w = v := fun f v => by unfold upd; exact if_pos rfl
  obtain ⟨m1, m2, m3, m4, m5, m6, m7, m8, m9, m10, m11, m12⟩ := R.mw
  obtain ⟨q1, q2, q3, q4, q5, q6, q7, q8, q9, q10, q11⟩ := R.dv
  have hmw : mwf (mfr st nC w own cam sp) nF nC nE (w + 1) := ⟨m1, m2, m3, m4, m5, m6, rfl, hw, m9, m10, hcam.imp id (fun ⟨c, hc, z, _⟩ => ⟨c, hc, z⟩), m12⟩
  have hdv : dwf (ms (dBlo (dCams s2 cam nC) nF) 1 (nI (w + 1))) nF nC nE (w + 1) := by
    unfold dwf
    rw [D2 5, D2 10, D2 20, D2 7, D2 8, D2 9, D2 21, d19]
    · refine ⟨q1, q2, q3, q4, q5, q6, rfl, hw, q9, q10, fun k hk => ?_⟩
      by_cases c : k = w
      · rw [c, u_w]; exact hsp
      · rw [u_lt _ _ _ (by omega), ← R.eg 19 rfl]; exact q11 k (by omega)
    all_goals decide
  have heg : ∀ g, shg g = true → ms (dBlo (dCams s2 cam nC) nF) 1 (nI (w + 1)) g = mfr st nC w own cam sp g := by
    intro g hg2
    have n : ∀ m, shg m = false → g ≠ m := fun m hm z => by rw [z, hm] at hg2; cases hg2
    by_cases c13 : g = 13
    · subst c13; rw [D 13 (by decide) (by decide), k13, x13]; rfl
    by_cases c14 : g = 14
    · subst c14; rw [D 14 (by decide) (by decide), k14, x14]; rfl
    by_cases c17 : g = 17
    · subst c17; rw [d17]; rfl
    by_cases c18 : g = 18
    · subst c18; rw [d18]; rfl
    by_cases c19 : g = 19
    · subst c19; rw [d19]; rfl
    rw [D2 g (n 1 rfl) (n 32 rfl) c13 c14 c17 c18 c19 (n 31 rfl) (n 33 rfl), R.eg g hg2, mfr_o ⟨c17, c18, c19, c14, c13, n 16 rfl, n 15 rfl, n 1 rfl⟩]
  have hz13 : ∀ k, nC ≤ k → mfr st nC w own cam sp 13 k = 0 ∧ mfr st nC w own cam sp 14 k = 0 := fun k hk => by
    show inA st cam nC k = 0 ∧ offA st cam nC k = 0
    unfold inA offA
    rw [if_neg (by omega), if_neg (by omega)]
    exact R.z13 k hk
  have hwin : ∀ p, p < 10 → ms (dBlo (dCams s2 cam nC) nF) 1 (nI (w + 1)) 30 p = winR (mfr st nC w own cam sp) (nI p) nF := fun p hp => by
    rw [D2 30 (by decide) (by decide) (by decide) (by decide) (by decide) (by decide) (by decide) (by decide) (by decide)]
    exact winR_e (R.win p hp) rfl rfl
  have hcnt : ∀ (f : Nat → Int32) (v x : Int32), cntR (upd f w v) x (w + 1) = cntR f x w + (if v = x then 1 else 0) := fun f v x => by
    rw [cntR, u_w, cntR_s (fun k hk => u_lt f v k hk)]
  have hfrm : ∀ k, k < nF → ms (dBlo (dCams s2 cam nC) nF) 1 (nI (w + 1)) 31 k = cntR (mfr st nC w own cam sp 17) (nI k) (w + 1) := fun k hk => by
    rw [D' 31 (by decide) (by decide) (by decide) (by decide), h31 k hk, R.frm k hk]
    exact (hcnt (st 17) own (nI k)).symm
  have hcn : ∀ s, s < 6 → ms (dBlo (dCams s2 cam nC) nF) 1 (nI (w + 1)) 33 s = cntR (mfr st nC w own cam sp 19) (nI s) (w + 1) := fun s hs => by
    rw [D' 33 (by decide) (by decide) (by decide) (by decide), h33 s hs, R.cnt s hs]
    exact (hcnt (st 19) sp (nI s)).symm
  have hf17 : ∀ f, f < w + 1 → mfr st nC w own cam sp 17 f = -1 ∨ vp_in (mfr st nC w own cam sp 17 f) nF := fun f hf => by
    show upd (st 17) w own f = -1 ∨ vp_in (upd (st 17) w own f) nF
    by_cases c : f = w
    · rw [c, u_w]; exact hown
    · rw [u_lt _ _ _ (by omega)]; exact R.f17 f (by omega)
  have hblo : ∀ k, k < nF → ∀ j, j < 6 → ((bX (ms (dBlo (dCams s2 cam nC) nF) 1 (nI (w + 1)) 32 k)).testBit j = true ↔ ∃ e, e < nE ∧ st 21 e = nI k ∧ ∃ t, t + j = w + 1 ∧ st 24 e = nI t) := by
    intro k hk j hj
    rw [d32 k hk, tb_shl hj]
    cases j with
    | zero =>
      refine ⟨fun z => absurd z (by simp), fun ⟨e, he, h21, t, ht, h24⟩ => ?_⟩
      obtain ⟨t2, ht2, h2⟩ := R.at_ e he
      rw [h2, nI_eq (by omega) (by omega)] at h24
      omega
    | succ j =>
      rw [show (decide (1 ≤ j + 1) && (bX (dt 32 k)).testBit (j + 1 - 1)) = (bX (dt 32 k)).testBit j by simp, R.blo k hk j (by omega)]
      exact ⟨fun ⟨e, he, h21, t, ht, h24⟩ => ⟨e, he, h21, t, by omega, h24⟩, fun ⟨e, he, h21, t, ht, h24⟩ => ⟨e, he, h21, t, by omega, h24⟩⟩
  have hslo : ∀ s, s < 6 → ∀ p, p < 10 → ((bX (ms (dBlo (dCams s2 cam nC) nF) 1 (nI (w + 1)) 34 s)).testBit p = false ↔ st 27 (10 * s + p) = 0) := fun s hs p hp => by
    rw [D2 34 (by decide) (by decide) (by decide) (by decide) (by decide) (by decide) (by decide) (by decide) (by decide)]
    exact R.slo s hs p hp
  have h2e : ms (dBlo (dCams s2 cam nC) nF) 1 (nI (w + 1)) 2 0 = st 2 0 := by
    rw [D2 2 (by decide) (by decide) (by decide) (by decide) (by decide) (by decide) (by decide) (by decide) (by decide)]; exact R.e2
  have h3e : ms (dBlo (dCams s2 cam nC) nF) 1 (nI (w + 1)) 3 0 = st 3 0 := by
    rw [D2 3 (by decide) (by decide) (by decide) (by decide) (by decide) (by decide) (by decide) (by decide) (by decide)]; exact R.e3
  have h28e : ms (dBlo (dCams s2 cam nC) nF) 1 (nI (w + 1)) 28 0 = st 28 0 := by
    rw [D2 28 (by decide) (by decide) (by decide) (by decide) (by decide) (by decide) (by decide) (by decide) (by decide)]; exact R.e28
  have ho15 : mfr st nC w own cam sp 15 0 = dAhead (ms (dBlo (dCams s2 cam nC) nF) 1 (nI (w + 1))) (w + 1) 18 := by
    rw [dAhead, if_neg (Nat.succ_ne_zero _), d18, Nat.add_sub_cancel, u_w]; rfl
  have ho16 : mfr st nC w own cam sp 16 0 = dAhead (ms (dBlo (dCams s2 cam nC) nF) 1 (nI (w + 1))) (w + 1) 17 := by
    rw [dAhead, if_neg (Nat.succ_ne_zero _), d17, Nat.add_sub_cancel, u_w]; rfl
  exact dR_mk (mw := hmw) (dv := hdv) (e2 := h2e) (e3 := h3e) (e28 := h28e) (eg := heg) (z6 := R.z6) (z13 := hz13) (z25 := R.z25) (b25 := R.b25) (win := hwin) (frm := hfrm) (f17 := hf17) (blo := hblo) (at_ := (fun e he => (R.at_ e he).imp (fun t h => ⟨by omega, h.2⟩))) (cnt := hcn) (slo := hslo) (o15 := ho15) (o16 := ho16) (cam := (fun k hk => cam2 hk hC (R.cam k hk) hcam)) (win9 := R.win9) (pts := R.pts)
theorem mpasses_e (st : kM) (nF nC nE w : Nat) : mpasses st nF nC nE w = msee (mfr st nC w (mpS st nF nC nE w).1 (mpS st nF nC nE w).2.1 (if (mpS st nF nC nE w).1 = -1 then -1 else mspo st w (mpS st nF nC nE w).1)) := rfl
/-- one frame, both sides -/
theorem dR_pass1 (R : dR st dt nF nC nE w) (hw : w < 3000) : dR (mpasses st nF nC nE w) (dPass1 dt nF nC w) nF nC nE (w + 1) := by
  have hF := R.mw.2.1
  have hC := R.mw.2.2.2.1
  have e17 := R.eg 17 rfl
  have e18 := R.eg 18 rfl
  have e19 := R.eg 19 rfl
  have uu : ∀ (f : Nat → Int32) v, upd (upd f w (-1)) w v = upd f w v := fun f v => upd2 f w (-1) v
  rw [mpasses_e]
  have hh := hot_e R nF (Nat.le_refl _)
  have N : ∀ cam : Int32, cam = -1 → dR (mfr st nC w (-1) (-1) (-1)) (ms (dBlo (dCams (ma (ma (ma dt 17 w (-1)) 18 w cam) 19 w (-1)) cam nC) nF) 1 (nI (w + 1))) nF nC nE (w + 1) := by
    rintro _ rfl
    refine dR_frame R hw (fun g h1 h2 h3 _ _ => by simp [ma, h1, h2, h3]) (by rw [← e17]; rfl) (by rw [← e18]; rfl) (by rw [← e19]; rfl) (fun k hk => ?_) (fun s hs => ?_) (Or.inl rfl) (Or.inl rfl) (Or.inl rfl)
    · rw [if_neg (m1_ne (by omega))]; simp [ma]
    · rw [if_neg (m1_ne (by omega))]; simp [ma]
  rcases hh with ⟨h1, h2⟩ | ⟨o, ho, h1, h2, _⟩
  · have e0 : (mpS st nF nC nE w).1 = -1 ∧ (mpS st nF nC nE w).2.1 = -1 := by
      simp [mpS, h2]
    rw [e0.1, e0.2, if_pos rfl, dPass1, h1]
    exact dR_see (N _ (if_pos rfl))
  · have ec := cam_e R
    have hmc := mcho_0 R.mw
    have hne : ¬ nI o = -1 := fun q => m1_ne (by omega) q.symm
    have hcn : ¬ (some o : Option Nat) = none := fun q => by cases q
    by_cases c : mcho st nC = -1
    · have e0 : (mpS st nF nC nE w).1 = -1 ∧ (mpS st nF nC nE w).2.1 = -1 := by
        simp [mpS, h2, hne, c]
      rw [e0.1, e0.2, if_pos rfl, dPass1, h1]
      show dR _ (msee (ms (dBlo (dCams (if (if (some o : Option Nat) = none then (-1 : Int32) else dCam dt nC w) = -1 then _ else _) _ nC) nF) 1 (nI (w + 1)))) nF nC nE (w + 1)
      have e1 : (if (some o : Option Nat) = none then (-1 : Int32) else dCam dt nC w) = -1 := by rw [if_neg hcn, ec, c]
      rw [if_pos e1]
      exact dR_see (N _ e1)
    · have e0 : (mpS st nF nC nE w).1 = nI o ∧ (mpS st nF nC nE w).2.1 = mcho st nC := by
        simp [mpS, h2, hne, c]
      have e1 : (if (some o : Option Nat) = none then (-1 : Int32) else dCam dt nC w) = mcho st nC := by rw [if_neg hcn, ec]
      rw [e0.1, e0.2, if_neg hne, dPass1, h1]
      show dR _ (msee (ms (dBlo (dCams (if (if (some o : Option Nat) = none then (-1 : Int32) else dCam dt nC w) = -1 then _ else _) _ nC) nF) 1 (nI (w + 1)))) nF nC nE (w + 1)
      rw [e1, if_neg c]
      refine dR_see ?_
      have hsp := spo_e R ho 6 (Nat.le_refl _)
      have esp : (dSpo dt o 6).1 = mspo st w (nI o) := by
        rw [mspo, nI_clamp (by omega)]
        rcases hsp with ⟨h1, _, h3⟩ | ⟨s, _, h1, _, h3⟩ <;> rw [h1, h3]
      have vsp : mspo st w (nI o) = -1 ∨ vp_in (mspo st w (nI o)) 6 := by
        rw [mspo, nI_clamp (by omega)]
        rcases hsp with ⟨_, _, h3⟩ | ⟨s, hs, _, _, h3⟩
        · exact Or.inl h3
        · rw [h3]; exact Or.inr (vp_in_nI hs (by decide))
      have z : ∀ n, dSpo (ma (ma (ma (ma (ma dt 17 w (-1)) 18 w (mcho st nC)) 19 w (-1)) 17 w (nI o)) 31 o (ma (ma (ma dt 17 w (-1)) 18 w (mcho st nC)) 19 w (-1) 31 o + 1)) o n = dSpo dt o n := by
        intro n
        induction n with
        | zero => rfl
        | succ n ih => rw [dSpo, dSpo, ih]; rfl
      rw [dShow]
      show dR _ (ms (dBlo (dCams (if (dSpo _ o 6).1 = -1 then ma _ 19 w (dSpo _ o 6).1 else ma (ma _ 19 w (dSpo _ o 6).1) 33 (dSpo _ o 6).1.toNatClampNeg (ma _ 19 w (dSpo _ o 6).1 33 (dSpo _ o 6).1.toNatClampNeg + 1)) _ nC) nF) 1 (nI (w + 1))) nF nC nE (w + 1)
      rw [z 6, esp]
      by_cases cs : mspo st w (nI o) = -1
      · rw [if_pos cs, cs]
        refine dR_frame R hw (fun g h1 h2 h3 h4 h5 => by simp [ma, h1, h2, h3, h4]) ?_ (by rw [← e18]; rfl) ?_ (fun k hk => ?_) (fun s hs => ?_) (Or.inr (vp_in_nI ho (by omega))) hmc (Or.inl rfl)
        · rw [← e17, ← uu (dt 17)]; rfl
        · rw [← e19, ← uu (dt 19)]; rfl
        · by_cases d : k = o
          · subst d; simp [ma, upd]
          · rw [if_neg (fun q => d ((nI_eq (by omega) (by omega)).mp q).symm)]; simp [ma, upd, d]
        · rw [if_neg (m1_ne (by omega))]; simp [ma]
      · rw [if_neg cs]
        have vsp2 := vsp.resolve_left cs
        refine dR_frame R hw (fun g h1 h2 h3 h4 h5 => by simp [ma, h1, h2, h3, h4, h5]) ?_ (by rw [← e18]; rfl) ?_ (fun k hk => ?_) (fun s hs => ?_) (Or.inr (vp_in_nI ho (by omega))) hmc vsp
        · rw [← e17, ← uu (dt 17)]; rfl
        · rw [← e19, ← uu (dt 19)]; rfl
        · by_cases d : k = o
          · subst d; simp [ma, upd]
          · rw [if_neg (fun q => d ((nI_eq (by omega) (by omega)).mp q).symm)]; simp [ma, upd, d]
        · by_cases d : mspo st w (nI o) = nI s
          · rw [if_pos d, d, nI_clamp (by omega)]; simp [ma, upd]
          · have d2 : ¬ s = (mspo st w (nI o)).toNatClampNeg := fun q => d ((vp_nI vsp2 (by omega)).mp q.symm)
            rw [if_neg d]; simp [ma, upd, d2]
theorem dR_pass (R : dR st dt nF nC nE w) : ∀ i, w + i ≤ 3000 → dR (passR st nF nC nE w i) (dPass dt nF nC w i) nF nC nE (w + i)
  | 0, _ => R
  | i + 1, hi => dR_pass1 (dR_pass R i (by omega)) (by omega)
end SIM15
