section SIM12
variable {st dt : kM} {nF nC nE w : Nat} {x y z : Int32} {Ec : String}
theorem vp_nI {x : Int32} {n o : Nat} (h : vp_in x n) (ho : o < 2 ^ 31) : x.toNatClampNeg = o ↔ x = nI o := by
  have z1 : ¬ x < 0 := fun q => h (Or.inl q)
  obtain ⟨j, hj, ej⟩ := nI_of z1
  rw [ej, nI_clamp hj, nI_eq hj ho]
theorem dR_str (R : dR st dt nF nC nE w) {o : Nat} (ho : o < nF) : dR (mf st 25 (strA st (nI o) nE)) (mf dt 25 (dStr dt o nE)) nF nC nE w := by
  have hF := R.mw.2.1
  have e : dStr dt o nE = strA st (nI o) nE := by
    funext k
    unfold dStr strA
    by_cases c : k < nE
    · rw [if_pos c, if_pos c, R.eg 21 rfl, R.eg 25 rfl]
      have hv := vp_nI (R.mw.2.2.2.2.2.2.2.2.2.1 k c) (show o < 2 ^ 31 by omega)
      by_cases d : st 21 k = nI o
      · rw [if_pos (hv.mpr d), if_pos d]; split <;> rfl
      · rw [if_neg (fun q => d (hv.mp q)), if_neg d]
        rcases R.b25 k with b | b
        · rw [b, if_pos rfl]
        · rw [b, if_neg (by decide)]
    · rw [if_neg c, if_neg c, R.eg 25 rfl]
  have hz : ∀ k, nE ≤ k → strA st (nI o) nE k = 0 := fun k hk => by unfold strA; rw [if_neg (by omega)]; exact R.z25 k hk
  have hb : ∀ k, strA st (nI o) nE k = 0 ∨ strA st (nI o) nE k = 1 := by
    intro k
    unfold strA
    split
    · split
      · split
        · exact Or.inr rfl
        · exact Or.inl rfl
      · exact Or.inr rfl
    · exact R.b25 k
  rw [e]
  have hdv : dwf (mf dt 25 (strA st (nI o) nE)) nF nC nE w := dwf_c R.dv rfl rfl rfl rfl rfl rfl rfl rfl rfl
  have heg : ∀ g, shg g = true → mf dt 25 (strA st (nI o) nE) g = mf st 25 (strA st (nI o) nE) g := by
    intro g hg
    by_cases c : g = 25
    · subst c; rfl
    · simp [mf, c, R.eg g hg]
  exact dR_mk (mw := R.mw) (dv := hdv) (e2 := R.e2) (e3 := R.e3) (e28 := R.e28) (eg := heg) (z6 := R.z6) (z13 := R.z13) (z25 := hz) (b25 := hb) (win := (fun p hp => winR_e (R.win p hp) rfl rfl)) (frm := R.frm) (f17 := R.f17) (blo := R.blo) (at_ := R.at_) (cnt := R.cnt) (slo := R.slo) (o15 := R.o15) (o16 := R.o16) (cam := R.cam) (win9 := R.win9) (pts := R.pts)
theorem dR_unc (R : dR st dt nF nC nE w) (o : Nat) : dR (mf st 19 (uncA st (nI o) w)) (dUnc dt o w) nF nC nE w := by
  have G : ∀ g, g ≠ 19 → g ≠ 33 → dUnc dt o w g = dt g := fun g h1 h2 => dUnc_g dt o w h1 h2
  have eu : uncA dt (nI o) w = uncA st (nI o) w := by funext k; unfold uncA; rw [R.eg 17 rfl, R.eg 19 rfl]
  have hdv : dwf (dUnc dt o w) nF nC nE w := dUnc_wf R.dv
  have heg : ∀ g, shg g = true → dUnc dt o w g = mf st 19 (uncA st (nI o) w) g := by
    intro g hg
    have c33 : g ≠ 33 := fun z => by rw [z] at hg; exact absurd hg (by decide)
    by_cases c : g = 19
    · subst c; rw [dUnc_19f, eu]; rfl
    · rw [G g c c33, R.eg g hg]; simp [mf, c]
  have hcnt : ∀ s, s < 6 → dUnc dt o w 33 s = cntR (uncA st (nI o) w) (nI s) w := by
    intro s hs
    have z := dUnc_33 dt o w R.dv.2.2.2.2.2.2.2.2.2.2 hs w (Nat.le_refl _)
    rw [R.cnt s hs, R.eg 19 rfl, eu, Int32.add_comm (cntR (st 19) (nI s) w)] at z
    have z2 := congrArg (fun q => q - cntR (st 19) (nI s) w) z
    simpa only [Int32.add_sub_cancel] using z2
  have hwin : ∀ p, p < 10 → dUnc dt o w 30 p = winR (mf st 19 (uncA st (nI o) w)) (nI p) nF := fun p hp => by rw [G 30 (by decide) (by decide)]; exact winR_e (R.win p hp) rfl rfl
  have hah : ∀ g, g ≠ 19 → g ≠ 33 → dAhead (dUnc dt o w) w g = dAhead dt w g := fun g h1 h2 => by unfold dAhead; rw [G g h1 h2]
  exact dR_mk (mw := R.mw) (dv := hdv) (e2 := (by rw [G 2 (by decide) (by decide)]; exact R.e2)) (e3 := (by rw [G 3 (by decide) (by decide)]; exact R.e3)) (e28 := (by rw [G 28 (by decide) (by decide)]; exact R.e28)) (eg := heg) (z6 := R.z6) (z13 := R.z13) (z25 := R.z25) (b25 := R.b25) (win := hwin) (frm := (fun k hk => by rw [G 31 (by decide) (by decide)]; exact R.frm k hk)) (f17 := R.f17) (blo := (fun k hk j hj => by rw [G 32 (by decide) (by decide)]; exact R.blo k hk j hj)) (at_ := R.at_) (cnt := hcnt) (slo := (fun s hs p hp => by rw [G 34 (by decide) (by decide)]; exact R.slo s hs p hp)) (o15 := (by rw [hah 18 (by decide) (by decide)]; exact R.o15)) (o16 := (by rw [hah 17 (by decide) (by decide)]; exact R.o16)) (cam := R.cam) (win9 := R.win9) (pts := R.pts)
theorem sx_replay (R : dR st dt nF nC nE w) (h : (Ec = kIO ∧ ¬ (¬ x < 0 ∧ x < nI nF)) ∨ ∃ o, o < nF ∧ x = nI o ∧ ((Ec = kIS ∧ ¬ (dt 6 o = 1)) ∨ (Ec = kIS ∧ (dt 6 o = 1) ∧ ¬ (nF < 20 ∧ ¬ dBusy dt (dt 7 o) (dt 8 o) nF)))) : (Ec = kIO ∧ (mreplay st nF nE w x).2 = ms st 0 1) ∨ (Ec = kIS ∧ (mreplay st nF nE w x).2 = ms st 0 2) := by
  have hF := R.mw.2.1
  rcases h with ⟨rfl, h⟩ | ⟨o, ho, rfl, h⟩
  · exact Or.inl ⟨rfl, by rw [mreplay, mwf_F R.mw, if_neg (fF (inN (by omega)) h)]⟩
  · have hI : inr (nI o) 0 (nI nF - 1) = true := (inN (by omega)).mp ⟨nI_pos (by omega), nI_lt ho (by omega)⟩
    rcases h with ⟨rfl, h⟩ | ⟨rfl, h1, h⟩
    · exact Or.inr ⟨rfl, by rw [mreplay, mwf_F R.mw, if_pos hI, nI_clamp (by omega), if_neg (fun q => h (by rw [R.eg 6 rfl]; exact q.1))]⟩
    · refine Or.inr ⟨rfl, ?_⟩
      rw [mreplay, mwf_F R.mw, if_pos hI, nI_clamp (by omega), if_neg (fun q => h ⟨(n20_e hF).mp q.2.2.2, ?_⟩)]
      rw [R.eg 7 rfl, R.eg 8 rfl]
      exact (busy_e R).mp ⟨q.2.1, q.2.2.1⟩
theorem sk_replay (R : dR st dt nF nC nE w) {o : Nat} (ho : o < nF) (h1 : dt 6 o = 1) (h2 : nF < 20 ∧ ¬ dBusy dt (dt 7 o) (dt 8 o) nF) : (mreplay st nF nE w (nI o)).2 0 0 = 0 ∧ nI nF = (mreplay st nF nE w (nI o)).1 ∧ dR (mreplay st nF nE w (nI o)).2 (dBeg (dRep dt o nE w) nF (dRep dt o nE w 7 o) (dRep dt o nE w 8 o)) (nF + 1) nC nE w := by
  have hF := R.mw.2.1
  have hI : inr (nI o) 0 (nI nF - 1) = true := (inN (by omega)).mp ⟨nI_pos (by omega), nI_lt ho (by omega)⟩
  have h6 : st 6 o = 1 := by rw [← R.eg 6 rfl]; exact h1
  have hb : busyR st (st 7 o) nF = 0 ∧ busyR st (st 8 o) nF = 0 := by
    have z := h2.2
    rw [R.eg 7 rfl, R.eg 8 rfl] at z
    exact (busy_e R).mpr z
  rw [mreplay, mwf_F R.mw, if_pos hI, nI_clamp (by omega), if_pos ⟨h6, hb.1, hb.2, (n20_e hF).mpr h2.1⟩]
  refine ⟨rfl, rfl, ?_⟩
  have R1 := dR_rep1 R ho h6
  have R2 := dR_str R1 ho
  have R3 := dR_unc R2 o
  have hv := R.mw.2.2.2.2.2.2.2.2.1 o ho
  have e7 : dRep dt o nE w 7 o = st 7 o := congrFun (R3.eg 7 rfl) o
  have e8 : dRep dt o nE w 8 o = st 8 o := congrFun (R3.eg 8 rfl) o
  rw [e7, e8]
  exact dR_beg R3 h2.1 hv.1 hv.2
end SIM12
