/-! the law's state between two calls: both sides, and the array of one long -/
abbrev h00 : kH := fun _ => none
abbrev outC (E : kE) (f : Nat → Int64) : va_E := .inl (kJ E, 1, .inr (.inl f))
def kLS (E : kE) (q1 q2 po : Nat) (h : kH) : Prop := ∃ (a cap bb : Nat → Nat) (nF nC nE w : Nat) (dt st : kM) (f : Nat → Int64), a 15 = q1 ∧ bb 29 = q2 ∧ binj bb ∧ (∀ k, mdom k = true → bb k ≠ po) ∧ dgeo E a cap nF nC nE (ov E bb st (kup h00 po (outC E f))) ∧ dR st dt nF nC nE w ∧ h = dw E a cap nF nC nE dt (ov E bb st (kup h00 po (outC E f)))
section LSs
variable {E : kE} {a a' cap cap' bb : Nat → Nat} {nF nC nE w nF' nC' nE' w' : Nat} {dt dt' st st' : kM} {f f' : Nat → Int64} {po : Nat} {h0 hh : kH} {m : Int32 × kM} {r : Int32} {e e' : va_E}
theorem dgeo_ne (hg : dgeo E a cap nF nC nE (ov E bb st (kup h00 po e))) (hpo : ∀ k, mdom k = true → bb k ≠ po) {k : Nat} (hk : dD cap nF nC nE k) : a k ≠ po := by
  intro z
  have h1 := hg.2.1 k hk
  rw [z, ov_out st _ hpo, kup_s] at h1
  cases h1
theorem dgeo_e (hg : dgeo E a cap nF nC nE (ov E bb st (kup h00 po e))) (hb : binj bb) (hpo : ∀ k, mdom k = true → bb k ≠ po) : dgeo E a cap nF nC nE (ov E bb st' (kup h00 po e')) := by
  refine ⟨hg.1, fun k hk => ?_, hg.2.2⟩
  have hn := dgeo_ne hg hpo hk
  rw [ov_out st' _ (fun j hj z => ov_ne hb hg hk hj z.symm), kup_n _ _ hn]
theorem ov_po (hpo : ∀ k, mdom k = true → bb k ≠ po) : ov E bb st (kup h00 po e) po = some e := by
  rw [ov_out st _ hpo, kup_s]
theorem LS_1 (hb : binj bb) (hpo : ∀ k, mdom k = true → bb k ≠ po) (hp : LPost E a (ov E bb st (kup h00 po (outC E f))) po m r hh) : ∃ (a' cap' : Nat → Nat) (nF' nC' nE' w' : Nat) (dt' : kM) (f' : Nat → Int64), a' 15 = a 15 ∧ dR m.2 dt' nF' nC' nE' w' ∧ r = m.2 0 0 ∧ (r = 0 → f' 0 = m.1.toInt64) ∧ dgeo E a' cap' nF' nC' nE' (ov E bb st (kup h00 po (outC E f'))) ∧ hh = ov E bb st (dw E a' cap' nF' nC' nE' dt' (kup h00 po (outC E f'))) := by
  obtain ⟨a', cap', nF', nC', nE', w', dt', h1, h2, h3, h4, ⟨h5, rfl⟩ | ⟨h5, f', h6, rfl⟩⟩ := hp
  · exact ⟨a', cap', nF', nC', nE', w', dt', f, h1, h3, h4, fun z => absurd z h5, h2, dw_ov hb h2⟩
  · have h7 : dgeo E a' cap' nF' nC' nE' (ov E bb st (kup h00 po (outC E f'))) := dgeo_e h2 hb hpo
    refine ⟨a', cap', nF', nC', nE', w', dt', f', h1, h3, h4, fun _ => h6, h7, ?_⟩
    rw [ov_kup hpo hb, kup_kup]
    exact dw_ov hb h7
theorem LS_2 (hb : binj bb) (hpo : ∀ k, mdom k = true → bb k ≠ po) (h15 : a' 15 = a 15) (R : dR st' dt' nF' nC' nE' w') (hg : dgeo E a' cap' nF' nC' nE' (ov E bb st (kup h00 po (outC E f')))) : kLS E (a 15) (bb 29) po (ov E bb st' (dw E a' cap' nF' nC' nE' dt' (kup h00 po (outC E f')))) := by
  have hg2 : dgeo E a' cap' nF' nC' nE' (ov E bb st' (kup h00 po (outC E f'))) := dgeo_e hg hb hpo
  exact ⟨a', cap', bb, nF', nC', nE', w', dt', st', f', h15, rfl, hb, hpo, hg2, R, (dw_ov hb hg2).symm⟩
theorem LS_at (hpo : ∀ k, mdom k = true → bb k ≠ po) (hg : dgeo E a cap nF nC nE (ov E bb st (kup h00 po (outC E f)))) : ov E bb st' (dw E a cap nF nC nE dt (kup h00 po (outC E f))) po = some (outC E f) := by
  rw [ov_out st' _ hpo]
  unfold dw
  rw [og_out _ _ (fun k hk => dgeo_ne hg hpo hk), kup_s]
theorem LS_0 (hb : binj bb) (hz : ∀ k, mdom k = true → dw E a cap nF nC nE dt h00 (bb k) = none) (hg : dgeo E a cap nF nC nE h00) (hp : ov E bb st (dw E a cap nF nC nE dt h00) po = none) (R : dR st dt nF nC nE w) : kLS E (a 15) (bb 29) po (kup (ov E bb st (dw E a cap nF nC nE dt h00)) po (outC E f)) := by
  have hpo : ∀ k, mdom k = true → bb k ≠ po := fun k hk z => by
    rw [← z, ov_at hb st _ hk] at hp
    cases hp
  have hdw : ∀ k, dD cap nF nC nE k → dw E a cap nF nC nE dt h00 (a k) = some (dcell E a cap nF nC nE dt k) := fun k hk => og_at hg.1 _ _ hk
  have hab : ∀ k, dD cap nF nC nE k → ∀ j, mdom j = true → bb j ≠ a k := fun k hk j hj z => by
    have h1 := hz j hj
    rw [z, hdw k hk] at h1
    cases h1
  have hap : ∀ k, dD cap nF nC nE k → a k ≠ po := fun k hk z => by
    rw [← z, ov_out st _ (hab k hk), hdw k hk] at hp
    cases hp
  have hg2 : dgeo E a cap nF nC nE (ov E bb st (kup h00 po (outC E f))) := by
    refine ⟨hg.1, fun k hk => ?_, hg.2.2⟩
    rw [ov_out st _ (hab k hk), kup_n _ _ (hap k hk)]
  refine ⟨a, cap, bb, nF, nC, nE, w, dt, st, f, rfl, rfl, hb, hpo, hg2, R, ?_⟩
  rw [dw_ov hb hg2, ov_kup hpo hb]
  congr 1
  refine og_ext (D := dD cap nF nC nE) (a := a) (c := dcell E a cap nF nC nE dt) hg.1 (fun k hk => ?_) (fun q hq => ?_)
  · rw [kup_n _ _ (hap k hk), hdw k hk]
  · by_cases c : q = po
    · subst c; rw [kup_s, kup_s]
    · rw [kup_n _ _ c, kup_n _ _ c]
      exact og_out _ _ hq
end LSs
theorem lg_cmp_e (x : Int64) : lg_cmp x x = 0 := by simp [lg_cmp]
