section SIM11
variable {st dt : kM} {nF nC nE w : Nat} {x y z : Int32} {Ec : String}
theorem m1_ne {p : Nat} (hp : p < 2 ^ 31) : ¬ (-1 : Int32) = nI p := by
  intro q
  have := congrArg Int32.toInt q
  rw [nI_toInt hp, show (-1 : Int32).toInt = -1 from by decide] at this
  omega
/-- a fight that is replayed: its state, its winner, the wins -/
theorem dR_rep1 (R : dR st dt nF nC nE w) {o : Nat} (ho : o < nF) (h6 : st 6 o = 1) : dR (ma (ma (ms st 0 0) 6 o 2) 9 o (-1)) (ma (dRep1 dt o) 6 o 2) nF nC nE w := by
  have hF := R.mw.2.1
  have s6 : ∀ k, ma (ma (ms st 0 0) 6 o 2) 9 o (-1) 6 k = if k = o then 2 else st 6 k := fun k => by simp [ms, ma, upd]
  have s9 : ∀ k, ma (ma (ms st 0 0) 6 o 2) 9 o (-1) 9 k = if k = o then -1 else st 9 k := fun k => by simp [ms, ma, upd]
  have h9 := (R.dv.2.2.2.2.2.2.2.2.1 o ho).2.2
  have hform : ∃ f30 : Nat → Int32, ma (dRep1 dt o) 6 o 2 = mf (ma (ma dt 6 o 2) 9 o (-1)) 30 f30 ∧ ∀ p, p < 10 → f30 p = dt 30 p - (if dt 9 o = nI p then 1 else 0) := by
    unfold dRep1
    by_cases c : dt 9 o = -1
    · refine ⟨dt 30, ?_, fun p hp => by rw [c, if_neg (m1_ne (by omega))]; simp⟩
      rw [if_pos c]
      funext g k
      by_cases g9 : g = 9
      · subst g9
        show dt 9 k = upd (dt 9) o (-1) k
        by_cases k9 : k = o
        · subst k9; rw [pk_us, c]
        · rw [pk_un k9]
      · by_cases g30 : g = 30
        · subst g30; rfl
        · simp [mf, ma, g9, g30]
    · rw [if_neg c]
      have hv := h9.resolve_left c
      have z1 : ¬ dt 9 o < 0 := fun q => hv (Or.inl q)
      obtain ⟨j, hj, ej⟩ := nI_of z1
      rw [ej, nI_clamp hj]
      refine ⟨upd (dt 30) j (dt 30 j - 1), ?_, fun p hp => ?_⟩
      · funext g k
        by_cases g9 : g = 9
        · subst g9; rfl
        · by_cases g30 : g = 30
          · subst g30; rfl
          · by_cases g6 : g = 6
            · subst g6; rfl
            · simp [mf, ma, g9, g30, g6]
      · by_cases d : j = p
        · subst d; simp [upd]
        · rw [if_neg (fun q => d ((nI_eq hj (by omega)).mp q))]; simp [upd, show ¬ p = j from fun z => d z.symm]
  obtain ⟨f30, hf, hp30⟩ := hform
  rw [hf]
  have hdv : dwf (mf (ma (ma dt 6 o 2) 9 o (-1)) 30 f30) nF nC nE w := dwf_c (dwf_9 (o := o) (v := -1) (dwf_c (dt' := ma dt 6 o 2) R.dv rfl rfl rfl rfl rfl rfl rfl rfl rfl) (Or.inl rfl)) rfl rfl rfl rfl rfl rfl rfl rfl rfl
  have heg : ∀ g, shg g = true → mf (ma (ma dt 6 o 2) 9 o (-1)) 30 f30 g = ma (ma (ms st 0 0) 6 o 2) 9 o (-1) g := by
    intro g hg
    have c30 : g ≠ 30 := fun z => by rw [z] at hg; exact absurd hg (by decide)
    rw [← eg_ma (eg_ma (eg_0 R.eg)) g hg]
    simp [mf, c30]
  have hwin : ∀ p, p < 10 → mf (ma (ma dt 6 o 2) 9 o (-1)) 30 f30 30 p = winR (ma (ma (ms st 0 0) 6 o 2) 9 o (-1)) (nI p) nF := by
    intro p hp
    show f30 p = _
    have z := winR_u (st := st) (st' := ma (ma (ms st 0 0) 6 o 2) 9 o (-1)) (x := nI p) ho (fun k hk hk2 => by rw [s6, s9, if_neg hk2, if_neg hk2]; exact ⟨rfl, rfl⟩)
    have z1 : wc st o (nI p) = if dt 9 o = nI p then 1 else 0 := by rw [wc, h6, if_pos rfl, R.eg 9 rfl]
    have z2 : wc (ma (ma (ms st 0 0) 6 o 2) 9 o (-1)) o (nI p) = 0 := by rw [wc, s6, if_pos rfl, if_neg (by decide)]
    rw [z1, z2, Int32.add_zero] at z
    rw [hp30 p hp, R.win p hp, ← z, Int32.add_sub_cancel]
  exact dR_mk (mw := R.mw) (dv := hdv) (e2 := R.e2) (e3 := R.e3) (e28 := R.e28) (eg := heg) (z6 := (fun k hk => by rw [s6, if_neg (by omega)]; exact R.z6 k hk)) (z13 := R.z13) (z25 := R.z25) (b25 := R.b25) (win := hwin) (frm := R.frm) (f17 := R.f17) (blo := R.blo) (at_ := R.at_) (cnt := R.cnt) (slo := R.slo) (o15 := R.o15) (o16 := R.o16) (cam := R.cam) (win9 := (fun k hk q => by rw [s6] at q; rw [s9]; by_cases c : k = o; (rw [if_pos c]); (rw [if_neg c] at q; rw [if_neg c]; exact R.win9 k hk q))) (pts := R.pts)
end SIM11
