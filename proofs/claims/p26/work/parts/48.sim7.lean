section SIM7
variable {st dt : kM} {nF nC nE w : Nat} {x y z : Int32} {Ec : String}
theorem dR_end (R : dR st dt nF nC nE w) {o : Nat} (ho : o < nF) (h6 : st 6 o = 0) {wn : Int32} (hwn : wn = -1 ∨ vp_in wn 10) {f30 : Nat → Int32} (hf : ∀ p, p < 10 → f30 p = dt 30 p + (if wn = nI p then 1 else 0)) : dR (ma (ma (ms st 0 0) 6 o 1) 9 o wn) (mf (ma (ma dt 6 o 1) 9 o wn) 30 f30) nF nC nE w := by
  have s6 : ∀ k, ma (ma (ms st 0 0) 6 o 1) 9 o wn 6 k = if k = o then 1 else st 6 k := fun k => by simp [ms, ma, upd]
  have s9 : ∀ k, ma (ma (ms st 0 0) 6 o 1) 9 o wn 9 k = if k = o then wn else st 9 k := fun k => by simp [ms, ma, upd]
  have hdv : dwf (mf (ma (ma dt 6 o 1) 9 o wn) 30 f30) nF nC nE w := dwf_c (dwf_9 (o := o) (v := wn) (dwf_c (dt' := ma dt 6 o 1) R.dv rfl rfl rfl rfl rfl rfl rfl rfl rfl) hwn) rfl rfl rfl rfl rfl rfl rfl rfl rfl
  have heg : ∀ g, shg g = true → mf (ma (ma dt 6 o 1) 9 o wn) 30 f30 g = ma (ma (ms st 0 0) 6 o 1) 9 o wn g := by
    intro g hg
    have c30 : g ≠ 30 := fun z => by rw [z] at hg; exact absurd hg (by decide)
    rw [← eg_ma (eg_ma (eg_0 R.eg)) g hg]
    simp [mf, c30]
  have hwin : ∀ p, p < 10 → mf (ma (ma dt 6 o 1) 9 o wn) 30 f30 30 p = winR (ma (ma (ms st 0 0) 6 o 1) 9 o wn) (nI p) nF := by
    intro p hp
    show f30 p = _
    have z := winR_u (st := st) (st' := ma (ma (ms st 0 0) 6 o 1) 9 o wn) (x := nI p) ho (fun k hk hk2 => by rw [s6, s9, if_neg hk2, if_neg hk2]; exact ⟨rfl, rfl⟩)
    have z1 : wc st o (nI p) = 0 := by rw [wc, h6, if_neg (by decide)]
    have z2 : wc (ma (ma (ms st 0 0) 6 o 1) 9 o wn) o (nI p) = if wn = nI p then 1 else 0 := by rw [wc, s6, s9, if_pos rfl, if_pos rfl, if_pos rfl]
    rw [z1, z2, Int32.add_zero] at z
    rw [z, hf p hp, R.win p hp]
  exact dR_mk (mw := R.mw) (dv := hdv) (e2 := R.e2) (e3 := R.e3) (e28 := R.e28) (eg := heg) (z6 := (fun k hk => by rw [s6, if_neg (by omega)]; exact R.z6 k hk)) (z13 := R.z13) (z25 := R.z25) (b25 := R.b25) (win := hwin) (frm := R.frm) (f17 := R.f17) (blo := R.blo) (at_ := R.at_) (cnt := R.cnt) (slo := R.slo) (o15 := R.o15) (o16 := R.o16) (cam := R.cam) (win9 := (fun k hk q => by rw [s6] at q; rw [s9]; by_cases c : k = o; (rw [if_pos c] at q; exact absurd q (by decide)); (rw [if_neg c] at q; rw [if_neg c]; exact R.win9 k hk q))) (pts := R.pts)
end SIM7
