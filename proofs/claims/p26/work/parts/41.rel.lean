/-! THE RELATION between the reference's state st and the class's state dt -/
def shg (g : Nat) : Bool := g == 4 || g == 6 || g == 7 || g == 8 || g == 9 || g == 11 || g == 12 || g == 13 || g == 14 || g == 17 || g == 18 || g == 19 || g == 21 || g == 22 || g == 23 || g == 24 || g == 25 || g == 26
def dR (st dt : kM) (nF nC nE w : Nat) : Prop :=
  (mwf st nF nC nE w) ∧
  (dwf dt nF nC nE w) ∧
  (dt 2 0 = st 2 0) ∧
  (dt 3 0 = st 3 0) ∧
  (dt 28 0 = st 28 0) ∧
  (∀ g, shg g = true → dt g = st g) ∧
  (∀ k, nF ≤ k → st 6 k = 0) ∧
  (∀ k, nC ≤ k → st 13 k = 0 ∧ st 14 k = 0) ∧
  (∀ k, nE ≤ k → st 25 k = 0) ∧
  (∀ k, st 25 k = 0 ∨ st 25 k = 1) ∧
  (∀ p, p < 10 → dt 30 p = winR st (nI p) nF) ∧
  (∀ k, k < nF → dt 31 k = cntR (st 17) (nI k) w) ∧
  (∀ f, f < w → st 17 f = -1 ∨ vp_in (st 17 f) nF) ∧
  (∀ k, k < nF → ∀ j, j < 6 → ((bX (dt 32 k)).testBit j = true ↔ ∃ e, e < nE ∧ st 21 e = nI k ∧ ∃ t, t + j = w ∧ st 24 e = nI t)) ∧
  (∀ e, e < nE → ∃ t, t ≤ w ∧ st 24 e = nI t) ∧
  (∀ s, s < 6 → dt 33 s = cntR (st 19) (nI s) w) ∧
  (∀ s, s < 6 → ∀ p, p < 10 → ((bX (dt 34 s)).testBit p = false ↔ st 27 (10 * s + p) = 0)) ∧
  (st 15 0 = dAhead dt w 18) ∧
  (st 16 0 = dAhead dt w 17) ∧
  (∀ k, k < nC → ∃ s r i o : Nat, st 11 k = nI s ∧ st 12 k = nI r ∧ st 13 k = nI i ∧ st 14 k = nI o ∧ (1 ≤ s ∧ s ≤ 60 ∧ r ≤ 60 ∧ o ≤ 60 ∧ i ≤ 60 ∧ (o = 0 → i < s))) ∧
  (∀ k, k < nF → st 6 k = 0 → st 9 k = -1) ∧
  (∀ e, e < nE → ∃ p, p ≤ 9 ∧ st 23 e = nI p)
theorem dR.mw {st dt : kM} {nF nC nE w : Nat} (R : dR st dt nF nC nE w) : mwf st nF nC nE w := R.1
theorem dR.dv {st dt : kM} {nF nC nE w : Nat} (R : dR st dt nF nC nE w) : dwf dt nF nC nE w := R.2.1
theorem dR.e2 {st dt : kM} {nF nC nE w : Nat} (R : dR st dt nF nC nE w) : dt 2 0 = st 2 0 := R.2.2.1
theorem dR.e3 {st dt : kM} {nF nC nE w : Nat} (R : dR st dt nF nC nE w) : dt 3 0 = st 3 0 := R.2.2.2.1
theorem dR.e28 {st dt : kM} {nF nC nE w : Nat} (R : dR st dt nF nC nE w) : dt 28 0 = st 28 0 := R.2.2.2.2.1
theorem dR.eg {st dt : kM} {nF nC nE w : Nat} (R : dR st dt nF nC nE w) : ∀ g, shg g = true → dt g = st g := R.2.2.2.2.2.1
theorem dR.z6 {st dt : kM} {nF nC nE w : Nat} (R : dR st dt nF nC nE w) : ∀ k, nF ≤ k → st 6 k = 0 := R.2.2.2.2.2.2.1
theorem dR.z13 {st dt : kM} {nF nC nE w : Nat} (R : dR st dt nF nC nE w) : ∀ k, nC ≤ k → st 13 k = 0 ∧ st 14 k = 0 := R.2.2.2.2.2.2.2.1
theorem dR.z25 {st dt : kM} {nF nC nE w : Nat} (R : dR st dt nF nC nE w) : ∀ k, nE ≤ k → st 25 k = 0 := R.2.2.2.2.2.2.2.2.1
theorem dR.b25 {st dt : kM} {nF nC nE w : Nat} (R : dR st dt nF nC nE w) : ∀ k, st 25 k = 0 ∨ st 25 k = 1 := R.2.2.2.2.2.2.2.2.2.1
theorem dR.win {st dt : kM} {nF nC nE w : Nat} (R : dR st dt nF nC nE w) : ∀ p, p < 10 → dt 30 p = winR st (nI p) nF := R.2.2.2.2.2.2.2.2.2.2.1
theorem dR.frm {st dt : kM} {nF nC nE w : Nat} (R : dR st dt nF nC nE w) : ∀ k, k < nF → dt 31 k = cntR (st 17) (nI k) w := R.2.2.2.2.2.2.2.2.2.2.2.1
theorem dR.f17 {st dt : kM} {nF nC nE w : Nat} (R : dR st dt nF nC nE w) : ∀ f, f < w → st 17 f = -1 ∨ vp_in (st 17 f) nF := R.2.2.2.2.2.2.2.2.2.2.2.2.1
theorem dR.blo {st dt : kM} {nF nC nE w : Nat} (R : dR st dt nF nC nE w) : ∀ k, k < nF → ∀ j, j < 6 → ((bX (dt 32 k)).testBit j = true ↔ ∃ e, e < nE ∧ st 21 e = nI k ∧ ∃ t, t + j = w ∧ st 24 e = nI t) := R.2.2.2.2.2.2.2.2.2.2.2.2.2.1
theorem dR.at_ {st dt : kM} {nF nC nE w : Nat} (R : dR st dt nF nC nE w) : ∀ e, e < nE → ∃ t, t ≤ w ∧ st 24 e = nI t := R.2.2.2.2.2.2.2.2.2.2.2.2.2.2.1
theorem dR.cnt {st dt : kM} {nF nC nE w : Nat} (R : dR st dt nF nC nE w) : ∀ s, s < 6 → dt 33 s = cntR (st 19) (nI s) w := R.2.2.2.2.2.2.2.2.2.2.2.2.2.2.2.1
theorem dR.slo {st dt : kM} {nF nC nE w : Nat} (R : dR st dt nF nC nE w) : ∀ s, s < 6 → ∀ p, p < 10 → ((bX (dt 34 s)).testBit p = false ↔ st 27 (10 * s + p) = 0) := R.2.2.2.2.2.2.2.2.2.2.2.2.2.2.2.2.1
theorem dR.o15 {st dt : kM} {nF nC nE w : Nat} (R : dR st dt nF nC nE w) : st 15 0 = dAhead dt w 18 := R.2.2.2.2.2.2.2.2.2.2.2.2.2.2.2.2.2.1
theorem dR.o16 {st dt : kM} {nF nC nE w : Nat} (R : dR st dt nF nC nE w) : st 16 0 = dAhead dt w 17 := R.2.2.2.2.2.2.2.2.2.2.2.2.2.2.2.2.2.2.1
theorem dR.cam {st dt : kM} {nF nC nE w : Nat} (R : dR st dt nF nC nE w) : ∀ k, k < nC → ∃ s r i o : Nat, st 11 k = nI s ∧ st 12 k = nI r ∧ st 13 k = nI i ∧ st 14 k = nI o ∧ (1 ≤ s ∧ s ≤ 60 ∧ r ≤ 60 ∧ o ≤ 60 ∧ i ≤ 60 ∧ (o = 0 → i < s)) := R.2.2.2.2.2.2.2.2.2.2.2.2.2.2.2.2.2.2.2.1
theorem dR.win9 {st dt : kM} {nF nC nE w : Nat} (R : dR st dt nF nC nE w) : ∀ k, k < nF → st 6 k = 0 → st 9 k = -1 := R.2.2.2.2.2.2.2.2.2.2.2.2.2.2.2.2.2.2.2.2.1
theorem dR.pts {st dt : kM} {nF nC nE w : Nat} (R : dR st dt nF nC nE w) : ∀ e, e < nE → ∃ p, p ≤ 9 ∧ st 23 e = nI p := R.2.2.2.2.2.2.2.2.2.2.2.2.2.2.2.2.2.2.2.2.2
theorem dR_mk {st dt : kM} {nF nC nE w : Nat} (mw : mwf st nF nC nE w) (dv : dwf dt nF nC nE w) (e2 : dt 2 0 = st 2 0) (e3 : dt 3 0 = st 3 0) (e28 : dt 28 0 = st 28 0) (eg : ∀ g, shg g = true → dt g = st g) (z6 : ∀ k, nF ≤ k → st 6 k = 0) (z13 : ∀ k, nC ≤ k → st 13 k = 0 ∧ st 14 k = 0) (z25 : ∀ k, nE ≤ k → st 25 k = 0) (b25 : ∀ k, st 25 k = 0 ∨ st 25 k = 1) (win : ∀ p, p < 10 → dt 30 p = winR st (nI p) nF) (frm : ∀ k, k < nF → dt 31 k = cntR (st 17) (nI k) w) (f17 : ∀ f, f < w → st 17 f = -1 ∨ vp_in (st 17 f) nF) (blo : ∀ k, k < nF → ∀ j, j < 6 → ((bX (dt 32 k)).testBit j = true ↔ ∃ e, e < nE ∧ st 21 e = nI k ∧ ∃ t, t + j = w ∧ st 24 e = nI t)) (at_ : ∀ e, e < nE → ∃ t, t ≤ w ∧ st 24 e = nI t) (cnt : ∀ s, s < 6 → dt 33 s = cntR (st 19) (nI s) w) (slo : ∀ s, s < 6 → ∀ p, p < 10 → ((bX (dt 34 s)).testBit p = false ↔ st 27 (10 * s + p) = 0)) (o15 : st 15 0 = dAhead dt w 18) (o16 : st 16 0 = dAhead dt w 17) (cam : ∀ k, k < nC → ∃ s r i o : Nat, st 11 k = nI s ∧ st 12 k = nI r ∧ st 13 k = nI i ∧ st 14 k = nI o ∧ (1 ≤ s ∧ s ≤ 60 ∧ r ≤ 60 ∧ o ≤ 60 ∧ i ≤ 60 ∧ (o = 0 → i < s))) (win9 : ∀ k, k < nF → st 6 k = 0 → st 9 k = -1) (pts : ∀ e, e < nE → ∃ p, p ≤ 9 ∧ st 23 e = nI p) : dR st dt nF nC nE w := ⟨mw, dv, e2, e3, e28, eg, z6, z13, z25, b25, win, frm, f17, blo, at_, cnt, slo, o15, o16, cam, win9, pts⟩

theorem winR_c {st st' : kM} (h6 : st' 6 = st 6) (h9 : st' 9 = st 9) (x : Int32) : ∀ n, winR st' x n = winR st x n
  | 0 => rfl
  | n + 1 => by rw [winR, winR, winR_c h6 h9 x n, h6, h9]
theorem winR_e {st st' : kM} {x r : Int32} {n : Nat} (h : r = winR st x n) (h6 : st' 6 = st 6) (h9 : st' 9 = st 9) : r = winR st' x n := h.trans (winR_c h6 h9 x n).symm
theorem eg_0 {st dt : kM} {v : Int32} (h : ∀ g, shg g = true → dt g = st g) : ∀ g, shg g = true → dt g = ms st 0 v g := fun g hg => by
  have h0 : g ≠ 0 := fun z => by rw [z] at hg; exact absurd hg (by decide)
  rw [h g hg]
  simp [ms, h0]
theorem eg_ma {st dt : kM} {f i : Nat} {v : Int32} (h : ∀ g, shg g = true → dt g = st g) : ∀ g, shg g = true → ma dt f i v g = ma st f i v g := fun g hg => by
  by_cases c : g = f
  · subst c
    show (if g = g then upd (dt g) i v else dt g) = (if g = g then upd (st g) i v else st g)
    rw [h g hg]
  · show (if g = f then upd (dt f) i v else dt g) = (if g = f then upd (st f) i v else st g)
    rw [if_neg c, if_neg c, h g hg]
theorem dR_0 {st dt : kM} {nF nC nE w : Nat} (R : dR st dt nF nC nE w) (v : Int32) : dR (ms st 0 v) dt nF nC nE w := by
  exact dR_mk (mw := R.mw) (dv := R.dv) (e2 := R.e2) (e3 := R.e3) (e28 := R.e28) (eg := eg_0 R.eg) (z6 := R.z6) (z13 := R.z13) (z25 := R.z25) (b25 := R.b25) (win := (fun p hp => winR_e (R.win p hp) rfl rfl)) (frm := R.frm) (f17 := R.f17) (blo := R.blo) (at_ := R.at_) (cnt := R.cnt) (slo := R.slo) (o15 := R.o15) (o16 := R.o16) (cam := R.cam) (win9 := R.win9) (pts := R.pts)
/-! bounds as the class and as the reference look at them -/
theorem in10 {x : Int32} : (¬ x < 0 ∧ x < 10) ↔ inr x 0 9 = true := by
  rw [inr_iff, kI_lt, kI_lt, kI_lt, show (0 : Int32).toInt = 0 from rfl, show (10 : Int32).toInt = 10 from rfl, show (9 : Int32).toInt = 9 from rfl]
  omega
theorem in6 {x : Int32} : (¬ x < 0 ∧ x < 6) ↔ inr x 0 5 = true := by
  rw [inr_iff, kI_lt, kI_lt, kI_lt, show (0 : Int32).toInt = 0 from rfl, show (6 : Int32).toInt = 6 from rfl, show (5 : Int32).toInt = 5 from rfl]
  omega
theorem inN {x : Int32} {n : Nat} (hn : n < 2 ^ 31) : (¬ x < 0 ∧ x < nI n) ↔ inr x 0 (nI n - 1) = true := by
  constructor
  · rintro ⟨h1, h2⟩
    obtain ⟨j, hj, rfl⟩ := nat_of h1 h2 hn
    cases n with
    | zero => exact absurd hj (Nat.not_lt_zero _)
    | succ n =>
      rw [nI_pred]
      exact inr_t h1 (nI_nlt (by omega) (by omega))
  · intro h
    obtain ⟨j, hj, rfl⟩ := inr_pred hn h
    exact ⟨nI_pos (by omega), nI_lt hj hn⟩
theorem fF {b : Bool} {P : Prop} (h : P ↔ b = true) (n : ¬ P) : ¬ b = true := fun z => n (h.mpr z)
section SIM
variable {st dt : kM} {nF nC nE w : Nat} {x y z : Int32} {Ec : String}
/-- rank -/
theorem sx_rank (R : dR st dt nF nC nE w) (h : (Ec = kIO ∧ ¬ (¬ x < 0 ∧ x < 10)) ∨ (Ec = kIA ∧ (¬ x < 0 ∧ x < 10) ∧ ¬ (¬ y < 0 ∧ ¬ 99 < y))) : (Ec = kIO ∧ (mrank st x y).2 = ms st 0 1) ∨ (Ec = kIA ∧ (mrank st x y).2 = ms st 0 2) := by
  rcases h with ⟨rfl, h⟩ | ⟨rfl, h1, h2⟩
  · exact Or.inl ⟨rfl, by rw [mrank, if_neg (fF in10 h)]⟩
  · exact Or.inr ⟨rfl, by rw [mrank, if_pos (in10.mp h1), if_neg (fF inr_iff.symm h2)]⟩
theorem sk_rank (R : dR st dt nF nC nE w) (h1 : ¬ x < 0 ∧ x < 10) (h2 : ¬ y < 0 ∧ ¬ 99 < y) : (mrank st x y).2 0 0 = 0 ∧ dt 4 x.toNatClampNeg = (mrank st x y).1 ∧ dR (mrank st x y).2 (ma dt 4 x.toNatClampNeg y) nF nC nE w := by
  rw [mrank, if_pos (in10.mp h1), if_pos (inr_iff.mpr h2)]
  refine ⟨rfl, by rw [R.eg 4 rfl], ?_⟩
  exact dR_mk (mw := R.mw) (dv := R.dv) (e2 := R.e2) (e3 := R.e3) (e28 := R.e28) (eg := (eg_ma (eg_0 R.eg))) (z6 := R.z6) (z13 := R.z13) (z25 := R.z25) (b25 := R.b25) (win := (fun p hp => winR_e (R.win p hp) rfl rfl)) (frm := R.frm) (f17 := R.f17) (blo := R.blo) (at_ := R.at_) (cnt := R.cnt) (slo := R.slo) (o15 := R.o15) (o16 := R.o16) (cam := R.cam) (win9 := R.win9) (pts := R.pts)
/-- promise -/
theorem sx_promise (R : dR st dt nF nC nE w) (h : (Ec = kIO ∧ ¬ (¬ x < 0 ∧ x < 6)) ∨ (Ec = kIA ∧ (¬ x < 0 ∧ x < 6) ∧ ¬ (¬ y < 0 ∧ ¬ 1000 < y))) : (Ec = kIO ∧ (mpromise st x y).2 = ms st 0 1) ∨ (Ec = kIA ∧ (mpromise st x y).2 = ms st 0 2) := by
  rcases h with ⟨rfl, h⟩ | ⟨rfl, h1, h2⟩
  · exact Or.inl ⟨rfl, by rw [mpromise, if_neg (fF in6 h)]⟩
  · exact Or.inr ⟨rfl, by rw [mpromise, if_pos (in6.mp h1), if_neg (fF inr_iff.symm h2)]⟩
theorem sk_promise (R : dR st dt nF nC nE w) (h1 : ¬ x < 0 ∧ x < 6) (h2 : ¬ y < 0 ∧ ¬ 1000 < y) : (mpromise st x y).2 0 0 = 0 ∧ dt 26 x.toNatClampNeg = (mpromise st x y).1 ∧ dR (mpromise st x y).2 (ma dt 26 x.toNatClampNeg y) nF nC nE w := by
  rw [mpromise, if_pos (in6.mp h1), if_pos (inr_iff.mpr h2)]
  refine ⟨rfl, by rw [R.eg 26 rfl], ?_⟩
  exact dR_mk (mw := R.mw) (dv := R.dv) (e2 := R.e2) (e3 := R.e3) (e28 := R.e28) (eg := (eg_ma (eg_0 R.eg))) (z6 := R.z6) (z13 := R.z13) (z25 := R.z25) (b25 := R.b25) (win := (fun p hp => winR_e (R.win p hp) rfl rfl)) (frm := R.frm) (f17 := R.f17) (blo := R.blo) (at_ := R.at_) (cnt := R.cnt) (slo := R.slo) (o15 := R.o15) (o16 := R.o16) (cam := R.cam) (win9 := R.win9) (pts := R.pts)
end SIM
