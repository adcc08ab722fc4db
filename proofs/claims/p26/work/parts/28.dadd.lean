/-! a cell more: a new object behind a list, in the list's array or in a new one -/
theorem kup_none {h : kH} {a q : Nat} {e : va_E} (z : kup h a e q = none) : q ≠ a ∧ h q = none := by
  by_cases c : q = a
  · subst c; rw [kup_s] at z; cases z
  · rw [kup_n _ _ c] at z; exact ⟨c, z⟩
theorem og_none {D : Nat → Prop} {a : Nat → Nat} (hi : oinj D a) {c : Nat → va_E} {h0 : kH} {q : Nat} (z : og D a c h0 q = none) : (∀ k, D k → a k ≠ q) ∧ h0 q = none := by
  have h1 : ∀ k, D k → a k ≠ q := by
    intro k hk e
    subst e
    rw [og_at hi c h0 hk] at z
    cases z
  exact ⟨h1, by rw [og_out c h0 h1] at z; exact z⟩
theorem og_add {D D' : Nat → Prop} {a a' : Nat → Nat} {c c' : Nat → va_E} {h0 : kH} {k r n v q : Nat} (e1 : va_E)
    (hi : oinj D a) (hn : ∀ j, D j → h0 (a j) = none) (hk : D k) (hkr : k ≠ r) (hkn : k ≠ n) (hrn : r ≠ n)
    (hD : ∀ j, D' j → j = r ∨ j = n ∨ (D j ∧ j ≠ r ∧ j ≠ n))
    (har : a' r = q) (han : a' n = v) (hao : ∀ j, j ≠ r → j ≠ n → a' j = a j)
    (hv : og D a c h0 v = none) (hq : (q = a r ∧ D r) ∨ (og D a c h0 q = none ∧ q ≠ v))
    (hc : ∀ j, D j → j ≠ k → j ≠ r → j ≠ n → c' j = c j) :
    oinj D' a' ∧ (∀ j, D' j → h0 (a' j) = none) ∧ ∀ z e, og D' a' c' h0 z = some e → kup (kup (kup (kup (og D a c h0) v (c' n)) (a k) e1) q (c' r)) (a k) (c' k) z = some e := by
  obtain ⟨hv1, hv2⟩ := og_none hi hv
  have hvk : v ≠ a k := fun z => hv1 k hk z.symm
  have hq2 : h0 q = none := by
    rcases hq with ⟨rfl, z⟩ | ⟨z, _⟩
    · exact hn r z
    · exact (og_none hi z).2
  have hqv : q ≠ v := by
    rcases hq with ⟨rfl, z⟩ | ⟨_, z⟩
    · exact hv1 r z
    · exact z
  have hqo : ∀ j, D j → j ≠ r → a j ≠ q := by
    intro j hj hjr e
    rcases hq with ⟨e2, z⟩ | ⟨z, _⟩
    · exact hjr (hi j r hj z (e.trans e2))
    · exact (og_none hi z).1 j hj e
  have hqk : q ≠ a k := fun z => hqo k hk hkr z.symm
  have hI : oinj D' a' := by
    intro i j hDi hDj e
    rcases hD i hDi with rfl | rfl | ⟨hi1, hi2, hi3⟩
    · rcases hD j hDj with rfl | rfl | ⟨hj1, hj2, hj3⟩
      · rfl
      · rw [har, han] at e; exact absurd e hqv
      · rw [har, hao j hj2 hj3] at e; exact absurd e.symm (hqo j hj1 hj2)
    · rcases hD j hDj with rfl | rfl | ⟨hj1, hj2, hj3⟩
      · rw [har, han] at e; exact absurd e.symm hqv
      · rfl
      · rw [han, hao j hj2 hj3] at e; exact absurd e.symm (hv1 j hj1)
    · rcases hD j hDj with rfl | rfl | ⟨hj1, hj2, hj3⟩
      · rw [har, hao i hi2 hi3] at e; exact absurd e (hqo i hi1 hi2)
      · rw [han, hao i hi2 hi3] at e; exact absurd e (hv1 i hi1)
      · rw [hao i hi2 hi3, hao j hj2 hj3] at e; exact hi i j hi1 hj1 e
  refine ⟨hI, fun j hj => ?_, fun z e hz => ?_⟩
  · rcases hD j hj with rfl | rfl | ⟨h1, h2, h3⟩
    · rw [har]; exact hq2
    · rw [han]; exact hv2
    · rw [hao j h2 h3]; exact hn j h1
  · by_cases x : ∃ j, D' j ∧ a' j = z
    · obtain ⟨j, hj, rfl⟩ := x
      rw [og_at hI c' h0 hj] at hz
      cases hz
      rcases hD j hj with rfl | rfl | ⟨h1, h2, h3⟩
      · rw [har, kup_n _ _ hqk, kup_s]
      · rw [han, kup_n _ _ hvk, kup_n _ _ (Ne.symm hqv), kup_n _ _ hvk, kup_s]
      · rw [hao j h2 h3]
        by_cases y : j = k
        · subst y; rw [kup_s]
        · have hjk : a j ≠ a k := fun z => y (hi j k h1 hk z)
          rw [kup_n _ _ hjk, kup_n _ _ (hqo j h1 h2), kup_n _ _ hjk, kup_n _ _ (hv1 j h1), og_at hi c h0 h1, hc j h1 y h2 h3]
    · have ho : ∀ j, D' j → a' j ≠ z := fun j h1 h2 => x ⟨j, h1, h2⟩
      rw [og_out c' h0 ho] at hz
      have z1 : z ≠ v := fun w => by rw [w, hv2] at hz; cases hz
      have z2 : z ≠ q := fun w => by rw [w, hq2] at hz; cases hz
      have z3 : z ≠ a k := fun w => by rw [w, hn k hk] at hz; cases hz
      have z4 : ∀ j, D j → a j ≠ z := fun j h1 w => by rw [← w, hn j h1] at hz; cases hz
      rw [kup_n _ _ z3, kup_n _ _ z2, kup_n _ _ z3, kup_n _ _ z1, og_out c h0 z4, hz]
section DX
variable {E : kE} {a a' cap cap' : Nat → Nat} {nF nC nE nF' nC' nE' : Nat} {dt dt' : kM} {h0 : kH}
theorem dcell_x {k : Nat} (h15 : k = 15 → dfs a' dt' = dfs a dt) (hl : (k = 2 ∨ k = 3 ∨ k = 4) → dt' (38 + k) 0 = dt (38 + k) 0 ∧ a' (14 + k) = a (14 + k) ∧ dt' (dcnt k) 0 = dt (dcnt k) 0) (hr : (k = 16 ∨ k = 17 ∨ k = 18) → cap' k = cap k ∧ drow a' (dbase (k - 14)) (dNn nF' nC' nE' (k - 14)) = drow a (dbase (k - 14)) (dNn nF nC nE (k - 14))) (ha : k < 15 → k ≠ 2 → k ≠ 3 → k ≠ 4 → dt' (dmap k) = dt (dmap k)) (hf : 20 ≤ k → k < 40 → dfF dt' (k - 20) = dfF dt (k - 20)) (hc : 40 ≤ k → k < 50 → dfC dt' (k - 40) = dfC dt (k - 40)) (he : 50 ≤ k → dfE a' dt' (k - 50) = dfE a dt (k - 50)) (hk : dD cap nF nC nE k) : dcell E a' cap' nF' nC' nE' dt' k = dcell E a cap nF nC nE dt k := by
  unfold dcell
  by_cases c1 : k = 15
  · rw [if_pos c1, if_pos c1, h15 c1]
  rw [if_neg c1, if_neg c1]
  by_cases c2 : k = 2 ∨ k = 3 ∨ k = 4
  · rw [if_pos c2, if_pos c2, (hl c2).1, (hl c2).2.1, (hl c2).2.2]
  rw [if_neg c2, if_neg c2]
  by_cases c3 : k = 16 ∨ k = 17 ∨ k = 18
  · rw [if_pos c3, if_pos c3, (hr c3).1, (hr c3).2]
  rw [if_neg c3, if_neg c3]
  by_cases c4 : k < 15
  · rw [if_pos c4, if_pos c4, ha c4 (by omega) (by omega) (by omega)]
  rw [if_neg c4, if_neg c4]
  by_cases c5 : k < 40
  · rw [if_pos c5, if_pos c5]
    by_cases c6 : 20 ≤ k
    · rw [hf c6 c5]
    · exfalso
      rcases hk with h | h | h | h | h <;> omega
  rw [if_neg c5, if_neg c5]
  by_cases c7 : k < 50
  · rw [if_pos c7, if_pos c7, hc (by omega) c7]
  rw [if_neg c7, if_neg c7, he (by omega)]
theorem drow_x {bs N : Nat} (h : ∀ j, j < N → a' (bs + j) = a (bs + j)) : drow a' bs N = drow a bs N := by
  funext j
  unfold drow
  by_cases c : j < N
  · rw [if_pos c, if_pos c, h j c]
  · rw [if_neg c, if_neg c]
end DX
/-- the state with a fight, a camera, an entry more -/
def dBeg (dt : kM) (n : Nat) (x y : Int32) : kM := ma (ma (ma (ma (ma (ma (ms (ms dt 40 (dt 40 0 + 1)) 5 (nI (n + 1))) 6 n 0) 7 n x) 8 n y) 9 n (-1)) 31 n 0) 32 n 0
def dCamN (dt : kM) (n : Nat) (x y : Int32) : kM := ma (ma (ma (ma (ms (ms dt 41 (dt 41 0 + 1)) 10 (nI (n + 1))) 11 n x) 12 n y) 13 n 0) 14 n 0
def dEnt (dt : kM) (n : Nat) (f p t v : Int32) : kM := ma (ma (ma (ma (ma (ms (ms dt 42 (dt 42 0 + 1)) 20 (nI (n + 1))) 21 n f) 22 n p) 23 n v) 24 n t) 25 n 0

theorem dw_addF {E : kE} {a cap : Nat → Nat} {nF nC nE : Nat} {dt : kM} {h0 : kH} (hg : dgeo E a cap nF nC nE h0) (hof : ∀ k, k < nE → vp_in (dt 21 k) nF) (hN : nF < 20) (x y : Int32) {v q cp : Nat} {row : Nat → Option Nat} (e1 : va_E)
    (hv : dw E a cap nF nC nE dt h0 v = none) (hq : (q = a 16 ∧ 0 < cap 16) ∨ (dw E a cap nF nC nE dt h0 q = none ∧ q ≠ v))
    (hcp : nF + 1 ≤ cp ∧ cp ≤ 200 ∧ 10 ≤ cp) (hrow : ∀ j, row j = if j < nF then some (a (20 + j)) else if j = nF then some v else none) :
    ∃ a' cap' : Nat → Nat, dgeo E a' cap' (nF + 1) nC nE h0 ∧ (∀ j, j ≠ 16 → j ≠ 20 + nF → a' j = a j) ∧ ∀ z e, dw E a' cap' (nF + 1) nC nE (dBeg dt nF x y) h0 z = some e → kup (kup (kup (kup (dw E a cap nF nC nE dt h0) v (.inr (2, [.int (nI nF), .int x, .int y, .int 0, .int (-1), .int 0, .int 0]))) (a 2) e1) q (.inl (kO E, cp, .inr (.inr (.inr (.inr row)))))) (a 2) (.inr (5, [.int (dt 40 0 + 1), .ref q, .int (nI (nF + 1))])) z = some e := by
  have h20 := hg.2.2.2.1
  have h6 := hg.2.2.2.2.1
  have h80 := hg.2.2.2.2.2
  let a' : Nat → Nat := fun m => if m = 16 then q else if m = 20 + nF then v else a m
  let cap' : Nat → Nat := fun m => if m = 16 then cp else cap m
  have hao : ∀ j, j ≠ 16 → j ≠ 20 + nF → a' j = a j := fun j h1 h2 => by show (if j = 16 then q else if j = 20 + nF then v else a j) = a j; rw [if_neg h1, if_neg h2]
  have har : a' 16 = q := if_pos rfl
  have han : a' (20 + nF) = v := by show (if 20 + nF = 16 then q else if 20 + nF = 20 + nF then v else a _) = v; rw [if_neg (by omega), if_pos rfl]
  have hcr : cap' 16 = cp := if_pos rfl
  have hco : ∀ j, j ≠ 16 → cap' j = cap j := fun j h1 => if_neg h1
  have hD : ∀ j, dD cap' (nF + 1) nC nE j → j = 16 ∨ j = 20 + nF ∨ (dD cap nF nC nE j ∧ j ≠ 16 ∧ j ≠ 20 + nF) := by
    intro j hj
    by_cases c1 : j = 16
    · exact Or.inl c1
    by_cases c2 : j = 20 + nF
    · exact Or.inr (Or.inl c2)
    refine Or.inr (Or.inr ⟨?_, c1, c2⟩)
    unfold dD at hj ⊢
    rw [hco j c1] at hj
    omega
  have hcell : ∀ j, dD cap nF nC nE j → j ≠ 2 → j ≠ 16 → j ≠ 20 + nF → dcell E a' cap' (nF + 1) nC nE (dBeg dt nF x y) j = dcell E a cap nF nC nE dt j := by
    intro j hj h1 h2 h3
    refine dcell_x (fun z => ?_) (fun z => ?_) (fun z => ⟨hco j h2, ?_⟩) (fun z1 z2 z3 z4 => ?_) (fun z1 z2 => ?_) (fun z1 z2 => ?_) (fun z1 => ?_) hj
    · unfold dfs
      rw [hao 0 (by omega) (by omega), hao 1 (by omega) (by omega), hao 2 (by omega) (by omega), hao 3 (by omega) (by omega), hao 4 (by omega) (by omega), hao 5 (by omega) (by omega), hao 6 (by omega) (by omega), hao 7 (by omega) (by omega), hao 12 (by omega) (by omega), hao 13 (by omega) (by omega), hao 14 (by omega) (by omega)]
      rfl
    · rcases z with rfl | rfl | rfl <;> first | exact absurd rfl h1 | exact ⟨rfl, hao _ (by omega) (by omega), rfl⟩
    · rcases z with rfl | rfl | rfl <;> first | exact absurd rfl h2 | exact drow_x (fun i hi => hao _ (by simp [dbase]; omega) (by simp [dNn] at hi; simp [dbase]; omega))
    · have : dmap j = 4 ∨ dmap j = 30 ∨ dmap j = 26 ∨ dmap j = 33 ∨ dmap j = 34 ∨ dmap j = 17 ∨ dmap j = 18 ∨ dmap j = 19 := by unfold dmap; split <;> simp
      rcases this with h | h | h | h | h | h | h | h <;> rw [h] <;> rfl
    · have hne : j - 20 ≠ nF := by omega
      simp [dfF, dBeg, ms, ma, upd, hne]
    · have hne : j - 40 ≠ 1000000 := by unfold dD at hj; omega
      simp [dfC, dBeg, ms, ma, upd]
    · have hj5 : j - 50 < nE := by
        unfold dD at hj
        omega
      have hf := vp_lt (hof (j - 50) hj5)
      have hne : j - 50 ≠ 1000000 := by unfold dD at hj; omega
      simp [dfE, dBeg, ms, ma, upd]
      exact hao _ (by omega) (by omega)
  have hck : dcell E a' cap' (nF + 1) nC nE (dBeg dt nF x y) 2 = .inr (5, [.int (dt 40 0 + 1), .ref q, .int (nI (nF + 1))]) := by
    have e : dcell E a' cap' (nF + 1) nC nE (dBeg dt nF x y) 2 = .inr (5, [.int (dt 40 0 + 1), .ref (a' 16), .int (nI (nF + 1))]) := rfl
    rw [e, har]
  have hcR : dcell E a' cap' (nF + 1) nC nE (dBeg dt nF x y) 16 = .inl (kO E, cp, .inr (.inr (.inr (.inr row)))) := by
    have e : dcell E a' cap' (nF + 1) nC nE (dBeg dt nF x y) 16 = .inl (kO E, cap' 16, .inr (.inr (.inr (.inr (drow a' 20 (nF + 1)))))) := rfl
    have er : drow a' 20 (nF + 1) = row := by
      funext j
      rw [hrow j]
      unfold drow
      by_cases c : j < nF
      · rw [if_pos (by omega), if_pos c, hao _ (by omega) (by omega)]
      · by_cases c2 : j = nF
        · subst c2; rw [if_pos (by omega), if_neg c, if_pos rfl, han]
        · rw [if_neg (by omega), if_neg c, if_neg c2]
    rw [e, er, hcr]
  have hcN : dcell E a' cap' (nF + 1) nC nE (dBeg dt nF x y) (20 + nF) = .inr (2, [.int (nI nF), .int x, .int y, .int 0, .int (-1), .int 0, .int 0]) := by
    unfold dcell
    rw [if_neg (by omega), if_neg (by omega), if_neg (by omega), if_neg (by omega), if_pos (by omega), Nat.add_sub_cancel_left]
    simp [dfF, dBeg, ms, ma, upd]
  have hDk : dD cap nF nC nE 2 := Or.inl (Or.inl (by omega))
  obtain ⟨A1, A2, A3⟩ := og_add (c' := dcell E a' cap' (nF + 1) nC nE (dBeg dt nF x y)) (D' := dD cap' (nF + 1) nC nE) (r := 16) (n := 20 + nF) e1 hg.1 hg.2.1 hDk (by omega) (by omega) (by omega) hD har han hao hv (hq.imp (fun z => ⟨z.1, Or.inr (Or.inl ⟨by omega, z.2⟩)⟩) id) hcell
  refine ⟨a', cap', ⟨A1, A2, fun j hj => ?_, by omega, by omega, by omega⟩, hao, ?_⟩
  · rcases hj with rfl | rfl | rfl
    · exact ⟨by show nF + 1 ≤ cap' 16; rw [hcr]; omega, by show cap' 16 ≤ 200; rw [hcr]; omega, fun z => absurd (show cap' 16 = 0 from z) (by rw [hcr]; omega), fun _ => by show 10 ≤ cap' 16; rw [hcr]; omega⟩
    · have z := hg.2.2.1 3 (by decide)
      have e1 : cap' (14 + 3) = cap (14 + 3) := hco _ (by decide)
      have e2 : a' (14 + 3) = a (14 + 3) := hao _ (by decide) (by omega)
      rw [e1, e2]
      exact z
    · have z := hg.2.2.1 4 (by decide)
      have e1 : cap' (14 + 4) = cap (14 + 4) := hco _ (by decide)
      have e2 : a' (14 + 4) = a (14 + 4) := hao _ (by decide) (by omega)
      rw [e1, e2]
      exact z
  · rw [hck, hcR, hcN] at A3
    exact A3

theorem dw_addC {E : kE} {a cap : Nat → Nat} {nF nC nE : Nat} {dt : kM} {h0 : kH} (hg : dgeo E a cap nF nC nE h0) (hof : ∀ k, k < nE → vp_in (dt 21 k) nF) (hN : nC < 6) (x y : Int32) {v q cp : Nat} {row : Nat → Option Nat} (e1 : va_E)
    (hv : dw E a cap nF nC nE dt h0 v = none) (hq : (q = a 17 ∧ 0 < cap 17) ∨ (dw E a cap nF nC nE dt h0 q = none ∧ q ≠ v))
    (hcp : nC + 1 ≤ cp ∧ cp ≤ 200 ∧ 10 ≤ cp) (hrow : ∀ j, row j = if j < nC then some (a (40 + j)) else if j = nC then some v else none) :
    ∃ a' cap' : Nat → Nat, dgeo E a' cap' nF (nC + 1) nE h0 ∧ (∀ j, j ≠ 17 → j ≠ 40 + nC → a' j = a j) ∧ ∀ z e, dw E a' cap' nF (nC + 1) nE (dCamN dt nC x y) h0 z = some e → kup (kup (kup (kup (dw E a cap nF nC nE dt h0) v (.inr (0, [.int x, .int y, .int 0, .int 0]))) (a 3) e1) q (.inl (kO E, cp, .inr (.inr (.inr (.inr row)))))) (a 3) (.inr (5, [.int (dt 41 0 + 1), .ref q, .int (nI (nC + 1))])) z = some e := by
  have h20 := hg.2.2.2.1
  have h6 := hg.2.2.2.2.1
  have h80 := hg.2.2.2.2.2
  let a' : Nat → Nat := fun m => if m = 17 then q else if m = 40 + nC then v else a m
  let cap' : Nat → Nat := fun m => if m = 17 then cp else cap m
  have hao : ∀ j, j ≠ 17 → j ≠ 40 + nC → a' j = a j := fun j h1 h2 => by show (if j = 17 then q else if j = 40 + nC then v else a j) = a j; rw [if_neg h1, if_neg h2]
  have har : a' 17 = q := if_pos rfl
  have han : a' (40 + nC) = v := by show (if 40 + nC = 17 then q else if 40 + nC = 40 + nC then v else a _) = v; rw [if_neg (by omega), if_pos rfl]
  have hcr : cap' 17 = cp := if_pos rfl
  have hco : ∀ j, j ≠ 17 → cap' j = cap j := fun j h1 => if_neg h1
  have hD : ∀ j, dD cap' nF (nC + 1) nE j → j = 17 ∨ j = 40 + nC ∨ (dD cap nF nC nE j ∧ j ≠ 17 ∧ j ≠ 40 + nC) := by
    intro j hj
    by_cases c1 : j = 17
    · exact Or.inl c1
    by_cases c2 : j = 40 + nC
    · exact Or.inr (Or.inl c2)
    refine Or.inr (Or.inr ⟨?_, c1, c2⟩)
    unfold dD at hj ⊢
    rw [hco j c1] at hj
    omega
  have hcell : ∀ j, dD cap nF nC nE j → j ≠ 3 → j ≠ 17 → j ≠ 40 + nC → dcell E a' cap' nF (nC + 1) nE (dCamN dt nC x y) j = dcell E a cap nF nC nE dt j := by
    intro j hj h1 h2 h3
    refine dcell_x (fun z => ?_) (fun z => ?_) (fun z => ⟨hco j h2, ?_⟩) (fun z1 z2 z3 z4 => ?_) (fun z1 z2 => ?_) (fun z1 z2 => ?_) (fun z1 => ?_) hj
    · unfold dfs
      rw [hao 0 (by omega) (by omega), hao 1 (by omega) (by omega), hao 2 (by omega) (by omega), hao 3 (by omega) (by omega), hao 4 (by omega) (by omega), hao 5 (by omega) (by omega), hao 6 (by omega) (by omega), hao 7 (by omega) (by omega), hao 12 (by omega) (by omega), hao 13 (by omega) (by omega), hao 14 (by omega) (by omega)]
      rfl
    · rcases z with rfl | rfl | rfl <;> first | exact absurd rfl h1 | exact ⟨rfl, hao _ (by omega) (by omega), rfl⟩
    · rcases z with rfl | rfl | rfl <;> first | exact absurd rfl h2 | exact drow_x (fun i hi => hao _ (by simp [dbase]; omega) (by simp [dNn] at hi; simp [dbase]; omega))
    · have : dmap j = 4 ∨ dmap j = 30 ∨ dmap j = 26 ∨ dmap j = 33 ∨ dmap j = 34 ∨ dmap j = 17 ∨ dmap j = 18 ∨ dmap j = 19 := by unfold dmap; split <;> simp
      rcases this with h | h | h | h | h | h | h | h <;> rw [h] <;> rfl
    · have hne : j - 20 ≠ 1000000 := by unfold dD at hj; omega
      simp [dfF, dCamN, ms, ma, upd]
    · have hne : j - 40 ≠ nC := by omega
      simp [dfC, dCamN, ms, ma, upd, hne]
    · have hj5 : j - 50 < nE := by
        unfold dD at hj
        omega
      have hf := vp_lt (hof (j - 50) hj5)
      have hne : j - 50 ≠ 1000000 := by unfold dD at hj; omega
      simp [dfE, dCamN, ms, ma, upd]
      exact hao _ (by omega) (by omega)
  have hck : dcell E a' cap' nF (nC + 1) nE (dCamN dt nC x y) 3 = .inr (5, [.int (dt 41 0 + 1), .ref q, .int (nI (nC + 1))]) := by
    have e : dcell E a' cap' nF (nC + 1) nE (dCamN dt nC x y) 3 = .inr (5, [.int (dt 41 0 + 1), .ref (a' 17), .int (nI (nC + 1))]) := rfl
    rw [e, har]
  have hcR : dcell E a' cap' nF (nC + 1) nE (dCamN dt nC x y) 17 = .inl (kO E, cp, .inr (.inr (.inr (.inr row)))) := by
    have e : dcell E a' cap' nF (nC + 1) nE (dCamN dt nC x y) 17 = .inl (kO E, cap' 17, .inr (.inr (.inr (.inr (drow a' 40 (nC + 1)))))) := rfl
    have er : drow a' 40 (nC + 1) = row := by
      funext j
      rw [hrow j]
      unfold drow
      by_cases c : j < nC
      · rw [if_pos (by omega), if_pos c, hao _ (by omega) (by omega)]
      · by_cases c2 : j = nC
        · subst c2; rw [if_pos (by omega), if_neg c, if_pos rfl, han]
        · rw [if_neg (by omega), if_neg c, if_neg c2]
    rw [e, er, hcr]
  have hcN : dcell E a' cap' nF (nC + 1) nE (dCamN dt nC x y) (40 + nC) = .inr (0, [.int x, .int y, .int 0, .int 0]) := by
    unfold dcell
    rw [if_neg (by omega), if_neg (by omega), if_neg (by omega), if_neg (by omega), if_neg (by omega), if_pos (by omega), Nat.add_sub_cancel_left]
    simp [dfC, dCamN, ms, ma, upd]
  have hDk : dD cap nF nC nE 3 := Or.inl (Or.inl (by omega))
  obtain ⟨A1, A2, A3⟩ := og_add (c' := dcell E a' cap' nF (nC + 1) nE (dCamN dt nC x y)) (D' := dD cap' nF (nC + 1) nE) (r := 17) (n := 40 + nC) e1 hg.1 hg.2.1 hDk (by omega) (by omega) (by omega) hD har han hao hv (hq.imp (fun z => ⟨z.1, Or.inr (Or.inl ⟨by omega, z.2⟩)⟩) id) hcell
  refine ⟨a', cap', ⟨A1, A2, fun j hj => ?_, by omega, by omega, by omega⟩, hao, ?_⟩
  · rcases hj with rfl | rfl | rfl
    · have z := hg.2.2.1 2 (by decide)
      have e1 : cap' (14 + 2) = cap (14 + 2) := hco _ (by decide)
      have e2 : a' (14 + 2) = a (14 + 2) := hao _ (by decide) (by omega)
      rw [e1, e2]
      exact z
    · exact ⟨by show nC + 1 ≤ cap' 17; rw [hcr]; omega, by show cap' 17 ≤ 200; rw [hcr]; omega, fun z => absurd (show cap' 17 = 0 from z) (by rw [hcr]; omega), fun _ => by show 10 ≤ cap' 17; rw [hcr]; omega⟩
    · have z := hg.2.2.1 4 (by decide)
      have e1 : cap' (14 + 4) = cap (14 + 4) := hco _ (by decide)
      have e2 : a' (14 + 4) = a (14 + 4) := hao _ (by decide) (by omega)
      rw [e1, e2]
      exact z
  · rw [hck, hcR, hcN] at A3
    exact A3

theorem dw_addE {E : kE} {a cap : Nat → Nat} {nF nC nE : Nat} {dt : kM} {h0 : kH} (hg : dgeo E a cap nF nC nE h0) (hof : ∀ k, k < nE → vp_in (dt 21 k) nF) (hN : nE < 80) {o : Nat} (ho : o < nF) (p t u : Int32) {v q cp : Nat} {row : Nat → Option Nat} (e1 : va_E)
    (hv : dw E a cap nF nC nE dt h0 v = none) (hq : (q = a 18 ∧ 0 < cap 18) ∨ (dw E a cap nF nC nE dt h0 q = none ∧ q ≠ v))
    (hcp : nE + 1 ≤ cp ∧ cp ≤ 200 ∧ 10 ≤ cp) (hrow : ∀ j, row j = if j < nE then some (a (50 + j)) else if j = nE then some v else none) :
    ∃ a' cap' : Nat → Nat, dgeo E a' cap' nF nC (nE + 1) h0 ∧ (∀ j, j ≠ 18 → j ≠ 50 + nE → a' j = a j) ∧ ∀ z e, dw E a' cap' nF nC (nE + 1) (dEnt dt nE (nI o) p t u) h0 z = some e → kup (kup (kup (kup (dw E a cap nF nC nE dt h0) v (.inr (1, [.ref (a (20 + o)), .int p, .int t, .int u, .int 0]))) (a 4) e1) q (.inl (kO E, cp, .inr (.inr (.inr (.inr row)))))) (a 4) (.inr (5, [.int (dt 42 0 + 1), .ref q, .int (nI (nE + 1))])) z = some e := by
  have h20 := hg.2.2.2.1
  have h6 := hg.2.2.2.2.1
  have h80 := hg.2.2.2.2.2
  let a' : Nat → Nat := fun m => if m = 18 then q else if m = 50 + nE then v else a m
  let cap' : Nat → Nat := fun m => if m = 18 then cp else cap m
  have hao : ∀ j, j ≠ 18 → j ≠ 50 + nE → a' j = a j := fun j h1 h2 => by show (if j = 18 then q else if j = 50 + nE then v else a j) = a j; rw [if_neg h1, if_neg h2]
  have har : a' 18 = q := if_pos rfl
  have han : a' (50 + nE) = v := by show (if 50 + nE = 18 then q else if 50 + nE = 50 + nE then v else a _) = v; rw [if_neg (by omega), if_pos rfl]
  have hcr : cap' 18 = cp := if_pos rfl
  have hco : ∀ j, j ≠ 18 → cap' j = cap j := fun j h1 => if_neg h1
  have hD : ∀ j, dD cap' nF nC (nE + 1) j → j = 18 ∨ j = 50 + nE ∨ (dD cap nF nC nE j ∧ j ≠ 18 ∧ j ≠ 50 + nE) := by
    intro j hj
    by_cases c1 : j = 18
    · exact Or.inl c1
    by_cases c2 : j = 50 + nE
    · exact Or.inr (Or.inl c2)
    refine Or.inr (Or.inr ⟨?_, c1, c2⟩)
    unfold dD at hj ⊢
    rw [hco j c1] at hj
    omega
  have hcell : ∀ j, dD cap nF nC nE j → j ≠ 4 → j ≠ 18 → j ≠ 50 + nE → dcell E a' cap' nF nC (nE + 1) (dEnt dt nE (nI o) p t u) j = dcell E a cap nF nC nE dt j := by
    intro j hj h1 h2 h3
    refine dcell_x (fun z => ?_) (fun z => ?_) (fun z => ⟨hco j h2, ?_⟩) (fun z1 z2 z3 z4 => ?_) (fun z1 z2 => ?_) (fun z1 z2 => ?_) (fun z1 => ?_) hj
    · unfold dfs
      rw [hao 0 (by omega) (by omega), hao 1 (by omega) (by omega), hao 2 (by omega) (by omega), hao 3 (by omega) (by omega), hao 4 (by omega) (by omega), hao 5 (by omega) (by omega), hao 6 (by omega) (by omega), hao 7 (by omega) (by omega), hao 12 (by omega) (by omega), hao 13 (by omega) (by omega), hao 14 (by omega) (by omega)]
      rfl
    · rcases z with rfl | rfl | rfl <;> first | exact absurd rfl h1 | exact ⟨rfl, hao _ (by omega) (by omega), rfl⟩
    · rcases z with rfl | rfl | rfl <;> first | exact absurd rfl h2 | exact drow_x (fun i hi => hao _ (by simp [dbase]; omega) (by simp [dNn] at hi; simp [dbase]; omega))
    · have : dmap j = 4 ∨ dmap j = 30 ∨ dmap j = 26 ∨ dmap j = 33 ∨ dmap j = 34 ∨ dmap j = 17 ∨ dmap j = 18 ∨ dmap j = 19 := by unfold dmap; split <;> simp
      rcases this with h | h | h | h | h | h | h | h <;> rw [h] <;> rfl
    · have hne : j - 20 ≠ 1000000 := by unfold dD at hj; omega
      simp [dfF, dEnt, ms, ma, upd]
    · have hne : j - 40 ≠ 1000000 := by unfold dD at hj; omega
      simp [dfC, dEnt, ms, ma, upd]
    · have hj5 : j - 50 < nE := by
        unfold dD at hj
        omega
      have hf := vp_lt (hof (j - 50) hj5)
      have hne : j - 50 ≠ nE := by omega
      simp [dfE, dEnt, ms, ma, upd, hne]
      exact hao _ (by omega) (by omega)
  have hck : dcell E a' cap' nF nC (nE + 1) (dEnt dt nE (nI o) p t u) 4 = .inr (5, [.int (dt 42 0 + 1), .ref q, .int (nI (nE + 1))]) := by
    have e : dcell E a' cap' nF nC (nE + 1) (dEnt dt nE (nI o) p t u) 4 = .inr (5, [.int (dt 42 0 + 1), .ref (a' 18), .int (nI (nE + 1))]) := rfl
    rw [e, har]
  have hcR : dcell E a' cap' nF nC (nE + 1) (dEnt dt nE (nI o) p t u) 18 = .inl (kO E, cp, .inr (.inr (.inr (.inr row)))) := by
    have e : dcell E a' cap' nF nC (nE + 1) (dEnt dt nE (nI o) p t u) 18 = .inl (kO E, cap' 18, .inr (.inr (.inr (.inr (drow a' 50 (nE + 1)))))) := rfl
    have er : drow a' 50 (nE + 1) = row := by
      funext j
      rw [hrow j]
      unfold drow
      by_cases c : j < nE
      · rw [if_pos (by omega), if_pos c, hao _ (by omega) (by omega)]
      · by_cases c2 : j = nE
        · subst c2; rw [if_pos (by omega), if_neg c, if_pos rfl, han]
        · rw [if_neg (by omega), if_neg c, if_neg c2]
    rw [e, er, hcr]
  have hcN : dcell E a' cap' nF nC (nE + 1) (dEnt dt nE (nI o) p t u) (50 + nE) = .inr (1, [.ref (a (20 + o)), .int p, .int t, .int u, .int 0]) := by
    unfold dcell
    rw [if_neg (by omega), if_neg (by omega), if_neg (by omega), if_neg (by omega), if_neg (by omega), if_neg (by omega), Nat.add_sub_cancel_left]
    simp [dfE, dEnt, ms, ma, upd, nI_clamp (show o < 2 ^ 31 by omega)]
    exact hao _ (by omega) (by omega)
  have hDk : dD cap nF nC nE 4 := Or.inl (Or.inl (by omega))
  obtain ⟨A1, A2, A3⟩ := og_add (c' := dcell E a' cap' nF nC (nE + 1) (dEnt dt nE (nI o) p t u)) (D' := dD cap' nF nC (nE + 1)) (r := 18) (n := 50 + nE) e1 hg.1 hg.2.1 hDk (by omega) (by omega) (by omega) hD har han hao hv (hq.imp (fun z => ⟨z.1, Or.inr (Or.inl ⟨by omega, z.2⟩)⟩) id) hcell
  refine ⟨a', cap', ⟨A1, A2, fun j hj => ?_, by omega, by omega, by omega⟩, hao, ?_⟩
  · rcases hj with rfl | rfl | rfl
    · have z := hg.2.2.1 2 (by decide)
      have e1 : cap' (14 + 2) = cap (14 + 2) := hco _ (by decide)
      have e2 : a' (14 + 2) = a (14 + 2) := hao _ (by decide) (by omega)
      rw [e1, e2]
      exact z
    · have z := hg.2.2.1 3 (by decide)
      have e1 : cap' (14 + 3) = cap (14 + 3) := hco _ (by decide)
      have e2 : a' (14 + 3) = a (14 + 3) := hao _ (by decide) (by omega)
      rw [e1, e2]
      exact z
    · exact ⟨by show nE + 1 ≤ cap' 18; rw [hcr]; omega, by show cap' 18 ≤ 200; rw [hcr]; omega, fun z => absurd (show cap' 18 = 0 from z) (by rw [hcr]; omega), fun _ => by show 10 ≤ cap' 18; rw [hcr]; omega⟩
  · rw [hck, hcR, hcN] at A3
    exact A3
