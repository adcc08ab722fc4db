/-! THE CLASS'S OBJECTS: cells by number k at addresses a k: 0 ranks, 1 wins, 2..4 the lists, 5 promised, 6 counted, 7 slotPlayers, 12..14 shown; 15 the object; 16..18 the lists' arrays; 20.. fights, 40.. cameras, 50.. entries. State dt numbered as the reference's where they share; 30 wins, 31 framesShown, 32 blowFrames, 33 counted, 34 slotPlayers, 40..42 modCounts -/
noncomputable def og (D : Nat → Prop) (a : Nat → Nat) (c : Nat → va_E) (h0 : kH) : kH := fun q => @dite _ (∃ k, D k ∧ a k = q) (Classical.propDecidable _) (fun hq => some (c (Classical.choose hq))) (fun _ => h0 q)
def oinj (D : Nat → Prop) (a : Nat → Nat) : Prop := ∀ i j, D i → D j → a i = a j → i = j
theorem og_at {D : Nat → Prop} {a : Nat → Nat} (hi : oinj D a) (c : Nat → va_E) (h0 : kH) {k : Nat} (hk : D k) : og D a c h0 (a k) = some (c k) := by
  have hex : ∃ j, D j ∧ a j = a k := ⟨k, hk, rfl⟩
  unfold og
  rw [dif_pos hex]
  have h := Classical.choose_spec hex
  rw [hi _ _ h.1 hk h.2]
theorem og_out {D : Nat → Prop} {a : Nat → Nat} (c : Nat → va_E) (h0 : kH) {q : Nat} (hq : ∀ k, D k → a k ≠ q) : og D a c h0 q = h0 q := by
  unfold og
  exact dif_neg (fun ⟨k, h1, h2⟩ => hq k h1 h2)
theorem og_ext {D D' : Nat → Prop} {a a' : Nat → Nat} {c c' : Nat → va_E} {h0 h : kH} (hi : oinj D' a') (h1 : ∀ k, D' k → h (a' k) = some (c' k)) (h2 : ∀ q, (∀ k, D' k → a' k ≠ q) → h q = h0 q) : h = og D' a' c' h0 := by
  funext q
  by_cases x : ∃ k, D' k ∧ a' k = q
  · obtain ⟨k, hk, rfl⟩ := x
    rw [h1 k hk, og_at hi c' h0 hk]
  · have hq : ∀ k, D' k → a' k ≠ q := fun k z1 z2 => x ⟨k, z1, z2⟩
    rw [h2 q hq, og_out c' h0 hq]
theorem og_up {D : Nat → Prop} {a : Nat → Nat} (hi : oinj D a) {c c' : Nat → va_E} {h0 : kH} {k : Nat} (hk : D k) (hc : ∀ j, D j → j ≠ k → c' j = c j) {e : va_E} (he : e = c' k) : kup (og D a c h0) (a k) e = og D a c' h0 := by
  subst he
  refine og_ext (D := D) (a := a) (c := c) hi (fun j hj => ?_) (fun q hq => ?_)
  · by_cases x : j = k
    · subst x; rw [kup_s]
    · rw [kup_n _ _ (fun z => x (hi j k hj hk z)), og_at hi c h0 hj, hc j hj x]
  · rw [kup_n _ _ (fun z => hq k hk z.symm), og_out c h0 hq]
def dlen (k : Nat) : Nat := match k with
  | 0 => 10
  | 1 => 10
  | 5 => 6
  | 6 => 6
  | 7 => 6
  | _ => 3000
def dmap (k : Nat) : Nat := match k with
  | 0 => 4
  | 1 => 30
  | 5 => 26
  | 6 => 33
  | 7 => 34
  | 12 => 17
  | 13 => 18
  | _ => 19
def dcnt (k : Nat) : Nat := match k with
  | 2 => 5
  | 3 => 10
  | _ => 20
def dbase (k : Nat) : Nat := match k with
  | 2 => 20
  | 3 => 40
  | _ => 50
def dfs (a : Nat → Nat) (dt : kM) : List Value := [.ref (a 0), .ref (a 1), .ref (a 2), .ref (a 3), .ref (a 4), .ref (a 5), .ref (a 6), .ref (a 7), .int (dt 28 0), .int (dt 1 0), .int (dt 2 0), .int (dt 3 0), .ref (a 12), .ref (a 13), .ref (a 14)]
def dfF (dt : kM) (k : Nat) : List Value := [.int (nI k), .int (dt 7 k), .int (dt 8 k), .int (dt 6 k), .int (dt 9 k), .int (dt 31 k), .int (dt 32 k)]
def dfC (dt : kM) (k : Nat) : List Value := [.int (dt 11 k), .int (dt 12 k), .int (dt 13 k), .int (dt 14 k)]
def dfE (a : Nat → Nat) (dt : kM) (k : Nat) : List Value := [.ref (a (20 + (dt 21 k).toNatClampNeg)), .int (dt 22 k), .int (dt 24 k), .int (dt 23 k), .int (dt 25 k)]
/-- a list's array: its first N places hold the objects from address number 'bs' on -/
def drow (a : Nat → Nat) (bs N : Nat) : Nat → Option Nat := fun j => if j < N then some (a (bs + j)) else none
def dNn (nF nC nE k : Nat) : Nat := if k = 2 then nF else if k = 3 then nC else nE
def dcell (E : kE) (a cap : Nat → Nat) (nF nC nE : Nat) (dt : kM) (k : Nat) : va_E :=
  if k = 15 then .inr (3, dfs a dt)
  else if k = 2 ∨ k = 3 ∨ k = 4 then .inr (5, [.int (dt (38 + k) 0), .ref (a (14 + k)), .int (dt (dcnt k) 0)])
  else if k = 16 ∨ k = 17 ∨ k = 18 then .inl (kO E, cap k, .inr (.inr (.inr (.inr (drow a (dbase (k - 14)) (dNn nF nC nE (k - 14)))))))
  else if k < 15 then .inl (kI E, dlen k, .inl (dt (dmap k)))
  else if k < 40 then .inr (2, dfF dt (k - 20))
  else if k < 50 then .inr (0, dfC dt (k - 40))
  else .inr (1, dfE a dt (k - 50))
def dD (cap : Nat → Nat) (nF nC nE : Nat) (k : Nat) : Prop := (k < 8 ∨ (12 ≤ k ∧ k ≤ 15)) ∨ ((k = 16 ∨ k = 17 ∨ k = 18) ∧ 0 < cap k) ∨ (20 ≤ k ∧ k < 20 + nF) ∨ (40 ≤ k ∧ k < 40 + nC) ∨ (50 ≤ k ∧ k < 50 + nE)
noncomputable def dw (E : kE) (a cap : Nat → Nat) (nF nC nE : Nat) (dt : kM) (h0 : kH) : kH := og (dD cap nF nC nE) a (dcell E a cap nF nC nE dt) h0
/-- where the cells are: apart, none of h0's; the lists' arrays -/
def dgeo (E : kE) (a cap : Nat → Nat) (nF nC nE : Nat) (h0 : kH) : Prop := oinj (dD cap nF nC nE) a ∧ (∀ k, dD cap nF nC nE k → h0 (a k) = none) ∧ (∀ k, (k = 2 ∨ k = 3 ∨ k = 4) → dNn nF nC nE k ≤ cap (14 + k) ∧ cap (14 + k) ≤ 200 ∧ (cap (14 + k) = 0 → a (14 + k) = kN E) ∧ (0 < cap (14 + k) → 10 ≤ cap (14 + k))) ∧ nF ≤ 20 ∧ nC ≤ 6 ∧ nE ≤ 80
def dwf (dt : kM) (nF nC nE w : Nat) : Prop := dt 5 0 = nI nF ∧ nF ≤ 20 ∧ dt 10 0 = nI nC ∧ nC ≤ 6 ∧ dt 20 0 = nI nE ∧ nE ≤ 80 ∧ dt 1 0 = nI w ∧ w ≤ 3000 ∧ (∀ k, k < nF → vp_in (dt 7 k) 10 ∧ vp_in (dt 8 k) 10 ∧ (dt 9 k = -1 ∨ vp_in (dt 9 k) 10)) ∧ (∀ k, k < nE → vp_in (dt 21 k) nF) ∧ (∀ k, k < w → dt 19 k = -1 ∨ vp_in (dt 19 k) 6)
section DL
variable {E : kE} {a cap : Nat → Nat} {nF nC nE : Nat} {dt : kM} {h0 : kH}
theorem dw_obj (hg : dgeo E a cap nF nC nE h0) : dw E a cap nF nC nE dt h0 (a 15) = some (.inr (3, dfs a dt)) := by
  unfold dw
  rw [og_at hg.1 _ h0 (k := 15) (Or.inl (Or.inr (by omega)))]
  simp [dcell]
theorem dw_lst (hg : dgeo E a cap nF nC nE h0) {k : Nat} (hk : k = 2 ∨ k = 3 ∨ k = 4) : dw E a cap nF nC nE dt h0 (a k) = some (.inr (5, [.int (dt (38 + k) 0), .ref (a (14 + k)), .int (dt (dcnt k) 0)])) := by
  unfold dw
  rw [og_at hg.1 _ h0 (k := k) (Or.inl (Or.inl (by omega)))]
  unfold dcell
  rw [if_neg (by omega), if_pos hk]
theorem dw_ed (hg : dgeo E a cap nF nC nE h0) {k : Nat} (hk : k = 2 ∨ k = 3 ∨ k = 4) (hc : 0 < cap (14 + k)) : dw E a cap nF nC nE dt h0 (a (14 + k)) = some (.inl (kO E, cap (14 + k), .inr (.inr (.inr (.inr (drow a (dbase k) (dNn nF nC nE k))))))) := by
  unfold dw
  rw [og_at hg.1 _ h0 (k := 14 + k) (Or.inr (Or.inl ⟨by omega, hc⟩))]
  unfold dcell
  rw [if_neg (by omega), if_neg (by omega), if_pos (by omega), Nat.add_sub_cancel_left]
theorem dw_arr (hg : dgeo E a cap nF nC nE h0) {k : Nat} (hk : k = 0 ∨ k = 1 ∨ k = 5 ∨ k = 6 ∨ k = 7 ∨ k = 12 ∨ k = 13 ∨ k = 14) : dw E a cap nF nC nE dt h0 (a k) = some (.inl (kI E, dlen k, .inl (dt (dmap k)))) := by
  unfold dw
  rw [og_at hg.1 _ h0 (k := k) (Or.inl (by omega))]
  unfold dcell
  rw [if_neg (by omega), if_neg (by omega), if_neg (by omega), if_pos (by omega)]
theorem dw_fgt (hg : dgeo E a cap nF nC nE h0) {k : Nat} (hk : k < nF) : dw E a cap nF nC nE dt h0 (a (20 + k)) = some (.inr (2, dfF dt k)) := by
  have := hg.2.2.2.1
  unfold dw
  rw [og_at hg.1 _ h0 (k := 20 + k) (Or.inr (Or.inr (Or.inl (by omega))))]
  unfold dcell
  rw [if_neg (by omega), if_neg (by omega), if_neg (by omega), if_neg (by omega), if_pos (by omega), Nat.add_sub_cancel_left]
theorem dw_cam (hg : dgeo E a cap nF nC nE h0) {k : Nat} (hk : k < nC) : dw E a cap nF nC nE dt h0 (a (40 + k)) = some (.inr (0, dfC dt k)) := by
  have := hg.2.2.2.2.1
  unfold dw
  rw [og_at hg.1 _ h0 (k := 40 + k) (Or.inr (Or.inr (Or.inr (Or.inl (by omega)))))]
  unfold dcell
  rw [if_neg (by omega), if_neg (by omega), if_neg (by omega), if_neg (by omega), if_neg (by omega), if_pos (by omega), Nat.add_sub_cancel_left]
theorem dw_ent (hg : dgeo E a cap nF nC nE h0) {k : Nat} (hk : k < nE) : dw E a cap nF nC nE dt h0 (a (50 + k)) = some (.inr (1, dfE a dt k)) := by
  unfold dw
  rw [og_at hg.1 _ h0 (k := 50 + k) (Or.inr (Or.inr (Or.inr (Or.inr (by omega)))))]
  unfold dcell
  rw [if_neg (by omega), if_neg (by omega), if_neg (by omega), if_neg (by omega), if_neg (by omega), if_neg (by omega), Nat.add_sub_cancel_left]
/-- which state a cell reads -/
theorem dcell_c {dt' : kM} {k : Nat} (h15 : k = 15 → dfs a dt' = dfs a dt) (hl : (k = 2 ∨ k = 3 ∨ k = 4) → dt' (38 + k) 0 = dt (38 + k) 0 ∧ dt' (dcnt k) 0 = dt (dcnt k) 0) (ha : k < 15 → k ≠ 2 → k ≠ 3 → k ≠ 4 → dt' (dmap k) = dt (dmap k)) (hf : 20 ≤ k → k < 40 → dfF dt' (k - 20) = dfF dt (k - 20)) (hc : 40 ≤ k → k < 50 → dfC dt' (k - 40) = dfC dt (k - 40)) (he : 50 ≤ k → dfE a dt' (k - 50) = dfE a dt (k - 50)) (hk : dD cap nF nC nE k) : dcell E a cap nF nC nE dt' k = dcell E a cap nF nC nE dt k := by
  unfold dcell
  by_cases c1 : k = 15
  · rw [if_pos c1, if_pos c1, h15 c1]
  rw [if_neg c1, if_neg c1]
  by_cases c2 : k = 2 ∨ k = 3 ∨ k = 4
  · rw [if_pos c2, if_pos c2, (hl c2).1, (hl c2).2]
  rw [if_neg c2, if_neg c2]
  by_cases c3 : k = 16 ∨ k = 17 ∨ k = 18
  · rw [if_pos c3, if_pos c3]
  rw [if_neg c3, if_neg c3]
  by_cases c4 : k < 15
  · rw [if_pos c4, if_pos c4, ha c4 (by omega) (by omega) (by omega)]
  rw [if_neg c4, if_neg c4]
  by_cases c5 : k < 40
  · rw [if_pos c5, if_pos c5]
    by_cases c6 : 20 ≤ k
    · rw [hf c6 c5]
    · exfalso
      rcases hk with h | h | h | h | h <;> omega
  rw [if_neg c5, if_neg c5]
  by_cases c7 : k < 50
  · rw [if_pos c7, if_pos c7, hc (by omega) c7]
  rw [if_neg c7, if_neg c7, he (by omega)]
end DL
