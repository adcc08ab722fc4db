/-! what the law's wrappers answer, and the desk's next state -/
abbrev lS : Type := kM × Nat × Nat × Nat × Nat
abbrev lRes : Type := Int32 ⊕ (Int32 × lS)
abbrev cIO : Int32 := -2000000001
abbrev cIA : Int32 := -2000000002
abbrev cIS : Int32 := -2000000003
noncomputable def oRank (dt : kM) (nF nC nE w : Nat) (x y : Int32) : lRes := @ite _ (¬ x < 0 ∧ x < 10) (Classical.propDecidable _) (@ite _ (¬ y < 0 ∧ ¬ 99 < y) (Classical.propDecidable _) (.inr (dt 4 x.toNatClampNeg, (ma dt 4 x.toNatClampNeg y, nF, nC, nE, w))) (.inl cIA)) (.inl cIO)
noncomputable def oFight (dt : kM) (nF nC nE w : Nat) (x y : Int32) : lRes := @ite _ (¬ x < 0 ∧ x < 10) (Classical.propDecidable _) (@ite _ (¬ y < 0 ∧ y < 10) (Classical.propDecidable _) (@ite _ (¬ x = y) (Classical.propDecidable _) (@ite _ (nF < 20 ∧ ¬ dBusy dt x y nF) (Classical.propDecidable _) (.inr (nI nF, (dBeg dt nF x y, nF + 1, nC, nE, w))) (.inl cIS)) (.inl cIA)) (.inl cIO)) (.inl cIO)
noncomputable def oEnd (dt : kM) (nF nC nE w : Nat) (x : Int32) : lRes := @ite _ (¬ x < 0 ∧ x < nI nF) (Classical.propDecidable _) (@ite _ (dt 6 x.toNatClampNeg = 0) (Classical.propDecidable _) (.inr (dEnd dt w x.toNatClampNeg nE 9 x.toNatClampNeg, (dEnd dt w x.toNatClampNeg nE, nF, nC, nE, w))) (.inl cIS)) (.inl cIO)
noncomputable def oReplay (dt : kM) (nF nC nE w : Nat) (x : Int32) : lRes := @ite _ (¬ x < 0 ∧ x < nI nF) (Classical.propDecidable _) (@ite _ (dt 6 x.toNatClampNeg = 1) (Classical.propDecidable _) (@ite _ (nF < 20 ∧ ¬ dBusy dt (dt 7 x.toNatClampNeg) (dt 8 x.toNatClampNeg) nF) (Classical.propDecidable _) (.inr (nI nF, (dBeg (dRep dt x.toNatClampNeg nE w) nF (dRep dt x.toNatClampNeg nE w 7 x.toNatClampNeg) (dRep dt x.toNatClampNeg nE w 8 x.toNatClampNeg), nF + 1, nC, nE, w))) (.inl cIS)) (.inl cIS)) (.inl cIO)
noncomputable def oCamera (dt : kM) (nF nC nE w : Nat) (x y : Int32) : lRes := @ite _ (¬ x < 1 ∧ ¬ 60 < x) (Classical.propDecidable _) (@ite _ (¬ y < 0 ∧ ¬ 60 < y) (Classical.propDecidable _) (@ite _ (nC < 6) (Classical.propDecidable _) (.inr (nI nC, (dCamN dt nC x y, nF, nC + 1, nE, w))) (.inl cIS)) (.inl cIA)) (.inl cIA)
noncomputable def oDelay (dt : kM) (nF nC nE w : Nat) (x : Int32) : lRes := @ite _ (¬ x < 0 ∧ ¬ 100 < x) (Classical.propDecidable _) (.inr (dt 2 0, (msee (ms dt 2 x), nF, nC, nE, w))) (.inl cIA)
noncomputable def oPass (dt : kM) (nF nC nE w : Nat) (x : Int32) : lRes := @ite _ (¬ x < 1 ∧ ¬ 200 < x) (Classical.propDecidable _) (@ite _ (¬ 3000 < dt 1 0 + x) (Classical.propDecidable _) (.inr (nI (w + x.toNatClampNeg), (dPass dt nF nC w x.toNatClampNeg, nF, nC, nE, w + x.toNatClampNeg))) (.inl cIS)) (.inl cIA)
noncomputable def oBlow (dt : kM) (nF nC nE w : Nat) (x y z : Int32) : lRes := @ite _ (¬ x < 0 ∧ x < nI nF) (Classical.propDecidable _) (@ite _ (¬ y < 0 ∧ y < 10) (Classical.propDecidable _) (@ite _ (¬ z < 1 ∧ ¬ 9 < z) (Classical.propDecidable _) (@ite _ (¬ dIsOf dt x.toNatClampNeg y = 0) (Classical.propDecidable _) (@ite _ (dt 6 x.toNatClampNeg = 0) (Classical.propDecidable _) (@ite _ (nE < 80) (Classical.propDecidable _) (.inr (nI nE, (dEnt (ma dt 32 x.toNatClampNeg (dt 32 x.toNatClampNeg ||| 1)) nE (nI x.toNatClampNeg) y (nI w) z, nF, nC, nE + 1, w))) (.inl cIS)) (.inl cIS)) (.inl cIA)) (.inl cIA)) (.inl cIO)) (.inl cIO)
noncomputable def oStrike (dt : kM) (nF nC nE w : Nat) (x : Int32) : lRes := @ite _ (¬ x < 0 ∧ x < nI nE) (Classical.propDecidable _) (@ite _ (¬ dCor dt x.toNatClampNeg = 0) (Classical.propDecidable _) (.inr (dt 23 x.toNatClampNeg, (ma dt 25 x.toNatClampNeg 1, nF, nC, nE, w))) (.inl cIS)) (.inl cIO)
noncomputable def oMend (dt : kM) (nF nC nE w : Nat) (x y : Int32) : lRes := @ite _ (¬ x < 0 ∧ x < nI nE) (Classical.propDecidable _) (@ite _ (¬ y < 1 ∧ ¬ 9 < y) (Classical.propDecidable _) (@ite _ (¬ dCor dt x.toNatClampNeg = 0) (Classical.propDecidable _) (.inr (dt 23 x.toNatClampNeg, (ma dt 23 x.toNatClampNeg y, nF, nC, nE, w))) (.inl cIS)) (.inl cIA)) (.inl cIO)
noncomputable def oPromise (dt : kM) (nF nC nE w : Nat) (x y : Int32) : lRes := @ite _ (¬ x < 0 ∧ x < 6) (Classical.propDecidable _) (@ite _ (¬ y < 0 ∧ ¬ 1000 < y) (Classical.propDecidable _) (.inr (dt 26 x.toNatClampNeg, (ma dt 26 x.toNatClampNeg y, nF, nC, nE, w))) (.inl cIA)) (.inl cIO)
noncomputable def oSlot (dt : kM) (nF nC nE w : Nat) (x y : Int32) : lRes := @ite _ (¬ x < 0 ∧ x < 6) (Classical.propDecidable _) (@ite _ (¬ y < 0 ∧ y < 10) (Classical.propDecidable _) (@ite _ (dt 34 x.toNatClampNeg &&& ((1 : Int32) <<< (y &&& 31)) = 0) (Classical.propDecidable _) (@ite _ (dt 28 0 < 12) (Classical.propDecidable _) (.inr (dt 28 0 + 1, (ms (ma dt 34 x.toNatClampNeg (dt 34 x.toNatClampNeg ||| ((1 : Int32) <<< (y &&& 31)))) 28 (dt 28 0 + 1), nF, nC, nE, w))) (.inl cIS)) (.inl cIS)) (.inl cIO)) (.inl cIO)
noncomputable def vShown (dt : kM) (nF nC nE w : Nat) (x y : Int32) : Int32 := @ite _ (¬ x < 0 ∧ x < nI w) (Classical.propDecidable _) (@ite _ (y = 0 ∨ y = 1 ∨ y = 2) (Classical.propDecidable _) ((if y = 0 then dt 17 x.toNatClampNeg else (if y = 1 then dt 18 x.toNatClampNeg else dt 19 x.toNatClampNeg))) (cIA)) (cIO)
noncomputable def vPoints (dt : kM) (nF nC nE w : Nat) (x y : Int32) : Int32 := @ite _ (¬ x < 0 ∧ x < nI nF) (Classical.propDecidable _) (@ite _ (¬ y < 0 ∧ y < 10) (Classical.propDecidable _) (dPts dt (nI w) x.toNatClampNeg y nE) (cIO)) (cIO)
noncomputable def vOverlay (dt : kM) (nF nC nE w : Nat) (x y : Int32) : Int32 := @ite _ (¬ x < 0 ∧ x < nI nF) (Classical.propDecidable _) (@ite _ (¬ y < 0 ∧ y < 10) (Classical.propDecidable _) (dPts dt (dt 3 0) x.toNatClampNeg y nE) (cIO)) (cIO)
noncomputable def vFightOf (dt : kM) (nF nC nE w : Nat) (x y : Int32) : Int32 := @ite _ (¬ x < 0 ∧ x < nI nF) (Classical.propDecidable _) (@ite _ (y = 0 ∨ y = 1 ∨ y = 2 ∨ y = 3 ∨ y = 4) (Classical.propDecidable _) ((if y = 0 then dt 6 x.toNatClampNeg else (if y = 1 then dt 7 x.toNatClampNeg else (if y = 2 then dt 8 x.toNatClampNeg else (if y = 3 then dt 9 x.toNatClampNeg else dt 31 x.toNatClampNeg))))) (cIA)) (cIO)
noncomputable def vCameraOf (dt : kM) (nF nC nE w : Nat) (x y : Int32) : Int32 := @ite _ (¬ x < 0 ∧ x < nI nC) (Classical.propDecidable _) (@ite _ (y = 0 ∨ y = 1) (Classical.propDecidable _) ((if y = 0 then dt 13 x.toNatClampNeg else dt 14 x.toNatClampNeg)) (cIA)) (cIO)
noncomputable def vCounted (dt : kM) (nF nC nE w : Nat) (x : Int32) : Int32 := @ite _ (¬ x < 0 ∧ x < 6) (Classical.propDecidable _) (dt 33 x.toNatClampNeg) (cIO)
noncomputable def vAnew (dt : kM) (nF nC nE w : Nat) (x : Int32) : Int32 := @ite _ (¬ x < 0 ∧ x < 6) (Classical.propDecidable _) (cntR (dt 19) x w) (cIO)
noncomputable def vOwed (dt : kM) (nF nC nE w : Nat) (x : Int32) : Int32 := @ite _ (¬ x < 0 ∧ x < 6) (Classical.propDecidable _) (dOwe dt x.toNatClampNeg) (cIO)
/-- the player at a place, or the code -/
def PLea (dt : kM) (x r : Int32) : Prop := (¬ (¬ x < 0 ∧ x < 10) ∧ r = cIO) ∨ ((¬ x < 0 ∧ x < 10) ∧ ∃ j, j < 10 ∧ (j = 9 ∨ dPla dt j 10 = x) ∧ (∀ m, m < j → ¬ dPla dt m 10 = x) ∧ r = nI j)
theorem PLea_uniq {dt : kM} {x r r2 : Int32} (h1 : PLea dt x r) (h2 : PLea dt x r2) : r = r2 := by
  rcases h1 with ⟨c1, rfl⟩ | ⟨c1, j, hj, a1, b1, rfl⟩
  · rcases h2 with ⟨c2, rfl⟩ | ⟨c2, _⟩
    · rfl
    · exact absurd c2 c1
  · rcases h2 with ⟨c2, rfl⟩ | ⟨c2, i, hi, a2, b2, rfl⟩
    · exact absurd c1 c2
    · have : j = i := by
        rcases Nat.lt_trichotomy j i with q | q | q
        · rcases a1 with z | z
          · omega
          · exact absurd z (b2 j q)
        · exact q
        · rcases a2 with z | z
          · omega
          · exact absurd z (b1 i q)
      rw [this]
def OPost (E : kE) (a : Nat → Nat) (h0 H : kH) (o : lRes) (r : Int32) (h' : kH) : Prop := match o with
  | .inl c => r = c ∧ h' = H
  | .inr (v, (dt', nF', nC', nE', _)) => r = v ∧ ∃ a' cap' : Nat → Nat, a' 15 = a 15 ∧ dgeo E a' cap' nF' nC' nE' h0 ∧ h' = dw E a' cap' nF' nC' nE' dt' h0
theorem OP_e {E : kE} {a : Nat → Nat} {h0 H : kH} {o : lRes} {c : Int32} (hm : o = .inl c) : OPost E a h0 H o c H := by rw [hm]; exact ⟨rfl, rfl⟩
theorem OP_k {E : kE} {a a' cap' : Nat → Nat} {h0 H : kH} {o : lRes} {v : Int32} {dt' : kM} {nF' nC' nE' w' : Nat} (hm : o = .inr (v, (dt', nF', nC', nE', w'))) (h15 : a' 15 = a 15) (hg : dgeo E a' cap' nF' nC' nE' h0) : OPost E a h0 H o v (dw E a' cap' nF' nC' nE' dt' h0) := by rw [hm]; exact ⟨rfl, a', cap', h15, hg, rfl⟩
theorem nI_rng {o n : Nat} (ho : o < n) (hn : n < 2 ^ 31) : ¬ nI o < 0 ∧ nI o < nI n := ⟨nI_pos (by omega), nI_lt ho hn⟩
theorem ox_rank {dt : kM} {nF nC nE w : Nat} {Ec : String} {x y : Int32} (hd : dwf dt nF nC nE w) (h : (Ec = kIO ∧ ¬ (¬ x < 0 ∧ x < 10)) ∨ (Ec = kIA ∧ (¬ x < 0 ∧ x < 10) ∧ ¬ (¬ y < 0 ∧ ¬ 99 < y))) : (Ec = kIO ∧ oRank dt nF nC nE w x y = .inl cIO) ∨ (Ec = kIA ∧ oRank dt nF nC nE w x y = .inl cIA) := by
  rcases h with ⟨rfl, h0⟩ | ⟨rfl, h0, h1⟩
  · exact Or.inl (⟨rfl, by unfold oRank; rw [if_neg h0]⟩)
  · exact Or.inr (⟨rfl, by unfold oRank; rw [if_pos h0, if_neg h1]⟩)
theorem ok_rank {dt : kM} {nF nC nE w : Nat} {x y : Int32} (h0 : ¬ x < 0 ∧ x < 10) (h1 : ¬ y < 0 ∧ ¬ 99 < y) : oRank dt nF nC nE w x y = .inr (dt 4 x.toNatClampNeg, (ma dt 4 x.toNatClampNeg y, nF, nC, nE, w)) := by
  unfold oRank; rw [if_pos h0, if_pos h1]
theorem ox_fight {dt : kM} {nF nC nE w : Nat} {Ec : String} {x y : Int32} (hd : dwf dt nF nC nE w) (h : (Ec = kIO ∧ ¬ (¬ x < 0 ∧ x < 10)) ∨ (Ec = kIO ∧ (¬ x < 0 ∧ x < 10) ∧ ¬ (¬ y < 0 ∧ y < 10)) ∨ (Ec = kIA ∧ (¬ x < 0 ∧ x < 10) ∧ (¬ y < 0 ∧ y < 10) ∧ ¬ (¬ x = y)) ∨ (Ec = kIS ∧ (¬ x < 0 ∧ x < 10) ∧ (¬ y < 0 ∧ y < 10) ∧ (¬ x = y) ∧ ¬ (nF < 20 ∧ ¬ dBusy dt x y nF))) : (Ec = kIO ∧ oFight dt nF nC nE w x y = .inl cIO) ∨ (Ec = kIA ∧ oFight dt nF nC nE w x y = .inl cIA) ∨ (Ec = kIS ∧ oFight dt nF nC nE w x y = .inl cIS) := by
  rcases h with ⟨rfl, h0⟩ | ⟨rfl, h0, h1⟩ | ⟨rfl, h0, h1, h2⟩ | ⟨rfl, h0, h1, h2, h3⟩
  · exact Or.inl (⟨rfl, by unfold oFight; rw [if_neg h0]⟩)
  · exact Or.inl (⟨rfl, by unfold oFight; rw [if_pos h0, if_neg h1]⟩)
  · exact Or.inr (Or.inl (⟨rfl, by unfold oFight; rw [if_pos h0, if_pos h1, if_neg h2]⟩))
  · exact Or.inr (Or.inr (⟨rfl, by unfold oFight; rw [if_pos h0, if_pos h1, if_pos h2, if_neg h3]⟩))
theorem ok_fight {dt : kM} {nF nC nE w : Nat} {x y : Int32} (h0 : ¬ x < 0 ∧ x < 10) (h1 : ¬ y < 0 ∧ y < 10) (h2 : ¬ x = y) (h3 : nF < 20 ∧ ¬ dBusy dt x y nF) : oFight dt nF nC nE w x y = .inr (nI nF, (dBeg dt nF x y, nF + 1, nC, nE, w)) := by
  unfold oFight; rw [if_pos h0, if_pos h1, if_pos h2, if_pos h3]
theorem ox_end {dt : kM} {nF nC nE w : Nat} {Ec : String} {x : Int32} (hd : dwf dt nF nC nE w) (h : (Ec = kIO ∧ ¬ (¬ x < 0 ∧ x < nI nF)) ∨ ∃ o, o < nF ∧ x = nI o ∧ ((Ec = kIS ∧ ¬ (dt 6 o = 0)))) : (Ec = kIO ∧ oEnd dt nF nC nE w x = .inl cIO) ∨ (Ec = kIS ∧ oEnd dt nF nC nE w x = .inl cIS) := by
  rcases h with ⟨rfl, h0⟩ | ⟨o, ho, rfl, h⟩
  · exact Or.inl (⟨rfl, by unfold oEnd; rw [if_neg h0]⟩)
  · have hN : nF ≤ 20 := hd.2.1
    have he : (nI o).toNatClampNeg = o := nI_clamp (by omega)
    have h0 := nI_rng ho (by omega)
    obtain ⟨rfl, h1⟩ := h
    exact Or.inr (⟨rfl, by unfold oEnd; rw [he, if_pos h0, if_neg h1]⟩)
theorem ok_end {dt : kM} {nF nC nE w : Nat} {o : Nat} (hd : dwf dt nF nC nE w) (ho : o < nF) (h1 : dt 6 o = 0) : oEnd dt nF nC nE w (nI o) = .inr (dEnd dt w o nE 9 o, (dEnd dt w o nE, nF, nC, nE, w)) := by
  have hN : nF ≤ 20 := hd.2.1
  have he : (nI o).toNatClampNeg = o := nI_clamp (by omega)
  unfold oEnd; rw [he, if_pos (nI_rng ho (by omega)), if_pos h1]
theorem ox_replay {dt : kM} {nF nC nE w : Nat} {Ec : String} {x : Int32} (hd : dwf dt nF nC nE w) (h : (Ec = kIO ∧ ¬ (¬ x < 0 ∧ x < nI nF)) ∨ ∃ o, o < nF ∧ x = nI o ∧ ((Ec = kIS ∧ ¬ (dt 6 o = 1)) ∨ (Ec = kIS ∧ (dt 6 o = 1) ∧ ¬ (nF < 20 ∧ ¬ dBusy dt (dt 7 o) (dt 8 o) nF)))) : (Ec = kIO ∧ oReplay dt nF nC nE w x = .inl cIO) ∨ (Ec = kIS ∧ oReplay dt nF nC nE w x = .inl cIS) := by
  rcases h with ⟨rfl, h0⟩ | ⟨o, ho, rfl, h⟩
  · exact Or.inl (⟨rfl, by unfold oReplay; rw [if_neg h0]⟩)
  · have hN : nF ≤ 20 := hd.2.1
    have he : (nI o).toNatClampNeg = o := nI_clamp (by omega)
    have h0 := nI_rng ho (by omega)
    rcases h with ⟨rfl, h1⟩ | ⟨rfl, h1, h2⟩
    · exact Or.inr (⟨rfl, by unfold oReplay; rw [he, if_pos h0, if_neg h1]⟩)
    · exact Or.inr (⟨rfl, by unfold oReplay; rw [he, if_pos h0, if_pos h1, if_neg h2]⟩)
theorem ok_replay {dt : kM} {nF nC nE w : Nat} {o : Nat} (hd : dwf dt nF nC nE w) (ho : o < nF) (h1 : dt 6 o = 1) (h2 : nF < 20 ∧ ¬ dBusy dt (dt 7 o) (dt 8 o) nF) : oReplay dt nF nC nE w (nI o) = .inr (nI nF, (dBeg (dRep dt o nE w) nF (dRep dt o nE w 7 o) (dRep dt o nE w 8 o), nF + 1, nC, nE, w)) := by
  have hN : nF ≤ 20 := hd.2.1
  have he : (nI o).toNatClampNeg = o := nI_clamp (by omega)
  unfold oReplay; rw [he, if_pos (nI_rng ho (by omega)), if_pos h1, if_pos h2]
theorem ox_camera {dt : kM} {nF nC nE w : Nat} {Ec : String} {x y : Int32} (hd : dwf dt nF nC nE w) (h : (Ec = kIA ∧ ¬ (¬ x < 1 ∧ ¬ 60 < x)) ∨ (Ec = kIA ∧ (¬ x < 1 ∧ ¬ 60 < x) ∧ ¬ (¬ y < 0 ∧ ¬ 60 < y)) ∨ (Ec = kIS ∧ (¬ x < 1 ∧ ¬ 60 < x) ∧ (¬ y < 0 ∧ ¬ 60 < y) ∧ ¬ (nC < 6))) : (Ec = kIA ∧ oCamera dt nF nC nE w x y = .inl cIA) ∨ (Ec = kIS ∧ oCamera dt nF nC nE w x y = .inl cIS) := by
  rcases h with ⟨rfl, h0⟩ | ⟨rfl, h0, h1⟩ | ⟨rfl, h0, h1, h2⟩
  · exact Or.inl (⟨rfl, by unfold oCamera; rw [if_neg h0]⟩)
  · exact Or.inl (⟨rfl, by unfold oCamera; rw [if_pos h0, if_neg h1]⟩)
  · exact Or.inr (⟨rfl, by unfold oCamera; rw [if_pos h0, if_pos h1, if_neg h2]⟩)
theorem ok_camera {dt : kM} {nF nC nE w : Nat} {x y : Int32} (h0 : ¬ x < 1 ∧ ¬ 60 < x) (h1 : ¬ y < 0 ∧ ¬ 60 < y) (h2 : nC < 6) : oCamera dt nF nC nE w x y = .inr (nI nC, (dCamN dt nC x y, nF, nC + 1, nE, w)) := by
  unfold oCamera; rw [if_pos h0, if_pos h1, if_pos h2]
theorem ox_delay {dt : kM} {nF nC nE w : Nat} {Ec : String} {x : Int32} (hd : dwf dt nF nC nE w) (h : (Ec = kIA ∧ ¬ (¬ x < 0 ∧ ¬ 100 < x))) : (Ec = kIA ∧ oDelay dt nF nC nE w x = .inl cIA) := by
  obtain ⟨rfl, h0⟩ := h
  exact ⟨rfl, by unfold oDelay; rw [if_neg h0]⟩
theorem ok_delay {dt : kM} {nF nC nE w : Nat} {x : Int32} (h0 : ¬ x < 0 ∧ ¬ 100 < x) : oDelay dt nF nC nE w x = .inr (dt 2 0, (msee (ms dt 2 x), nF, nC, nE, w)) := by
  unfold oDelay; rw [if_pos h0]
theorem ox_pass {dt : kM} {nF nC nE w : Nat} {Ec : String} {x : Int32} (hd : dwf dt nF nC nE w) (h : (Ec = kIA ∧ ¬ (¬ x < 1 ∧ ¬ 200 < x)) ∨ (Ec = kIS ∧ (¬ x < 1 ∧ ¬ 200 < x) ∧ ¬ (¬ 3000 < dt 1 0 + x))) : (Ec = kIA ∧ oPass dt nF nC nE w x = .inl cIA) ∨ (Ec = kIS ∧ oPass dt nF nC nE w x = .inl cIS) := by
  rcases h with ⟨rfl, h0⟩ | ⟨rfl, h0, h1⟩
  · exact Or.inl (⟨rfl, by unfold oPass; rw [if_neg h0]⟩)
  · exact Or.inr (⟨rfl, by unfold oPass; rw [if_pos h0, if_neg h1]⟩)
theorem ok_pass {dt : kM} {nF nC nE w : Nat} {x : Int32} (h0 : ¬ x < 1 ∧ ¬ 200 < x) (h1 : ¬ 3000 < dt 1 0 + x) : oPass dt nF nC nE w x = .inr (nI (w + x.toNatClampNeg), (dPass dt nF nC w x.toNatClampNeg, nF, nC, nE, w + x.toNatClampNeg)) := by
  unfold oPass; rw [if_pos h0, if_pos h1]
theorem ox_blow {dt : kM} {nF nC nE w : Nat} {Ec : String} {x y z : Int32} (hd : dwf dt nF nC nE w) (h : (Ec = kIO ∧ ¬ (¬ x < 0 ∧ x < nI nF)) ∨ ∃ o, o < nF ∧ x = nI o ∧ ((Ec = kIO ∧ ¬ (¬ y < 0 ∧ y < 10)) ∨ (Ec = kIA ∧ (¬ y < 0 ∧ y < 10) ∧ ¬ (¬ z < 1 ∧ ¬ 9 < z)) ∨ (Ec = kIA ∧ (¬ y < 0 ∧ y < 10) ∧ (¬ z < 1 ∧ ¬ 9 < z) ∧ ¬ (¬ dIsOf dt o y = 0)) ∨ (Ec = kIS ∧ (¬ y < 0 ∧ y < 10) ∧ (¬ z < 1 ∧ ¬ 9 < z) ∧ (¬ dIsOf dt o y = 0) ∧ ¬ (dt 6 o = 0)) ∨ (Ec = kIS ∧ (¬ y < 0 ∧ y < 10) ∧ (¬ z < 1 ∧ ¬ 9 < z) ∧ (¬ dIsOf dt o y = 0) ∧ (dt 6 o = 0) ∧ ¬ (nE < 80)))) : (Ec = kIO ∧ oBlow dt nF nC nE w x y z = .inl cIO) ∨ (Ec = kIA ∧ oBlow dt nF nC nE w x y z = .inl cIA) ∨ (Ec = kIS ∧ oBlow dt nF nC nE w x y z = .inl cIS) := by
  rcases h with ⟨rfl, h0⟩ | ⟨o, ho, rfl, h⟩
  · exact Or.inl (⟨rfl, by unfold oBlow; rw [if_neg h0]⟩)
  · have hN : nF ≤ 20 := hd.2.1
    have he : (nI o).toNatClampNeg = o := nI_clamp (by omega)
    have h0 := nI_rng ho (by omega)
    rcases h with ⟨rfl, h1⟩ | ⟨rfl, h1, h2⟩ | ⟨rfl, h1, h2, h3⟩ | ⟨rfl, h1, h2, h3, h4⟩ | ⟨rfl, h1, h2, h3, h4, h5⟩
    · exact Or.inl (⟨rfl, by unfold oBlow; rw [he, if_pos h0, if_neg h1]⟩)
    · exact Or.inr (Or.inl (⟨rfl, by unfold oBlow; rw [he, if_pos h0, if_pos h1, if_neg h2]⟩))
    · exact Or.inr (Or.inl (⟨rfl, by unfold oBlow; rw [he, if_pos h0, if_pos h1, if_pos h2, if_neg h3]⟩))
    · exact Or.inr (Or.inr (⟨rfl, by unfold oBlow; rw [he, if_pos h0, if_pos h1, if_pos h2, if_pos h3, if_neg h4]⟩))
    · exact Or.inr (Or.inr (⟨rfl, by unfold oBlow; rw [he, if_pos h0, if_pos h1, if_pos h2, if_pos h3, if_pos h4, if_neg h5]⟩))
theorem ok_blow {dt : kM} {nF nC nE w : Nat} {y z : Int32} {o : Nat} (hd : dwf dt nF nC nE w) (ho : o < nF) (h1 : ¬ y < 0 ∧ y < 10) (h2 : ¬ z < 1 ∧ ¬ 9 < z) (h3 : ¬ dIsOf dt o y = 0) (h4 : dt 6 o = 0) (h5 : nE < 80) : oBlow dt nF nC nE w (nI o) y z = .inr (nI nE, (dEnt (ma dt 32 o (dt 32 o ||| 1)) nE (nI o) y (nI w) z, nF, nC, nE + 1, w)) := by
  have hN : nF ≤ 20 := hd.2.1
  have he : (nI o).toNatClampNeg = o := nI_clamp (by omega)
  unfold oBlow; rw [he, if_pos (nI_rng ho (by omega)), if_pos h1, if_pos h2, if_pos h3, if_pos h4, if_pos h5]
theorem ox_strike {dt : kM} {nF nC nE w : Nat} {Ec : String} {x : Int32} (hd : dwf dt nF nC nE w) (h : (Ec = kIO ∧ ¬ (¬ x < 0 ∧ x < nI nE)) ∨ ∃ o, o < nE ∧ x = nI o ∧ ((Ec = kIS ∧ ¬ (¬ dCor dt o = 0)))) : (Ec = kIO ∧ oStrike dt nF nC nE w x = .inl cIO) ∨ (Ec = kIS ∧ oStrike dt nF nC nE w x = .inl cIS) := by
  rcases h with ⟨rfl, h0⟩ | ⟨o, ho, rfl, h⟩
  · exact Or.inl (⟨rfl, by unfold oStrike; rw [if_neg h0]⟩)
  · have hN : nE ≤ 80 := hd.2.2.2.2.2.1
    have he : (nI o).toNatClampNeg = o := nI_clamp (by omega)
    have h0 := nI_rng ho (by omega)
    obtain ⟨rfl, h1⟩ := h
    exact Or.inr (⟨rfl, by unfold oStrike; rw [he, if_pos h0, if_neg h1]⟩)
theorem ok_strike {dt : kM} {nF nC nE w : Nat} {o : Nat} (hd : dwf dt nF nC nE w) (ho : o < nE) (h1 : ¬ dCor dt o = 0) : oStrike dt nF nC nE w (nI o) = .inr (dt 23 o, (ma dt 25 o 1, nF, nC, nE, w)) := by
  have hN : nE ≤ 80 := hd.2.2.2.2.2.1
  have he : (nI o).toNatClampNeg = o := nI_clamp (by omega)
  unfold oStrike; rw [he, if_pos (nI_rng ho (by omega)), if_pos h1]
theorem ox_mend {dt : kM} {nF nC nE w : Nat} {Ec : String} {x y : Int32} (hd : dwf dt nF nC nE w) (h : (Ec = kIO ∧ ¬ (¬ x < 0 ∧ x < nI nE)) ∨ ∃ o, o < nE ∧ x = nI o ∧ ((Ec = kIA ∧ ¬ (¬ y < 1 ∧ ¬ 9 < y)) ∨ (Ec = kIS ∧ (¬ y < 1 ∧ ¬ 9 < y) ∧ ¬ (¬ dCor dt o = 0)))) : (Ec = kIO ∧ oMend dt nF nC nE w x y = .inl cIO) ∨ (Ec = kIA ∧ oMend dt nF nC nE w x y = .inl cIA) ∨ (Ec = kIS ∧ oMend dt nF nC nE w x y = .inl cIS) := by
  rcases h with ⟨rfl, h0⟩ | ⟨o, ho, rfl, h⟩
  · exact Or.inl (⟨rfl, by unfold oMend; rw [if_neg h0]⟩)
  · have hN : nE ≤ 80 := hd.2.2.2.2.2.1
    have he : (nI o).toNatClampNeg = o := nI_clamp (by omega)
    have h0 := nI_rng ho (by omega)
    rcases h with ⟨rfl, h1⟩ | ⟨rfl, h1, h2⟩
    · exact Or.inr (Or.inl (⟨rfl, by unfold oMend; rw [he, if_pos h0, if_neg h1]⟩))
    · exact Or.inr (Or.inr (⟨rfl, by unfold oMend; rw [he, if_pos h0, if_pos h1, if_neg h2]⟩))
theorem ok_mend {dt : kM} {nF nC nE w : Nat} {y : Int32} {o : Nat} (hd : dwf dt nF nC nE w) (ho : o < nE) (h1 : ¬ y < 1 ∧ ¬ 9 < y) (h2 : ¬ dCor dt o = 0) : oMend dt nF nC nE w (nI o) y = .inr (dt 23 o, (ma dt 23 o y, nF, nC, nE, w)) := by
  have hN : nE ≤ 80 := hd.2.2.2.2.2.1
  have he : (nI o).toNatClampNeg = o := nI_clamp (by omega)
  unfold oMend; rw [he, if_pos (nI_rng ho (by omega)), if_pos h1, if_pos h2]
theorem ox_promise {dt : kM} {nF nC nE w : Nat} {Ec : String} {x y : Int32} (hd : dwf dt nF nC nE w) (h : (Ec = kIO ∧ ¬ (¬ x < 0 ∧ x < 6)) ∨ (Ec = kIA ∧ (¬ x < 0 ∧ x < 6) ∧ ¬ (¬ y < 0 ∧ ¬ 1000 < y))) : (Ec = kIO ∧ oPromise dt nF nC nE w x y = .inl cIO) ∨ (Ec = kIA ∧ oPromise dt nF nC nE w x y = .inl cIA) := by
  rcases h with ⟨rfl, h0⟩ | ⟨rfl, h0, h1⟩
  · exact Or.inl (⟨rfl, by unfold oPromise; rw [if_neg h0]⟩)
  · exact Or.inr (⟨rfl, by unfold oPromise; rw [if_pos h0, if_neg h1]⟩)
theorem ok_promise {dt : kM} {nF nC nE w : Nat} {x y : Int32} (h0 : ¬ x < 0 ∧ x < 6) (h1 : ¬ y < 0 ∧ ¬ 1000 < y) : oPromise dt nF nC nE w x y = .inr (dt 26 x.toNatClampNeg, (ma dt 26 x.toNatClampNeg y, nF, nC, nE, w)) := by
  unfold oPromise; rw [if_pos h0, if_pos h1]
theorem ox_slot {dt : kM} {nF nC nE w : Nat} {Ec : String} {x y : Int32} (hd : dwf dt nF nC nE w) (h : (Ec = kIO ∧ ¬ (¬ x < 0 ∧ x < 6)) ∨ (Ec = kIO ∧ (¬ x < 0 ∧ x < 6) ∧ ¬ (¬ y < 0 ∧ y < 10)) ∨ (Ec = kIS ∧ (¬ x < 0 ∧ x < 6) ∧ (¬ y < 0 ∧ y < 10) ∧ ¬ (dt 34 x.toNatClampNeg &&& ((1 : Int32) <<< (y &&& 31)) = 0)) ∨ (Ec = kIS ∧ (¬ x < 0 ∧ x < 6) ∧ (¬ y < 0 ∧ y < 10) ∧ (dt 34 x.toNatClampNeg &&& ((1 : Int32) <<< (y &&& 31)) = 0) ∧ ¬ (dt 28 0 < 12))) : (Ec = kIO ∧ oSlot dt nF nC nE w x y = .inl cIO) ∨ (Ec = kIS ∧ oSlot dt nF nC nE w x y = .inl cIS) := by
  rcases h with ⟨rfl, h0⟩ | ⟨rfl, h0, h1⟩ | ⟨rfl, h0, h1, h2⟩ | ⟨rfl, h0, h1, h2, h3⟩
  · exact Or.inl (⟨rfl, by unfold oSlot; rw [if_neg h0]⟩)
  · exact Or.inl (⟨rfl, by unfold oSlot; rw [if_pos h0, if_neg h1]⟩)
  · exact Or.inr (⟨rfl, by unfold oSlot; rw [if_pos h0, if_pos h1, if_neg h2]⟩)
  · exact Or.inr (⟨rfl, by unfold oSlot; rw [if_pos h0, if_pos h1, if_pos h2, if_neg h3]⟩)
theorem ok_slot {dt : kM} {nF nC nE w : Nat} {x y : Int32} (h0 : ¬ x < 0 ∧ x < 6) (h1 : ¬ y < 0 ∧ y < 10) (h2 : dt 34 x.toNatClampNeg &&& ((1 : Int32) <<< (y &&& 31)) = 0) (h3 : dt 28 0 < 12) : oSlot dt nF nC nE w x y = .inr (dt 28 0 + 1, (ms (ma dt 34 x.toNatClampNeg (dt 34 x.toNatClampNeg ||| ((1 : Int32) <<< (y &&& 31)))) 28 (dt 28 0 + 1), nF, nC, nE, w)) := by
  unfold oSlot; rw [if_pos h0, if_pos h1, if_pos h2, if_pos h3]
theorem ox_shown {dt : kM} {nF nC nE w : Nat} {Ec : String} {x y : Int32} (hd : dwf dt nF nC nE w) (h : (Ec = kIO ∧ ¬ (¬ x < 0 ∧ x < nI w)) ∨ (Ec = kIA ∧ (¬ x < 0 ∧ x < nI w) ∧ ¬ (y = 0 ∨ y = 1 ∨ y = 2))) : (Ec = kIO ∧ vShown dt nF nC nE w x y = cIO) ∨ (Ec = kIA ∧ vShown dt nF nC nE w x y = cIA) := by
  rcases h with ⟨rfl, h0⟩ | ⟨rfl, h0, h1⟩
  · exact Or.inl (⟨rfl, by unfold vShown; rw [if_neg h0]⟩)
  · exact Or.inr (⟨rfl, by unfold vShown; rw [if_pos h0, if_neg h1]⟩)
theorem ok_shown {dt : kM} {nF nC nE w : Nat} {x y : Int32} (h0 : ¬ x < 0 ∧ x < nI w) (h1 : y = 0 ∨ y = 1 ∨ y = 2) : vShown dt nF nC nE w x y = (if y = 0 then dt 17 x.toNatClampNeg else (if y = 1 then dt 18 x.toNatClampNeg else dt 19 x.toNatClampNeg)) := by
  unfold vShown; rw [if_pos h0, if_pos h1]
theorem ox_points {dt : kM} {nF nC nE w : Nat} {Ec : String} {x y : Int32} (hd : dwf dt nF nC nE w) (h : (Ec = kIO ∧ ¬ (¬ x < 0 ∧ x < nI nF)) ∨ ∃ o, o < nF ∧ x = nI o ∧ ((Ec = kIO ∧ ¬ (¬ y < 0 ∧ y < 10)))) : (Ec = kIO ∧ vPoints dt nF nC nE w x y = cIO) := by
  rcases h with ⟨rfl, h0⟩ | ⟨o, ho, rfl, h⟩
  · exact ⟨rfl, by unfold vPoints; rw [if_neg h0]⟩
  · have hN : nF ≤ 20 := hd.2.1
    have he : (nI o).toNatClampNeg = o := nI_clamp (by omega)
    have h0 := nI_rng ho (by omega)
    obtain ⟨rfl, h1⟩ := h
    exact ⟨rfl, by unfold vPoints; rw [he, if_pos h0, if_neg h1]⟩
theorem ok_points {dt : kM} {nF nC nE w : Nat} {y : Int32} {o : Nat} (hd : dwf dt nF nC nE w) (ho : o < nF) (h1 : ¬ y < 0 ∧ y < 10) : vPoints dt nF nC nE w (nI o) y = dPts dt (nI w) o y nE := by
  have hN : nF ≤ 20 := hd.2.1
  have he : (nI o).toNatClampNeg = o := nI_clamp (by omega)
  unfold vPoints; rw [he, if_pos (nI_rng ho (by omega)), if_pos h1]
theorem ox_overlay {dt : kM} {nF nC nE w : Nat} {Ec : String} {x y : Int32} (hd : dwf dt nF nC nE w) (h : (Ec = kIO ∧ ¬ (¬ x < 0 ∧ x < nI nF)) ∨ ∃ o, o < nF ∧ x = nI o ∧ ((Ec = kIO ∧ ¬ (¬ y < 0 ∧ y < 10)))) : (Ec = kIO ∧ vOverlay dt nF nC nE w x y = cIO) := by
  rcases h with ⟨rfl, h0⟩ | ⟨o, ho, rfl, h⟩
  · exact ⟨rfl, by unfold vOverlay; rw [if_neg h0]⟩
  · have hN : nF ≤ 20 := hd.2.1
    have he : (nI o).toNatClampNeg = o := nI_clamp (by omega)
    have h0 := nI_rng ho (by omega)
    obtain ⟨rfl, h1⟩ := h
    exact ⟨rfl, by unfold vOverlay; rw [he, if_pos h0, if_neg h1]⟩
theorem ok_overlay {dt : kM} {nF nC nE w : Nat} {y : Int32} {o : Nat} (hd : dwf dt nF nC nE w) (ho : o < nF) (h1 : ¬ y < 0 ∧ y < 10) : vOverlay dt nF nC nE w (nI o) y = dPts dt (dt 3 0) o y nE := by
  have hN : nF ≤ 20 := hd.2.1
  have he : (nI o).toNatClampNeg = o := nI_clamp (by omega)
  unfold vOverlay; rw [he, if_pos (nI_rng ho (by omega)), if_pos h1]
theorem ox_fightOf {dt : kM} {nF nC nE w : Nat} {Ec : String} {x y : Int32} (hd : dwf dt nF nC nE w) (h : (Ec = kIO ∧ ¬ (¬ x < 0 ∧ x < nI nF)) ∨ ∃ o, o < nF ∧ x = nI o ∧ ((Ec = kIA ∧ ¬ (y = 0 ∨ y = 1 ∨ y = 2 ∨ y = 3 ∨ y = 4)))) : (Ec = kIO ∧ vFightOf dt nF nC nE w x y = cIO) ∨ (Ec = kIA ∧ vFightOf dt nF nC nE w x y = cIA) := by
  rcases h with ⟨rfl, h0⟩ | ⟨o, ho, rfl, h⟩
  · exact Or.inl (⟨rfl, by unfold vFightOf; rw [if_neg h0]⟩)
  · have hN : nF ≤ 20 := hd.2.1
    have he : (nI o).toNatClampNeg = o := nI_clamp (by omega)
    have h0 := nI_rng ho (by omega)
    obtain ⟨rfl, h1⟩ := h
    exact Or.inr (⟨rfl, by unfold vFightOf; rw [he, if_pos h0, if_neg h1]⟩)
theorem ok_fightOf {dt : kM} {nF nC nE w : Nat} {y : Int32} {o : Nat} (hd : dwf dt nF nC nE w) (ho : o < nF) (h1 : y = 0 ∨ y = 1 ∨ y = 2 ∨ y = 3 ∨ y = 4) : vFightOf dt nF nC nE w (nI o) y = (if y = 0 then dt 6 o else (if y = 1 then dt 7 o else (if y = 2 then dt 8 o else (if y = 3 then dt 9 o else dt 31 o)))) := by
  have hN : nF ≤ 20 := hd.2.1
  have he : (nI o).toNatClampNeg = o := nI_clamp (by omega)
  unfold vFightOf; rw [he, if_pos (nI_rng ho (by omega)), if_pos h1]
theorem ox_cameraOf {dt : kM} {nF nC nE w : Nat} {Ec : String} {x y : Int32} (hd : dwf dt nF nC nE w) (h : (Ec = kIO ∧ ¬ (¬ x < 0 ∧ x < nI nC)) ∨ ∃ o, o < nC ∧ x = nI o ∧ ((Ec = kIA ∧ ¬ (y = 0 ∨ y = 1)))) : (Ec = kIO ∧ vCameraOf dt nF nC nE w x y = cIO) ∨ (Ec = kIA ∧ vCameraOf dt nF nC nE w x y = cIA) := by
  rcases h with ⟨rfl, h0⟩ | ⟨o, ho, rfl, h⟩
  · exact Or.inl (⟨rfl, by unfold vCameraOf; rw [if_neg h0]⟩)
  · have hN : nC ≤ 6 := hd.2.2.2.1
    have he : (nI o).toNatClampNeg = o := nI_clamp (by omega)
    have h0 := nI_rng ho (by omega)
    obtain ⟨rfl, h1⟩ := h
    exact Or.inr (⟨rfl, by unfold vCameraOf; rw [he, if_pos h0, if_neg h1]⟩)
theorem ok_cameraOf {dt : kM} {nF nC nE w : Nat} {y : Int32} {o : Nat} (hd : dwf dt nF nC nE w) (ho : o < nC) (h1 : y = 0 ∨ y = 1) : vCameraOf dt nF nC nE w (nI o) y = (if y = 0 then dt 13 o else dt 14 o) := by
  have hN : nC ≤ 6 := hd.2.2.2.1
  have he : (nI o).toNatClampNeg = o := nI_clamp (by omega)
  unfold vCameraOf; rw [he, if_pos (nI_rng ho (by omega)), if_pos h1]
theorem ox_counted {dt : kM} {nF nC nE w : Nat} {Ec : String} {x : Int32} (hd : dwf dt nF nC nE w) (h : (Ec = kIO ∧ ¬ (¬ x < 0 ∧ x < 6))) : (Ec = kIO ∧ vCounted dt nF nC nE w x = cIO) := by
  obtain ⟨rfl, h0⟩ := h
  exact ⟨rfl, by unfold vCounted; rw [if_neg h0]⟩
theorem ok_counted {dt : kM} {nF nC nE w : Nat} {x : Int32} (h0 : ¬ x < 0 ∧ x < 6) : vCounted dt nF nC nE w x = dt 33 x.toNatClampNeg := by
  unfold vCounted; rw [if_pos h0]
theorem ox_anew {dt : kM} {nF nC nE w : Nat} {Ec : String} {x : Int32} (hd : dwf dt nF nC nE w) (h : (Ec = kIO ∧ ¬ (¬ x < 0 ∧ x < 6))) : (Ec = kIO ∧ vAnew dt nF nC nE w x = cIO) := by
  obtain ⟨rfl, h0⟩ := h
  exact ⟨rfl, by unfold vAnew; rw [if_neg h0]⟩
theorem ok_anew {dt : kM} {nF nC nE w : Nat} {x : Int32} (h0 : ¬ x < 0 ∧ x < 6) : vAnew dt nF nC nE w x = cntR (dt 19) x w := by
  unfold vAnew; rw [if_pos h0]
theorem ox_owed {dt : kM} {nF nC nE w : Nat} {Ec : String} {x : Int32} (hd : dwf dt nF nC nE w) (h : (Ec = kIO ∧ ¬ (¬ x < 0 ∧ x < 6))) : (Ec = kIO ∧ vOwed dt nF nC nE w x = cIO) := by
  obtain ⟨rfl, h0⟩ := h
  exact ⟨rfl, by unfold vOwed; rw [if_neg h0]⟩
theorem ok_owed {dt : kM} {nF nC nE w : Nat} {x : Int32} (h0 : ¬ x < 0 ∧ x < 6) : vOwed dt nF nC nE w x = dOwe dt x.toNatClampNeg := by
  unfold vOwed; rw [if_pos h0]
