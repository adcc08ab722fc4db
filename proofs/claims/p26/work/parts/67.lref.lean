/-! refusals, a condition each; what is read, by number -/
theorem of_rank_0 {dt : kM} {nF nC nE w : Nat} {x y : Int32} (h0 : ¬ (¬ x < 0 ∧ x < 10)) : oRank dt nF nC nE w x y = .inl cIO := by
  unfold oRank; rw [if_neg h0]
theorem of_rank_1 {dt : kM} {nF nC nE w : Nat} {x y : Int32} (h0 : ¬ x < 0 ∧ x < 10) (h1 : ¬ (¬ y < 0 ∧ ¬ 99 < y)) : oRank dt nF nC nE w x y = .inl cIA := by
  unfold oRank; rw [if_pos h0, if_neg h1]
theorem of_fight_0 {dt : kM} {nF nC nE w : Nat} {x y : Int32} (h0 : ¬ (¬ x < 0 ∧ x < 10)) : oFight dt nF nC nE w x y = .inl cIO := by
  unfold oFight; rw [if_neg h0]
theorem of_fight_1 {dt : kM} {nF nC nE w : Nat} {x y : Int32} (h0 : ¬ x < 0 ∧ x < 10) (h1 : ¬ (¬ y < 0 ∧ y < 10)) : oFight dt nF nC nE w x y = .inl cIO := by
  unfold oFight; rw [if_pos h0, if_neg h1]
theorem of_fight_2 {dt : kM} {nF nC nE w : Nat} {x y : Int32} (h0 : ¬ x < 0 ∧ x < 10) (h1 : ¬ y < 0 ∧ y < 10) (h2 : ¬ (¬ x = y)) : oFight dt nF nC nE w x y = .inl cIA := by
  unfold oFight; rw [if_pos h0, if_pos h1, if_neg h2]
theorem of_fight_3 {dt : kM} {nF nC nE w : Nat} {x y : Int32} (h0 : ¬ x < 0 ∧ x < 10) (h1 : ¬ y < 0 ∧ y < 10) (h2 : ¬ x = y) (h3 : ¬ (nF < 20 ∧ ¬ dBusy dt x y nF)) : oFight dt nF nC nE w x y = .inl cIS := by
  unfold oFight; rw [if_pos h0, if_pos h1, if_pos h2, if_neg h3]
theorem of_end_0 {dt : kM} {nF nC nE w : Nat} {x : Int32} (h0 : ¬ (¬ x < 0 ∧ x < nI nF)) : oEnd dt nF nC nE w x = .inl cIO := by
  unfold oEnd; rw [if_neg h0]
theorem of_end_1 {dt : kM} {nF nC nE w : Nat} {o : Nat} (hd : dwf dt nF nC nE w) (ho : o < nF) (h1 : ¬ (dt 6 o = 0)) : oEnd dt nF nC nE w (nI o) = .inl cIS := by
  have hN : nF ≤ 20 := hd.2.1
  have he : (nI o).toNatClampNeg = o := nI_clamp (by omega)
  unfold oEnd; rw [he, if_pos (nI_rng ho (by omega)), if_neg h1]
theorem of_replay_0 {dt : kM} {nF nC nE w : Nat} {x : Int32} (h0 : ¬ (¬ x < 0 ∧ x < nI nF)) : oReplay dt nF nC nE w x = .inl cIO := by
  unfold oReplay; rw [if_neg h0]
theorem of_replay_1 {dt : kM} {nF nC nE w : Nat} {o : Nat} (hd : dwf dt nF nC nE w) (ho : o < nF) (h1 : ¬ (dt 6 o = 1)) : oReplay dt nF nC nE w (nI o) = .inl cIS := by
  have hN : nF ≤ 20 := hd.2.1
  have he : (nI o).toNatClampNeg = o := nI_clamp (by omega)
  unfold oReplay; rw [he, if_pos (nI_rng ho (by omega)), if_neg h1]
theorem of_replay_2 {dt : kM} {nF nC nE w : Nat} {o : Nat} (hd : dwf dt nF nC nE w) (ho : o < nF) (h1 : dt 6 o = 1) (h2 : ¬ (nF < 20 ∧ ¬ dBusy dt (dt 7 o) (dt 8 o) nF)) : oReplay dt nF nC nE w (nI o) = .inl cIS := by
  have hN : nF ≤ 20 := hd.2.1
  have he : (nI o).toNatClampNeg = o := nI_clamp (by omega)
  unfold oReplay; rw [he, if_pos (nI_rng ho (by omega)), if_pos h1, if_neg h2]
theorem of_camera_0 {dt : kM} {nF nC nE w : Nat} {x y : Int32} (h0 : ¬ (¬ x < 1 ∧ ¬ 60 < x)) : oCamera dt nF nC nE w x y = .inl cIA := by
  unfold oCamera; rw [if_neg h0]
theorem of_camera_1 {dt : kM} {nF nC nE w : Nat} {x y : Int32} (h0 : ¬ x < 1 ∧ ¬ 60 < x) (h1 : ¬ (¬ y < 0 ∧ ¬ 60 < y)) : oCamera dt nF nC nE w x y = .inl cIA := by
  unfold oCamera; rw [if_pos h0, if_neg h1]
theorem of_camera_2 {dt : kM} {nF nC nE w : Nat} {x y : Int32} (h0 : ¬ x < 1 ∧ ¬ 60 < x) (h1 : ¬ y < 0 ∧ ¬ 60 < y) (h2 : ¬ (nC < 6)) : oCamera dt nF nC nE w x y = .inl cIS := by
  unfold oCamera; rw [if_pos h0, if_pos h1, if_neg h2]
theorem of_delay_0 {dt : kM} {nF nC nE w : Nat} {x : Int32} (h0 : ¬ (¬ x < 0 ∧ ¬ 100 < x)) : oDelay dt nF nC nE w x = .inl cIA := by
  unfold oDelay; rw [if_neg h0]
theorem of_pass_0 {dt : kM} {nF nC nE w : Nat} {x : Int32} (h0 : ¬ (¬ x < 1 ∧ ¬ 200 < x)) : oPass dt nF nC nE w x = .inl cIA := by
  unfold oPass; rw [if_neg h0]
theorem of_pass_1 {dt : kM} {nF nC nE w : Nat} {x : Int32} (h0 : ¬ x < 1 ∧ ¬ 200 < x) (h1 : ¬ (¬ 3000 < dt 1 0 + x)) : oPass dt nF nC nE w x = .inl cIS := by
  unfold oPass; rw [if_pos h0, if_neg h1]
theorem of_blow_0 {dt : kM} {nF nC nE w : Nat} {x y z : Int32} (h0 : ¬ (¬ x < 0 ∧ x < nI nF)) : oBlow dt nF nC nE w x y z = .inl cIO := by
  unfold oBlow; rw [if_neg h0]
theorem of_blow_1 {dt : kM} {nF nC nE w : Nat} {y z : Int32} {o : Nat} (hd : dwf dt nF nC nE w) (ho : o < nF) (h1 : ¬ (¬ y < 0 ∧ y < 10)) : oBlow dt nF nC nE w (nI o) y z = .inl cIO := by
  have hN : nF ≤ 20 := hd.2.1
  have he : (nI o).toNatClampNeg = o := nI_clamp (by omega)
  unfold oBlow; rw [he, if_pos (nI_rng ho (by omega)), if_neg h1]
theorem of_blow_2 {dt : kM} {nF nC nE w : Nat} {y z : Int32} {o : Nat} (hd : dwf dt nF nC nE w) (ho : o < nF) (h1 : ¬ y < 0 ∧ y < 10) (h2 : ¬ (¬ z < 1 ∧ ¬ 9 < z)) : oBlow dt nF nC nE w (nI o) y z = .inl cIA := by
  have hN : nF ≤ 20 := hd.2.1
  have he : (nI o).toNatClampNeg = o := nI_clamp (by omega)
  unfold oBlow; rw [he, if_pos (nI_rng ho (by omega)), if_pos h1, if_neg h2]
theorem of_blow_3 {dt : kM} {nF nC nE w : Nat} {y z : Int32} {o : Nat} (hd : dwf dt nF nC nE w) (ho : o < nF) (h1 : ¬ y < 0 ∧ y < 10) (h2 : ¬ z < 1 ∧ ¬ 9 < z) (h3 : ¬ (¬ dIsOf dt o y = 0)) : oBlow dt nF nC nE w (nI o) y z = .inl cIA := by
  have hN : nF ≤ 20 := hd.2.1
  have he : (nI o).toNatClampNeg = o := nI_clamp (by omega)
  unfold oBlow; rw [he, if_pos (nI_rng ho (by omega)), if_pos h1, if_pos h2, if_neg h3]
theorem of_blow_4 {dt : kM} {nF nC nE w : Nat} {y z : Int32} {o : Nat} (hd : dwf dt nF nC nE w) (ho : o < nF) (h1 : ¬ y < 0 ∧ y < 10) (h2 : ¬ z < 1 ∧ ¬ 9 < z) (h3 : ¬ dIsOf dt o y = 0) (h4 : ¬ (dt 6 o = 0)) : oBlow dt nF nC nE w (nI o) y z = .inl cIS := by
  have hN : nF ≤ 20 := hd.2.1
  have he : (nI o).toNatClampNeg = o := nI_clamp (by omega)
  unfold oBlow; rw [he, if_pos (nI_rng ho (by omega)), if_pos h1, if_pos h2, if_pos h3, if_neg h4]
theorem of_blow_5 {dt : kM} {nF nC nE w : Nat} {y z : Int32} {o : Nat} (hd : dwf dt nF nC nE w) (ho : o < nF) (h1 : ¬ y < 0 ∧ y < 10) (h2 : ¬ z < 1 ∧ ¬ 9 < z) (h3 : ¬ dIsOf dt o y = 0) (h4 : dt 6 o = 0) (h5 : ¬ (nE < 80)) : oBlow dt nF nC nE w (nI o) y z = .inl cIS := by
  have hN : nF ≤ 20 := hd.2.1
  have he : (nI o).toNatClampNeg = o := nI_clamp (by omega)
  unfold oBlow; rw [he, if_pos (nI_rng ho (by omega)), if_pos h1, if_pos h2, if_pos h3, if_pos h4, if_neg h5]
theorem of_strike_0 {dt : kM} {nF nC nE w : Nat} {x : Int32} (h0 : ¬ (¬ x < 0 ∧ x < nI nE)) : oStrike dt nF nC nE w x = .inl cIO := by
  unfold oStrike; rw [if_neg h0]
theorem of_strike_1 {dt : kM} {nF nC nE w : Nat} {o : Nat} (hd : dwf dt nF nC nE w) (ho : o < nE) (h1 : ¬ (¬ dCor dt o = 0)) : oStrike dt nF nC nE w (nI o) = .inl cIS := by
  have hN : nE ≤ 80 := hd.2.2.2.2.2.1
  have he : (nI o).toNatClampNeg = o := nI_clamp (by omega)
  unfold oStrike; rw [he, if_pos (nI_rng ho (by omega)), if_neg h1]
theorem of_mend_0 {dt : kM} {nF nC nE w : Nat} {x y : Int32} (h0 : ¬ (¬ x < 0 ∧ x < nI nE)) : oMend dt nF nC nE w x y = .inl cIO := by
  unfold oMend; rw [if_neg h0]
theorem of_mend_1 {dt : kM} {nF nC nE w : Nat} {y : Int32} {o : Nat} (hd : dwf dt nF nC nE w) (ho : o < nE) (h1 : ¬ (¬ y < 1 ∧ ¬ 9 < y)) : oMend dt nF nC nE w (nI o) y = .inl cIA := by
  have hN : nE ≤ 80 := hd.2.2.2.2.2.1
  have he : (nI o).toNatClampNeg = o := nI_clamp (by omega)
  unfold oMend; rw [he, if_pos (nI_rng ho (by omega)), if_neg h1]
theorem of_mend_2 {dt : kM} {nF nC nE w : Nat} {y : Int32} {o : Nat} (hd : dwf dt nF nC nE w) (ho : o < nE) (h1 : ¬ y < 1 ∧ ¬ 9 < y) (h2 : ¬ (¬ dCor dt o = 0)) : oMend dt nF nC nE w (nI o) y = .inl cIS := by
  have hN : nE ≤ 80 := hd.2.2.2.2.2.1
  have he : (nI o).toNatClampNeg = o := nI_clamp (by omega)
  unfold oMend; rw [he, if_pos (nI_rng ho (by omega)), if_pos h1, if_neg h2]
theorem of_promise_0 {dt : kM} {nF nC nE w : Nat} {x y : Int32} (h0 : ¬ (¬ x < 0 ∧ x < 6)) : oPromise dt nF nC nE w x y = .inl cIO := by
  unfold oPromise; rw [if_neg h0]
theorem of_promise_1 {dt : kM} {nF nC nE w : Nat} {x y : Int32} (h0 : ¬ x < 0 ∧ x < 6) (h1 : ¬ (¬ y < 0 ∧ ¬ 1000 < y)) : oPromise dt nF nC nE w x y = .inl cIA := by
  unfold oPromise; rw [if_pos h0, if_neg h1]
theorem of_slot_0 {dt : kM} {nF nC nE w : Nat} {x y : Int32} (h0 : ¬ (¬ x < 0 ∧ x < 6)) : oSlot dt nF nC nE w x y = .inl cIO := by
  unfold oSlot; rw [if_neg h0]
theorem of_slot_1 {dt : kM} {nF nC nE w : Nat} {x y : Int32} (h0 : ¬ x < 0 ∧ x < 6) (h1 : ¬ (¬ y < 0 ∧ y < 10)) : oSlot dt nF nC nE w x y = .inl cIO := by
  unfold oSlot; rw [if_pos h0, if_neg h1]
theorem of_slot_2 {dt : kM} {nF nC nE w : Nat} {x y : Int32} (h0 : ¬ x < 0 ∧ x < 6) (h1 : ¬ y < 0 ∧ y < 10) (h2 : ¬ (dt 34 x.toNatClampNeg &&& ((1 : Int32) <<< (y &&& 31)) = 0)) : oSlot dt nF nC nE w x y = .inl cIS := by
  unfold oSlot; rw [if_pos h0, if_pos h1, if_neg h2]
theorem of_slot_3 {dt : kM} {nF nC nE w : Nat} {x y : Int32} (h0 : ¬ x < 0 ∧ x < 6) (h1 : ¬ y < 0 ∧ y < 10) (h2 : dt 34 x.toNatClampNeg &&& ((1 : Int32) <<< (y &&& 31)) = 0) (h3 : ¬ (dt 28 0 < 12)) : oSlot dt nF nC nE w x y = .inl cIS := by
  unfold oSlot; rw [if_pos h0, if_pos h1, if_pos h2, if_neg h3]
theorem of_shown_0 {dt : kM} {nF nC nE w : Nat} {x y : Int32} (h0 : ¬ (¬ x < 0 ∧ x < nI w)) : vShown dt nF nC nE w x y = cIO := by
  unfold vShown; rw [if_neg h0]
theorem of_shown_1 {dt : kM} {nF nC nE w : Nat} {x y : Int32} (h0 : ¬ x < 0 ∧ x < nI w) (h1 : ¬ (y = 0 ∨ y = 1 ∨ y = 2)) : vShown dt nF nC nE w x y = cIA := by
  unfold vShown; rw [if_pos h0, if_neg h1]
theorem of_points_0 {dt : kM} {nF nC nE w : Nat} {x y : Int32} (h0 : ¬ (¬ x < 0 ∧ x < nI nF)) : vPoints dt nF nC nE w x y = cIO := by
  unfold vPoints; rw [if_neg h0]
theorem of_points_1 {dt : kM} {nF nC nE w : Nat} {y : Int32} {o : Nat} (hd : dwf dt nF nC nE w) (ho : o < nF) (h1 : ¬ (¬ y < 0 ∧ y < 10)) : vPoints dt nF nC nE w (nI o) y = cIO := by
  have hN : nF ≤ 20 := hd.2.1
  have he : (nI o).toNatClampNeg = o := nI_clamp (by omega)
  unfold vPoints; rw [he, if_pos (nI_rng ho (by omega)), if_neg h1]
theorem of_overlay_0 {dt : kM} {nF nC nE w : Nat} {x y : Int32} (h0 : ¬ (¬ x < 0 ∧ x < nI nF)) : vOverlay dt nF nC nE w x y = cIO := by
  unfold vOverlay; rw [if_neg h0]
theorem of_overlay_1 {dt : kM} {nF nC nE w : Nat} {y : Int32} {o : Nat} (hd : dwf dt nF nC nE w) (ho : o < nF) (h1 : ¬ (¬ y < 0 ∧ y < 10)) : vOverlay dt nF nC nE w (nI o) y = cIO := by
  have hN : nF ≤ 20 := hd.2.1
  have he : (nI o).toNatClampNeg = o := nI_clamp (by omega)
  unfold vOverlay; rw [he, if_pos (nI_rng ho (by omega)), if_neg h1]
theorem of_fightOf_0 {dt : kM} {nF nC nE w : Nat} {x y : Int32} (h0 : ¬ (¬ x < 0 ∧ x < nI nF)) : vFightOf dt nF nC nE w x y = cIO := by
  unfold vFightOf; rw [if_neg h0]
theorem of_fightOf_1 {dt : kM} {nF nC nE w : Nat} {y : Int32} {o : Nat} (hd : dwf dt nF nC nE w) (ho : o < nF) (h1 : ¬ (y = 0 ∨ y = 1 ∨ y = 2 ∨ y = 3 ∨ y = 4)) : vFightOf dt nF nC nE w (nI o) y = cIA := by
  have hN : nF ≤ 20 := hd.2.1
  have he : (nI o).toNatClampNeg = o := nI_clamp (by omega)
  unfold vFightOf; rw [he, if_pos (nI_rng ho (by omega)), if_neg h1]
theorem of_cameraOf_0 {dt : kM} {nF nC nE w : Nat} {x y : Int32} (h0 : ¬ (¬ x < 0 ∧ x < nI nC)) : vCameraOf dt nF nC nE w x y = cIO := by
  unfold vCameraOf; rw [if_neg h0]
theorem of_cameraOf_1 {dt : kM} {nF nC nE w : Nat} {y : Int32} {o : Nat} (hd : dwf dt nF nC nE w) (ho : o < nC) (h1 : ¬ (y = 0 ∨ y = 1)) : vCameraOf dt nF nC nE w (nI o) y = cIA := by
  have hN : nC ≤ 6 := hd.2.2.2.1
  have he : (nI o).toNatClampNeg = o := nI_clamp (by omega)
  unfold vCameraOf; rw [he, if_pos (nI_rng ho (by omega)), if_neg h1]
theorem of_counted_0 {dt : kM} {nF nC nE w : Nat} {x : Int32} (h0 : ¬ (¬ x < 0 ∧ x < 6)) : vCounted dt nF nC nE w x = cIO := by
  unfold vCounted; rw [if_neg h0]
theorem of_anew_0 {dt : kM} {nF nC nE w : Nat} {x : Int32} (h0 : ¬ (¬ x < 0 ∧ x < 6)) : vAnew dt nF nC nE w x = cIO := by
  unfold vAnew; rw [if_neg h0]
theorem of_owed_0 {dt : kM} {nF nC nE w : Nat} {x : Int32} (h0 : ¬ (¬ x < 0 ∧ x < 6)) : vOwed dt nF nC nE w x = cIO := by
  unfold vOwed; rw [if_neg h0]
theorem PLea_bad {dt : kM} {x r : Int32} (h : ¬ (¬ x < 0 ∧ x < 10)) (p : PLea dt x r) : r = cIO := by
  rcases p with ⟨_, q⟩ | ⟨q, _⟩
  · exact q
  · exact absurd q h
section RD
variable {dt : kM} {nF nC nE w o : Nat}
theorem fo0 (hd : dwf dt nF nC nE w) (ho : o < nF) : vFightOf dt nF nC nE w (nI o) (nI 0) = dt 6 o := by rw [ok_fightOf (y := nI 0) hd ho (Or.inl rfl)]; rfl
theorem fo1 (hd : dwf dt nF nC nE w) (ho : o < nF) : vFightOf dt nF nC nE w (nI o) (nI 1) = dt 7 o := by rw [ok_fightOf (y := nI 1) hd ho (Or.inr (Or.inl rfl))]; rfl
theorem fo2 (hd : dwf dt nF nC nE w) (ho : o < nF) : vFightOf dt nF nC nE w (nI o) (nI 2) = dt 8 o := by rw [ok_fightOf (y := nI 2) hd ho (Or.inr (Or.inr (Or.inl rfl)))]; rfl
theorem fo3 (hd : dwf dt nF nC nE w) (ho : o < nF) : vFightOf dt nF nC nE w (nI o) (nI 3) = dt 9 o := by rw [ok_fightOf (y := nI 3) hd ho (Or.inr (Or.inr (Or.inr (Or.inl rfl))))]; rfl
theorem fo4 (hd : dwf dt nF nC nE w) (ho : o < nF) : vFightOf dt nF nC nE w (nI o) (nI 4) = dt 31 o := by rw [ok_fightOf (y := nI 4) hd ho (Or.inr (Or.inr (Or.inr (Or.inr rfl))))]; rfl
theorem ca0 (hd : dwf dt nF nC nE w) (ho : o < nC) : vCameraOf dt nF nC nE w (nI o) (nI 0) = dt 13 o := by rw [ok_cameraOf (y := nI 0) hd ho (Or.inl rfl)]; rfl
theorem ca1 (hd : dwf dt nF nC nE w) (ho : o < nC) : vCameraOf dt nF nC nE w (nI o) (nI 1) = dt 14 o := by rw [ok_cameraOf (y := nI 1) hd ho (Or.inr rfl)]; rfl
theorem sh0 (h : o < w) (hw : w ≤ 3000) : vShown dt nF nC nE w (nI o) (nI 0) = dt 17 o := by rw [ok_shown (y := nI 0) (nI_rng h (by omega)) (Or.inl rfl), nI_clamp (by omega)]; rfl
theorem sh1 (h : o < w) (hw : w ≤ 3000) : vShown dt nF nC nE w (nI o) (nI 1) = dt 18 o := by rw [ok_shown (y := nI 1) (nI_rng h (by omega)) (Or.inr (Or.inl rfl)), nI_clamp (by omega)]; rfl
theorem sh2 (h : o < w) (hw : w ≤ 3000) : vShown dt nF nC nE w (nI o) (nI 2) = dt 19 o := by rw [ok_shown (y := nI 2) (nI_rng h (by omega)) (Or.inr (Or.inr rfl)), nI_clamp (by omega)]; rfl
theorem gd10 {a : Nat} (h : a < 10) : ¬ nI a < 0 ∧ nI a < 10 := nI_rng (n := 10) h (by decide)
theorem gd6 {a : Nat} (h : a < 6) : ¬ nI a < 0 ∧ nI a < 6 := nI_rng (n := 6) h (by decide)
theorem po0 (hd : dwf dt nF nC nE w) (ho : o < nF) {p : Nat} (hp : p < 10) : vPoints dt nF nC nE w (nI o) (nI p) = dPts dt (nI w) o (nI p) nE := ok_points hd ho (gd10 hp)
theorem ov0 (hd : dwf dt nF nC nE w) (ho : o < nF) {p : Nat} (hp : p < 10) : vOverlay dt nF nC nE w (nI o) (nI p) = dPts dt (dt 3 0) o (nI p) nE := ok_overlay hd ho (gd10 hp)
end RD
/-! arguments out of range -/
section BD
variable {X : Nat}
theorem tl1 (hX : X < 100000) : ((-1 : Int32) - nI X).toInt = -1 - X := by
  have e1 : (nI X).toInt = X := nI_toInt (by omega)
  have e2 : (-1 : Int32).toInt = -1 := rfl
  rw [ksub] <;> omega
theorem tl0 (hX : X < 100000) : (-nI X).toInt = -X := by
  have e1 : (nI X).toInt = X := nI_toInt (by omega)
  have e2 : (0 : Int32).toInt = 0 := rfl
  have e3 : -nI X = 0 - nI X := (Int32.zero_sub _).symm
  rw [e3, ksub] <;> omega
theorem th {c : Nat} (hc : c ≤ 100000) (hX : X < 100000) : (nI c + nI X).toInt = c + X := by
  have e1 : (nI X).toInt = X := nI_toInt (by omega)
  have e2 : (nI c).toInt = c := nI_toInt (by omega)
  rw [kadd] <;> omega
theorem bi_lo (hX : X < 100000) {b : Int32} : ¬ (¬ (-1 : Int32) - nI X < 0 ∧ (-1 : Int32) - nI X < b) := fun h => h.1 (by rw [kI_lt, tl1 hX, show (0 : Int32).toInt = 0 from rfl]; omega)
theorem bd_lo1 (hX : X < 100000) {b : Int32} : ¬ (¬ (-1 : Int32) - nI X < 0 ∧ ¬ b < (-1 : Int32) - nI X) := fun h => h.1 (by rw [kI_lt, tl1 hX, show (0 : Int32).toInt = 0 from rfl]; omega)
theorem bd_lo0 (hX : X < 100000) {b : Int32} : ¬ (¬ -nI X < 1 ∧ ¬ b < -nI X) := fun h => h.1 (by rw [kI_lt, tl0 hX, show (1 : Int32).toInt = 1 from rfl]; omega)
theorem bi_hi {m c : Nat} {b : Int32} (hb : b.toInt = m) (hm : m ≤ c) (hc : c ≤ 100000) (hX : X < 100000) : ¬ (¬ nI c + nI X < 0 ∧ nI c + nI X < b) := fun h => by
  have := h.2
  rw [kI_lt, th hc hX, hb] at this
  omega
theorem bd_hi {m c : Nat} {a b : Int32} (hb : b.toInt = m) (hm : m < c) (hc : c ≤ 100000) (hX : X < 100000) : ¬ (¬ nI c + nI X < a ∧ ¬ b < nI c + nI X) := fun h => h.2 (by rw [kI_lt, th hc hX, hb]; omega)
theorem be_ne {y v : Int32} {t : Int} (h : y.toInt < 0 ∨ t < y.toInt) (h0 : 0 ≤ v.toInt) (h1 : v.toInt ≤ t) : ¬ y = v := fun q => by rw [q] at h; omega
theorem be1_lo (hX : X < 100000) : ¬ ((-1 : Int32) - nI X = 0 ∨ (-1 : Int32) - nI X = 1) := by
  have h : ((-1 : Int32) - nI X).toInt < 0 ∨ (100 : Int) < ((-1 : Int32) - nI X).toInt := Or.inl (by rw [tl1 hX]; omega)
  rintro (q | q)
  · exact be_ne h (by decide) (by decide) q
  · exact be_ne h (by decide) (by decide) q
theorem be2_lo (hX : X < 100000) : ¬ ((-1 : Int32) - nI X = 0 ∨ (-1 : Int32) - nI X = 1 ∨ (-1 : Int32) - nI X = 2) := by
  have h : ((-1 : Int32) - nI X).toInt < 0 ∨ (100 : Int) < ((-1 : Int32) - nI X).toInt := Or.inl (by rw [tl1 hX]; omega)
  rintro (q | q | q)
  · exact be_ne h (by decide) (by decide) q
  · exact be_ne h (by decide) (by decide) q
  · exact be_ne h (by decide) (by decide) q
theorem be4_lo (hX : X < 100000) : ¬ ((-1 : Int32) - nI X = 0 ∨ (-1 : Int32) - nI X = 1 ∨ (-1 : Int32) - nI X = 2 ∨ (-1 : Int32) - nI X = 3 ∨ (-1 : Int32) - nI X = 4) := by
  have h : ((-1 : Int32) - nI X).toInt < 0 ∨ (100 : Int) < ((-1 : Int32) - nI X).toInt := Or.inl (by rw [tl1 hX]; omega)
  rintro (q | q | q | q | q)
  · exact be_ne h (by decide) (by decide) q
  · exact be_ne h (by decide) (by decide) q
  · exact be_ne h (by decide) (by decide) q
  · exact be_ne h (by decide) (by decide) q
  · exact be_ne h (by decide) (by decide) q
theorem be1_hi (hX : X < 100000) : ¬ (nI 2 + nI X = 0 ∨ nI 2 + nI X = 1) := by
  have h : (nI 2 + nI X).toInt < 0 ∨ (1 : Int) < (nI 2 + nI X).toInt := Or.inr (by rw [th (by omega) hX]; omega)
  rintro (q | q)
  · exact be_ne h (by decide) (by decide) q
  · exact be_ne h (by decide) (by decide) q
theorem be2_hi (hX : X < 100000) : ¬ (nI 3 + nI X = 0 ∨ nI 3 + nI X = 1 ∨ nI 3 + nI X = 2) := by
  have h : (nI 3 + nI X).toInt < 0 ∨ (2 : Int) < (nI 3 + nI X).toInt := Or.inr (by rw [th (by omega) hX]; omega)
  rintro (q | q | q)
  · exact be_ne h (by decide) (by decide) q
  · exact be_ne h (by decide) (by decide) q
  · exact be_ne h (by decide) (by decide) q
theorem be4_hi (hX : X < 100000) : ¬ (nI 5 + nI X = 0 ∨ nI 5 + nI X = 1 ∨ nI 5 + nI X = 2 ∨ nI 5 + nI X = 3 ∨ nI 5 + nI X = 4) := by
  have h : (nI 5 + nI X).toInt < 0 ∨ (4 : Int) < (nI 5 + nI X).toInt := Or.inr (by rw [th (by omega) hX]; omega)
  rintro (q | q | q | q | q)
  · exact be_ne h (by decide) (by decide) q
  · exact be_ne h (by decide) (by decide) q
  · exact be_ne h (by decide) (by decide) q
  · exact be_ne h (by decide) (by decide) q
  · exact be_ne h (by decide) (by decide) q
end BD
theorem nI_sub {a b : Nat} (h : b ≤ a) (ha : a < 2 ^ 31) : nI a - nI b = nI (a - b) := by
  apply Int32.toInt_inj.mp
  have e1 : (nI a).toInt = a := nI_toInt ha
  have e2 : (nI b).toInt = b := nI_toInt (by omega)
  rw [ksub (by omega) (by omega), e1, e2, nI_toInt (by omega)]
  omega
