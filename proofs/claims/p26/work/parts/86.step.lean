/-! a step keeps what holds of a desk -/
def INV (dt : kM) (nF nC nE w : Nat) : Prop := ∃ st, dR st dt nF nC nE w ∧ JJ st nF nC nE w
theorem INV.dv {dt : kM} {nF nC nE w : Nat} (I : INV dt nF nC nE w) : dwf dt nF nC nE w := by
  obtain ⟨st, R, J⟩ := I
  exact R.dv
theorem INV.wh {dt : kM} {nF nC nE w : Nat} (I : INV dt nF nC nE w) : WH dt nF nC nE w := by
  obtain ⟨st, R, J⟩ := I
  exact WH_of R J
theorem INV_0 : INV dt0 0 0 0 0 := ⟨mst0, dR_start, J_start⟩
theorem m11_end (st : kM) (nE : Nat) (x : Int32) : (mend st nE x).2 11 = st 11 := by
  unfold mend
  split
  · split <;> rfl
  · rfl
theorem m11_replay (st : kM) (nF nE w : Nat) (x : Int32) : (mreplay st nF nE w x).2 11 = st 11 := by
  unfold mreplay
  split
  · split <;> rfl
  · rfl
theorem m11_passR (st : kM) (nF nC nE w : Nat) : ∀ i, passR st nF nC nE w i 11 = st 11
  | 0 => rfl
  | i + 1 => by
    show mpasses (passR st nF nC nE w i) nF nC nE (w + i) 11 = st 11
    exact (show mpasses (passR st nF nC nE w i) nF nC nE (w + i) 11 = passR st nF nC nE w i 11 from rfl).trans (m11_passR st nF nC nE w i)
theorem m11_pass (st : kM) (nF nC nE w : Nat) (x : Int32) : (mpass st nF nC nE w x).2 11 = st 11 := by
  unfold mpass
  split
  · split
    · rfl
    · exact m11_passR _ _ _ _ _ _
  · rfl
/-- what a step may come to: a code, or a new state -/
def kSp (dt : kM) (nF nC nE w : Nat) (o : lRes) (uF uC uE : Nat) (cs : Int32) : Prop := (∃ c, o = .inl c ∧ c < 0) ∨ ∃ (v : Int32) (dt' : kM) (w' : Nat), o = .inr (v, (dt', nF + uF, nC + uC, nE + uE, w')) ∧ INV dt' (nF + uF) (nC + uC) (nE + uE) w' ∧ (0 < uF + uC + uE → ¬ v < 0) ∧ (∀ k, k < nC → dt' 11 k = dt 11 k) ∧ (uC = 1 → dt' 11 nC = cs)
section ST
variable {dt : kM} {nF nC nE w : Nat}
theorem in_rank (I : INV dt nF nC nE w) (x y : Int32) : kSp dt nF nC nE w (oRank dt nF nC nE w x y) 0 0 0 0 := by
  have hd := I.dv
  obtain ⟨st, R, J⟩ := I
  have hF := R.mw.2.1
  have hC := R.mw.2.2.2.1
  have hE := R.mw.2.2.2.2.2.1
  have hw3 : w ≤ 3000 := R.mw.2.2.2.2.2.2.2.1
  by_cases h0 : ¬ x < 0 ∧ x < 10
  rotate_left
  · exact Or.inl ⟨_, of_rank_0 h0, by decide⟩
  by_cases h1 : ¬ y < 0 ∧ ¬ 99 < y
  rotate_left
  · exact Or.inl ⟨_, of_rank_1 h0 h1, by decide⟩
  have K := sk_rank R h0 h1
  exact Or.inr ⟨_, _, _, ok_rank h0 h1, ⟨_, K.2.2, J_rank J h0 h1⟩, fun z => absurd z (by decide), fun k _ => rfl, fun z => absurd z (by decide)⟩
theorem in_fight (I : INV dt nF nC nE w) (x y : Int32) : kSp dt nF nC nE w (oFight dt nF nC nE w x y) 1 0 0 0 := by
  have hd := I.dv
  obtain ⟨st, R, J⟩ := I
  have hF := R.mw.2.1
  have hC := R.mw.2.2.2.1
  have hE := R.mw.2.2.2.2.2.1
  have hw3 : w ≤ 3000 := R.mw.2.2.2.2.2.2.2.1
  by_cases h0 : ¬ x < 0 ∧ x < 10
  rotate_left
  · exact Or.inl ⟨_, of_fight_0 h0, by decide⟩
  by_cases h1 : ¬ y < 0 ∧ y < 10
  rotate_left
  · exact Or.inl ⟨_, of_fight_1 h0 h1, by decide⟩
  by_cases h2 : ¬ x = y
  rotate_left
  · exact Or.inl ⟨_, of_fight_2 h0 h1 h2, by decide⟩
  by_cases h3 : nF < 20 ∧ ¬ dBusy dt x y nF
  rotate_left
  · exact Or.inl ⟨_, of_fight_3 h0 h1 h2 h3, by decide⟩
  have K := sk_fight R h0 h1 h2 h3
  exact Or.inr ⟨_, _, _, ok_fight h0 h1 h2 h3, ⟨_, K.2.2, J_fight R J h0 h1 h2 h3⟩, fun _ => nI_pos (by omega), fun k _ => rfl, fun z => absurd z (by decide)⟩
theorem in_end (I : INV dt nF nC nE w) (x : Int32) : kSp dt nF nC nE w (oEnd dt nF nC nE w x) 0 0 0 0 := by
  have hd := I.dv
  obtain ⟨st, R, J⟩ := I
  have hF := R.mw.2.1
  have hC := R.mw.2.2.2.1
  have hE := R.mw.2.2.2.2.2.1
  have hw3 : w ≤ 3000 := R.mw.2.2.2.2.2.2.2.1
  by_cases h0 : ¬ x < 0 ∧ x < nI nF
  rotate_left
  · exact Or.inl ⟨_, of_end_0 h0, by decide⟩
  obtain ⟨o, ho, rfl⟩ := nat_of h0.1 h0.2 (by omega)
  by_cases h1 : dt 6 o = 0
  rotate_left
  · exact Or.inl ⟨_, of_end_1 hd ho h1, by decide⟩
  have K := sk_end R ho h1
  exact Or.inr ⟨_, _, _, ok_end hd ho h1, ⟨_, K.2.2, J_end R J ho h1⟩, fun z => absurd z (by decide), fun k _ => congrFun ((K.2.2.eg 11 rfl).trans ((m11_end _ _ _).trans (R.eg 11 rfl).symm)) k, fun z => absurd z (by decide)⟩
theorem in_replay (I : INV dt nF nC nE w) (x : Int32) : kSp dt nF nC nE w (oReplay dt nF nC nE w x) 1 0 0 0 := by
  have hd := I.dv
  obtain ⟨st, R, J⟩ := I
  have hF := R.mw.2.1
  have hC := R.mw.2.2.2.1
  have hE := R.mw.2.2.2.2.2.1
  have hw3 : w ≤ 3000 := R.mw.2.2.2.2.2.2.2.1
  by_cases h0 : ¬ x < 0 ∧ x < nI nF
  rotate_left
  · exact Or.inl ⟨_, of_replay_0 h0, by decide⟩
  obtain ⟨o, ho, rfl⟩ := nat_of h0.1 h0.2 (by omega)
  by_cases h1 : dt 6 o = 1
  rotate_left
  · exact Or.inl ⟨_, of_replay_1 hd ho h1, by decide⟩
  by_cases h2 : nF < 20 ∧ ¬ dBusy dt (dt 7 o) (dt 8 o) nF
  rotate_left
  · exact Or.inl ⟨_, of_replay_2 hd ho h1 h2, by decide⟩
  have K := sk_replay R ho h1 h2
  exact Or.inr ⟨_, _, _, ok_replay hd ho h1 h2, ⟨_, K.2.2, J_replay R J ho h1 h2⟩, fun _ => nI_pos (by omega), fun k _ => congrFun ((K.2.2.eg 11 rfl).trans ((m11_replay _ _ _ _ _).trans (R.eg 11 rfl).symm)) k, fun z => absurd z (by decide)⟩
theorem in_camera (I : INV dt nF nC nE w) (x y : Int32) : kSp dt nF nC nE w (oCamera dt nF nC nE w x y) 0 1 0 x := by
  have hd := I.dv
  obtain ⟨st, R, J⟩ := I
  have hF := R.mw.2.1
  have hC := R.mw.2.2.2.1
  have hE := R.mw.2.2.2.2.2.1
  have hw3 : w ≤ 3000 := R.mw.2.2.2.2.2.2.2.1
  by_cases h0 : ¬ x < 1 ∧ ¬ 60 < x
  rotate_left
  · exact Or.inl ⟨_, of_camera_0 h0, by decide⟩
  by_cases h1 : ¬ y < 0 ∧ ¬ 60 < y
  rotate_left
  · exact Or.inl ⟨_, of_camera_1 h0 h1, by decide⟩
  by_cases h2 : nC < 6
  rotate_left
  · exact Or.inl ⟨_, of_camera_2 h0 h1 h2, by decide⟩
  have K := sk_camera R h0 h1 h2
  exact Or.inr ⟨_, _, _, ok_camera h0 h1 h2, ⟨_, K.2.2, J_camera R J h0 h1 h2⟩, fun _ => nI_pos (by omega), fun k hk => upd_n _ _ (by omega), fun _ => upd_s _ _ _⟩
theorem in_delay (I : INV dt nF nC nE w) (x : Int32) : kSp dt nF nC nE w (oDelay dt nF nC nE w x) 0 0 0 0 := by
  have hd := I.dv
  obtain ⟨st, R, J⟩ := I
  have hF := R.mw.2.1
  have hC := R.mw.2.2.2.1
  have hE := R.mw.2.2.2.2.2.1
  have hw3 : w ≤ 3000 := R.mw.2.2.2.2.2.2.2.1
  by_cases h0 : ¬ x < 0 ∧ ¬ 100 < x
  rotate_left
  · exact Or.inl ⟨_, of_delay_0 h0, by decide⟩
  have K := sk_delay R h0
  exact Or.inr ⟨_, _, _, ok_delay h0, ⟨_, K.2.2, J_delay R J h0⟩, fun z => absurd z (by decide), fun k _ => rfl, fun z => absurd z (by decide)⟩
theorem in_pass (I : INV dt nF nC nE w) (x : Int32) : kSp dt nF nC nE w (oPass dt nF nC nE w x) 0 0 0 0 := by
  have hd := I.dv
  obtain ⟨st, R, J⟩ := I
  have hF := R.mw.2.1
  have hC := R.mw.2.2.2.1
  have hE := R.mw.2.2.2.2.2.1
  have hw3 : w ≤ 3000 := R.mw.2.2.2.2.2.2.2.1
  by_cases h0 : ¬ x < 1 ∧ ¬ 200 < x
  rotate_left
  · exact Or.inl ⟨_, of_pass_0 h0, by decide⟩
  by_cases h1 : ¬ 3000 < dt 1 0 + x
  rotate_left
  · exact Or.inl ⟨_, of_pass_1 h0 h1, by decide⟩
  obtain ⟨m, hm0, rfl⟩ := inr_low (l := 1) (m := 200) (by omega) (by omega) (inr_iff.mpr h0)
  have hm : m ≤ 200 := hm0.2
  have hwm : w + m ≤ 3000 := pass_o (st := dt) (dwf_w hd) hw3 hm h1
  have z := ok_pass (nE := nE) (w := w) (nC := nC) (nF := nF) h0 h1
  rw [nI_clamp (show m < 2 ^ 31 by omega)] at z
  have K := sk_pass R h0 h1 hm hwm rfl
  exact Or.inr ⟨_, _, _, z, ⟨_, K.2.2, J_pass R J h0 h1 hm hwm rfl⟩, fun z => absurd z (by decide), fun k _ => congrFun ((K.2.2.eg 11 rfl).trans ((m11_pass _ _ _ _ _ _).trans (R.eg 11 rfl).symm)) k, fun z => absurd z (by decide)⟩
theorem in_blow (I : INV dt nF nC nE w) (x y z : Int32) : kSp dt nF nC nE w (oBlow dt nF nC nE w x y z) 0 0 1 0 := by
  have hd := I.dv
  obtain ⟨st, R, J⟩ := I
  have hF := R.mw.2.1
  have hC := R.mw.2.2.2.1
  have hE := R.mw.2.2.2.2.2.1
  have hw3 : w ≤ 3000 := R.mw.2.2.2.2.2.2.2.1
  by_cases h0 : ¬ x < 0 ∧ x < nI nF
  rotate_left
  · exact Or.inl ⟨_, of_blow_0 h0, by decide⟩
  obtain ⟨o, ho, rfl⟩ := nat_of h0.1 h0.2 (by omega)
  by_cases h1 : ¬ y < 0 ∧ y < 10
  rotate_left
  · exact Or.inl ⟨_, of_blow_1 hd ho h1, by decide⟩
  by_cases h2 : ¬ z < 1 ∧ ¬ 9 < z
  rotate_left
  · exact Or.inl ⟨_, of_blow_2 hd ho h1 h2, by decide⟩
  by_cases h3 : ¬ dIsOf dt o y = 0
  rotate_left
  · exact Or.inl ⟨_, of_blow_3 hd ho h1 h2 h3, by decide⟩
  by_cases h4 : dt 6 o = 0
  rotate_left
  · exact Or.inl ⟨_, of_blow_4 hd ho h1 h2 h3 h4, by decide⟩
  by_cases h5 : nE < 80
  rotate_left
  · exact Or.inl ⟨_, of_blow_5 hd ho h1 h2 h3 h4 h5, by decide⟩
  have K := sk_blow R ho h1 h2 h3 h4 h5
  exact Or.inr ⟨_, _, _, ok_blow hd ho h1 h2 h3 h4 h5, ⟨_, K.2.2, J_blow R J ho h1 h2 h3 h4 h5⟩, fun _ => nI_pos (by omega), fun k _ => rfl, fun z => absurd z (by decide)⟩
theorem in_strike (I : INV dt nF nC nE w) (x : Int32) : kSp dt nF nC nE w (oStrike dt nF nC nE w x) 0 0 0 0 := by
  have hd := I.dv
  obtain ⟨st, R, J⟩ := I
  have hF := R.mw.2.1
  have hC := R.mw.2.2.2.1
  have hE := R.mw.2.2.2.2.2.1
  have hw3 : w ≤ 3000 := R.mw.2.2.2.2.2.2.2.1
  by_cases h0 : ¬ x < 0 ∧ x < nI nE
  rotate_left
  · exact Or.inl ⟨_, of_strike_0 h0, by decide⟩
  obtain ⟨o, ho, rfl⟩ := nat_of h0.1 h0.2 (by omega)
  by_cases h1 : ¬ dCor dt o = 0
  rotate_left
  · exact Or.inl ⟨_, of_strike_1 hd ho h1, by decide⟩
  have K := sk_strike R ho h1
  exact Or.inr ⟨_, _, _, ok_strike hd ho h1, ⟨_, K.2.2, J_strike R J ho h1⟩, fun z => absurd z (by decide), fun k _ => rfl, fun z => absurd z (by decide)⟩
theorem in_mend (I : INV dt nF nC nE w) (x y : Int32) : kSp dt nF nC nE w (oMend dt nF nC nE w x y) 0 0 0 0 := by
  have hd := I.dv
  obtain ⟨st, R, J⟩ := I
  have hF := R.mw.2.1
  have hC := R.mw.2.2.2.1
  have hE := R.mw.2.2.2.2.2.1
  have hw3 : w ≤ 3000 := R.mw.2.2.2.2.2.2.2.1
  by_cases h0 : ¬ x < 0 ∧ x < nI nE
  rotate_left
  · exact Or.inl ⟨_, of_mend_0 h0, by decide⟩
  obtain ⟨o, ho, rfl⟩ := nat_of h0.1 h0.2 (by omega)
  by_cases h1 : ¬ y < 1 ∧ ¬ 9 < y
  rotate_left
  · exact Or.inl ⟨_, of_mend_1 hd ho h1, by decide⟩
  by_cases h2 : ¬ dCor dt o = 0
  rotate_left
  · exact Or.inl ⟨_, of_mend_2 hd ho h1 h2, by decide⟩
  have K := sk_mend R ho h1 h2
  exact Or.inr ⟨_, _, _, ok_mend hd ho h1 h2, ⟨_, K.2.2, J_mend R J ho h1 h2⟩, fun z => absurd z (by decide), fun k _ => rfl, fun z => absurd z (by decide)⟩
theorem in_promise (I : INV dt nF nC nE w) (x y : Int32) : kSp dt nF nC nE w (oPromise dt nF nC nE w x y) 0 0 0 0 := by
  have hd := I.dv
  obtain ⟨st, R, J⟩ := I
  have hF := R.mw.2.1
  have hC := R.mw.2.2.2.1
  have hE := R.mw.2.2.2.2.2.1
  have hw3 : w ≤ 3000 := R.mw.2.2.2.2.2.2.2.1
  by_cases h0 : ¬ x < 0 ∧ x < 6
  rotate_left
  · exact Or.inl ⟨_, of_promise_0 h0, by decide⟩
  by_cases h1 : ¬ y < 0 ∧ ¬ 1000 < y
  rotate_left
  · exact Or.inl ⟨_, of_promise_1 h0 h1, by decide⟩
  have K := sk_promise R h0 h1
  exact Or.inr ⟨_, _, _, ok_promise h0 h1, ⟨_, K.2.2, J_promise J h0 h1⟩, fun z => absurd z (by decide), fun k _ => rfl, fun z => absurd z (by decide)⟩
theorem in_slot (I : INV dt nF nC nE w) (x y : Int32) : kSp dt nF nC nE w (oSlot dt nF nC nE w x y) 0 0 0 0 := by
  have hd := I.dv
  obtain ⟨st, R, J⟩ := I
  have hF := R.mw.2.1
  have hC := R.mw.2.2.2.1
  have hE := R.mw.2.2.2.2.2.1
  have hw3 : w ≤ 3000 := R.mw.2.2.2.2.2.2.2.1
  by_cases h0 : ¬ x < 0 ∧ x < 6
  rotate_left
  · exact Or.inl ⟨_, of_slot_0 h0, by decide⟩
  by_cases h1 : ¬ y < 0 ∧ y < 10
  rotate_left
  · exact Or.inl ⟨_, of_slot_1 h0 h1, by decide⟩
  by_cases h2 : dt 34 x.toNatClampNeg &&& ((1 : Int32) <<< (y &&& 31)) = 0
  rotate_left
  · exact Or.inl ⟨_, of_slot_2 h0 h1 h2, by decide⟩
  by_cases h3 : dt 28 0 < 12
  rotate_left
  · exact Or.inl ⟨_, of_slot_3 h0 h1 h2 h3, by decide⟩
  have K := sk_slot R h0 h1 h2 h3
  exact Or.inr ⟨_, _, _, ok_slot h0 h1 h2 h3, ⟨_, K.2.2, J_slot J⟩, fun z => absurd z (by decide), fun k _ => rfl, fun z => absurd z (by decide)⟩
end ST
def uF_ (X : Nat) : Nat := if X % 20 < 2 ∨ X % 20 = 3 then 1 else 0
def uC_ (X : Nat) : Nat := if X % 20 = 4 then 1 else 0
def uE_ (X : Nat) : Nat := if 9 ≤ X % 20 ∧ X % 20 ≤ 11 then 1 else 0
theorem step_ok {dt : kM} {nF nC nE w : Nat} (I : INV dt nF nC nE w) (X : Nat) : ∃ cs, kSp dt nF nC nE w (aRes dt nF nC nE w X) (uF_ X) (uC_ X) (uE_ X) cs ∧ (X % 20 = 4 → cs = nI (1 + X / 20 % 20)) := by
  have h20 : X % 20 < 20 := Nat.mod_lt _ (by omega)
  unfold aRes uF_ uC_ uE_
  generalize X % 20 = c at h20
  match c, h20 with
  | 0, _ => exact ⟨_, in_fight I _ _, fun z => absurd z (by decide)⟩
  | 1, _ => exact ⟨_, in_fight I _ _, fun z => absurd z (by decide)⟩
  | 2, _ => exact ⟨_, in_end I _, fun z => absurd z (by decide)⟩
  | 3, _ => exact ⟨_, in_replay I _, fun z => absurd z (by decide)⟩
  | 4, _ => exact ⟨_, in_camera I _ _, fun _ => rfl⟩
  | 5, _ => exact ⟨_, in_delay I _, fun z => absurd z (by decide)⟩
  | 6, _ => exact ⟨_, in_rank I _ _, fun z => absurd z (by decide)⟩
  | 7, _ => exact ⟨_, in_promise I _ _, fun z => absurd z (by decide)⟩
  | 8, _ => exact ⟨_, in_slot I _ _, fun z => absurd z (by decide)⟩
  | 9, _ => exact ⟨_, in_blow I _ _ _, fun z => absurd z (by decide)⟩
  | 10, _ => exact ⟨_, in_blow I _ _ _, fun z => absurd z (by decide)⟩
  | 11, _ => exact ⟨_, in_blow I _ _ _, fun z => absurd z (by decide)⟩
  | 12, _ => exact ⟨_, in_strike I _, fun z => absurd z (by decide)⟩
  | 13, _ => exact ⟨_, in_mend I _ _, fun z => absurd z (by decide)⟩
  | 14, _ => exact ⟨_, in_pass I _, fun z => absurd z (by decide)⟩
  | 15, _ => exact ⟨_, in_pass I _, fun z => absurd z (by decide)⟩
  | 16, _ => exact ⟨_, in_pass I _, fun z => absurd z (by decide)⟩
  | 17, _ => exact ⟨_, in_pass I _, fun z => absurd z (by decide)⟩
  | 18, _ => exact ⟨_, in_pass I _, fun z => absurd z (by decide)⟩
  | 19, _ => exact ⟨_, in_pass I _, fun z => absurd z (by decide)⟩
  | (c + 20), h => exact absurd h (by omega)
