/-! rows over the class's cells -/
section DR
variable {E : kE} {a cap : Nat → Nat} {nF nC nE : Nat} {dt : kM} {h0 : kH}
theorem dw_up (hg : dgeo E a cap nF nC nE h0) {dt' : kM} {k : Nat} (hk : dD cap nF nC nE k) {e : va_E} (he : e = dcell E a cap nF nC nE dt' k) (hc : ∀ j, dD cap nF nC nE j → j ≠ k → dcell E a cap nF nC nE dt' j = dcell E a cap nF nC nE dt j) : kup (dw E a cap nF nC nE dt h0) (a k) e = dw E a cap nF nC nE dt' h0 := og_up hg.1 hk hc he
theorem dw_ms (hg : dgeo E a cap nF nC nE h0) {f g : Nat} (hfg : (f = 8 ∧ g = 28) ∨ (f = 9 ∧ g = 1) ∨ (f = 10 ∧ g = 2) ∨ (f = 11 ∧ g = 3)) (v : Int32) : kup (dw E a cap nF nC nE dt h0) (a 15) (.inr (3, (dfs a dt).set f (.int v))) = dw E a cap nF nC nE (ms dt g v) h0 := by
  have h15 : dD cap nF nC nE 15 := Or.inl (Or.inr (by omega))
  rcases hfg with ⟨rfl, rfl⟩ | ⟨rfl, rfl⟩ | ⟨rfl, rfl⟩ | ⟨rfl, rfl⟩
  all_goals
    refine dw_up hg h15 rfl (fun j hj hne => dcell_c (fun z => absurd z hne) (fun z => ?_) (fun h1 h2 h3 h4 => ?_) (fun _ _ => rfl) (fun _ _ => rfl) (fun _ => rfl) hj)
    · rcases z with rfl | rfl | rfl <;> exact ⟨rfl, rfl⟩
    · have : dmap j = 4 ∨ dmap j = 30 ∨ dmap j = 26 ∨ dmap j = 33 ∨ dmap j = 34 ∨ dmap j = 17 ∨ dmap j = 18 ∨ dmap j = 19 := by unfold dmap; split <;> simp
      rcases this with h | h | h | h | h | h | h | h <;> rw [h] <;> rfl
theorem dw_ma (hg : dgeo E a cap nF nC nE h0) {k i : Nat} (hk : k = 0 ∨ k = 1 ∨ k = 5 ∨ k = 6 ∨ k = 7 ∨ k = 12 ∨ k = 13 ∨ k = 14) (v : Int32) : kup (dw E a cap nF nC nE dt h0) (a k) (.inl (kI E, dlen k, .inl (upd (dt (dmap k)) i v))) = dw E a cap nF nC nE (ma dt (dmap k) i v) h0 := by
  have hd : dD cap nF nC nE k := Or.inl (by omega)
  refine dw_up hg hd ?_ (fun j hj hne => dcell_c (fun z => ?_) (fun z => ?_) (fun h1 h2 h3 h4 => ?_) (fun _ _ => ?_) (fun _ _ => ?_) (fun _ => ?_) hj)
  · unfold dcell
    rw [if_neg (by omega), if_neg (by omega), if_neg (by omega), if_pos (by omega)]
    simp [ma]
  · rcases hk with rfl | rfl | rfl | rfl | rfl | rfl | rfl | rfl <;> rfl
  · rcases z with rfl | rfl | rfl <;> rcases hk with rfl | rfl | rfl | rfl | rfl | rfl | rfl | rfl <;> exact ⟨rfl, rfl⟩
  · have hj2 : j = 0 ∨ j = 1 ∨ j = 5 ∨ j = 6 ∨ j = 7 ∨ j = 12 ∨ j = 13 ∨ j = 14 := by
      rcases hj with z | z | z | z | z <;> omega
    have hm : dmap j ≠ dmap k := by
      rcases hj2 with rfl | rfl | rfl | rfl | rfl | rfl | rfl | rfl <;> rcases hk with rfl | rfl | rfl | rfl | rfl | rfl | rfl | rfl <;> first | exact absurd rfl hne | decide
    simp [ma, hm]
  · rcases hk with rfl | rfl | rfl | rfl | rfl | rfl | rfl | rfl <;> rfl
  · rcases hk with rfl | rfl | rfl | rfl | rfl | rfl | rfl | rfl <;> rfl
  · rcases hk with rfl | rfl | rfl | rfl | rfl | rfl | rfl | rfl <;> rfl
theorem dw_mF (hg : dgeo E a cap nF nC nE h0) {f g o : Nat} (ho : o < nF) (hfg : (f = 3 ∧ g = 6) ∨ (f = 4 ∧ g = 9) ∨ (f = 5 ∧ g = 31) ∨ (f = 6 ∧ g = 32)) (v : Int32) : kup (dw E a cap nF nC nE dt h0) (a (20 + o)) (.inr (2, (dfF dt o).set f (.int v))) = dw E a cap nF nC nE (ma dt g o v) h0 := by
  have h20 := hg.2.2.2.1
  have hd : dD cap nF nC nE (20 + o) := Or.inr (Or.inr (Or.inl (by omega)))
  refine dw_up hg hd ?_ (fun j hj hne => dcell_c (fun z => ?_) (fun z => ?_) (fun h1 h2 h3 h4 => ?_) (fun h5 h6 => ?_) (fun _ _ => ?_) (fun _ => ?_) hj)
  · unfold dcell
    rw [if_neg (by omega), if_neg (by omega), if_neg (by omega), if_neg (by omega), if_pos (by omega), Nat.add_sub_cancel_left]
    rcases hfg with ⟨rfl, rfl⟩ | ⟨rfl, rfl⟩ | ⟨rfl, rfl⟩ | ⟨rfl, rfl⟩ <;> simp [dfF, ma, upd]
  · rcases hfg with ⟨rfl, rfl⟩ | ⟨rfl, rfl⟩ | ⟨rfl, rfl⟩ | ⟨rfl, rfl⟩ <;> rfl
  · rcases z with rfl | rfl | rfl <;> rcases hfg with ⟨rfl, rfl⟩ | ⟨rfl, rfl⟩ | ⟨rfl, rfl⟩ | ⟨rfl, rfl⟩ <;> exact ⟨rfl, rfl⟩
  · have : dmap j ≠ g := by unfold dmap; split <;> omega
    simp [ma, this]
  · have : j - 20 ≠ o := by omega
    rcases hfg with ⟨rfl, rfl⟩ | ⟨rfl, rfl⟩ | ⟨rfl, rfl⟩ | ⟨rfl, rfl⟩ <;> simp [dfF, ma, upd, this]
  · rcases hfg with ⟨rfl, rfl⟩ | ⟨rfl, rfl⟩ | ⟨rfl, rfl⟩ | ⟨rfl, rfl⟩ <;> rfl
  · rcases hfg with ⟨rfl, rfl⟩ | ⟨rfl, rfl⟩ | ⟨rfl, rfl⟩ | ⟨rfl, rfl⟩ <;> rfl
theorem dw_mC (hg : dgeo E a cap nF nC nE h0) {f g o : Nat} (ho : o < nC) (hfg : (f = 2 ∧ g = 13) ∨ (f = 3 ∧ g = 14)) (v : Int32) : kup (dw E a cap nF nC nE dt h0) (a (40 + o)) (.inr (0, (dfC dt o).set f (.int v))) = dw E a cap nF nC nE (ma dt g o v) h0 := by
  have h20 := hg.2.2.2.2.1
  have hd : dD cap nF nC nE (40 + o) := Or.inr (Or.inr (Or.inr (Or.inl (by omega))))
  refine dw_up hg hd ?_ (fun j hj hne => dcell_c (fun z => ?_) (fun z => ?_) (fun h1 h2 h3 h4 => ?_) (fun _ _ => ?_) (fun h5 h6 => ?_) (fun _ => ?_) hj)
  · unfold dcell
    rw [if_neg (by omega), if_neg (by omega), if_neg (by omega), if_neg (by omega), if_neg (by omega), if_pos (by omega), Nat.add_sub_cancel_left]
    rcases hfg with ⟨rfl, rfl⟩ | ⟨rfl, rfl⟩ <;> simp [dfC, ma, upd]
  · rcases hfg with ⟨rfl, rfl⟩ | ⟨rfl, rfl⟩ <;> rfl
  · rcases z with rfl | rfl | rfl <;> rcases hfg with ⟨rfl, rfl⟩ | ⟨rfl, rfl⟩ <;> exact ⟨rfl, rfl⟩
  · have : dmap j ≠ g := by unfold dmap; split <;> omega
    simp [ma, this]
  · rcases hfg with ⟨rfl, rfl⟩ | ⟨rfl, rfl⟩ <;> rfl
  · have : j - 40 ≠ o := by omega
    rcases hfg with ⟨rfl, rfl⟩ | ⟨rfl, rfl⟩ <;> simp [dfC, ma, upd, this]
  · rcases hfg with ⟨rfl, rfl⟩ | ⟨rfl, rfl⟩ <;> rfl
theorem dw_mE (hg : dgeo E a cap nF nC nE h0) {f g o : Nat} (ho : o < nE) (hfg : (f = 3 ∧ g = 23) ∨ (f = 4 ∧ g = 25)) (v : Int32) : kup (dw E a cap nF nC nE dt h0) (a (50 + o)) (.inr (1, (dfE a dt o).set f (.int v))) = dw E a cap nF nC nE (ma dt g o v) h0 := by
  have hd : dD cap nF nC nE (50 + o) := Or.inr (Or.inr (Or.inr (Or.inr (by omega))))
  refine dw_up hg hd ?_ (fun j hj hne => dcell_c (fun z => ?_) (fun z => ?_) (fun h1 h2 h3 h4 => ?_) (fun _ _ => ?_) (fun _ _ => ?_) (fun h5 => ?_) hj)
  · unfold dcell
    rw [if_neg (by omega), if_neg (by omega), if_neg (by omega), if_neg (by omega), if_neg (by omega), if_neg (by omega), Nat.add_sub_cancel_left]
    rcases hfg with ⟨rfl, rfl⟩ | ⟨rfl, rfl⟩ <;> simp [dfE, ma, upd]
  · rcases hfg with ⟨rfl, rfl⟩ | ⟨rfl, rfl⟩ <;> rfl
  · rcases z with rfl | rfl | rfl <;> rcases hfg with ⟨rfl, rfl⟩ | ⟨rfl, rfl⟩ <;> exact ⟨rfl, rfl⟩
  · have : dmap j ≠ g := by unfold dmap; split <;> omega
    simp [ma, this]
  · rcases hfg with ⟨rfl, rfl⟩ | ⟨rfl, rfl⟩ <;> rfl
  · rcases hfg with ⟨rfl, rfl⟩ | ⟨rfl, rfl⟩ <;> rfl
  · have : j - 50 ≠ o := by omega
    rcases hfg with ⟨rfl, rfl⟩ | ⟨rfl, rfl⟩ <;> simp [dfE, ma, upd, this]
variable {X : kX} {R : Room} {cc : ByteArray} {nL : Nat} {Ts : List Cond} {own : String} {k n : Nat} {lo : List (Nat × Value)} {pc tgt : Nat} {rest : List Value} {x v : Int32} {i : Nat} {ref : String}
theorem d_put (hg : dgeo E a cap nF nC nE h0) (hin : ∀ w ∈ u_ws RX3 TX3 15, w ∈ Ts) (f g : Nat) (hfg : (f = 8 ∧ g = 28) ∨ (f = 9 ∧ g = 1) ∨ (f = 10 ∧ g = 2) ∨ (f = 11 ∧ g = 3)) (hd0 : decode cc pc = .ok (.putfield i, 3)) (hw : Cond.fieldLink own i ref (TX3 f).2.1 (TX3 f).2.2.1 ∈ Ts) (hr : (TX3 f).1 = ref) (hfi : (TX3 f).2.2.2 = false) (hde : parseFieldDescriptor (TX3 f).2.2.1 = some .int) (kk : V E X R cc nL Ts own k n (dw E a cap nF nC nE (ms dt g v) h0) lo (pc + 3) rest) : V E X R cc nL Ts own k n (dw E a cap nF nC nE dt h0) lo pc (.int v :: .ref (a 15) :: rest) := by
  refine r_put (C := RX3) hd0 hin tyX3 tyX3_ok nmX3 (dw_obj hg) rfl f (by omega) hw hr hfi hde rfl rfl (by simp [dfs]; omega) ?_
  rw [dw_ms hg hfg v]
  exact kk
theorem d_putF (hg : dgeo E a cap nF nC nE h0) {o : Nat} (ho : o < nF) (hin : ∀ w ∈ u_ws RX2 TX2 7, w ∈ Ts) (f g : Nat) (hfg : (f = 3 ∧ g = 6) ∨ (f = 4 ∧ g = 9) ∨ (f = 5 ∧ g = 31) ∨ (f = 6 ∧ g = 32)) (hd0 : decode cc pc = .ok (.putfield i, 3)) (hw : Cond.fieldLink own i ref (TX2 f).2.1 (TX2 f).2.2.1 ∈ Ts) (hr : (TX2 f).1 = ref) (hfi : (TX2 f).2.2.2 = false) (hde : parseFieldDescriptor (TX2 f).2.2.1 = some .int) (kk : V E X R cc nL Ts own k n (dw E a cap nF nC nE (ma dt g o v) h0) lo (pc + 3) rest) : V E X R cc nL Ts own k n (dw E a cap nF nC nE dt h0) lo pc (.int v :: .ref (a (20 + o)) :: rest) := by
  refine r_put (C := RX2) hd0 hin tyX2 tyX2_ok nmX2 (dw_fgt hg ho) rfl f (by omega) hw hr hfi hde rfl rfl (by simp [dfF]; omega) ?_
  rw [dw_mF hg ho hfg v]
  exact kk
theorem d_putC (hg : dgeo E a cap nF nC nE h0) {o : Nat} (ho : o < nC) (hin : ∀ w ∈ u_ws RX0 TX0 4, w ∈ Ts) (f g : Nat) (hfg : (f = 2 ∧ g = 13) ∨ (f = 3 ∧ g = 14)) (hd0 : decode cc pc = .ok (.putfield i, 3)) (hw : Cond.fieldLink own i ref (TX0 f).2.1 (TX0 f).2.2.1 ∈ Ts) (hr : (TX0 f).1 = ref) (hfi : (TX0 f).2.2.2 = false) (hde : parseFieldDescriptor (TX0 f).2.2.1 = some .int) (kk : V E X R cc nL Ts own k n (dw E a cap nF nC nE (ma dt g o v) h0) lo (pc + 3) rest) : V E X R cc nL Ts own k n (dw E a cap nF nC nE dt h0) lo pc (.int v :: .ref (a (40 + o)) :: rest) := by
  refine r_put (C := RX0) hd0 hin tyX0 tyX0_ok nmX0 (dw_cam hg ho) rfl f (by omega) hw hr hfi hde rfl rfl (by simp [dfC]; omega) ?_
  rw [dw_mC hg ho hfg v]
  exact kk
theorem d_putE (hg : dgeo E a cap nF nC nE h0) {o : Nat} (ho : o < nE) {ty : FieldType} (hin : ∀ w ∈ u_ws RX1 TX1 5, w ∈ Ts) (f g : Nat) (hfg : (f = 3 ∧ g = 23) ∨ (f = 4 ∧ g = 25)) (hd0 : decode cc pc = .ok (.putfield i, 3)) (hw : Cond.fieldLink own i ref (TX1 f).2.1 (TX1 f).2.2.1 ∈ Ts) (hr : (TX1 f).1 = ref) (hfi : (TX1 f).2.2.2 = false) (hde : parseFieldDescriptor (TX1 f).2.2.1 = some ty) (hnw : narrow ty (.int v) = .int v) (hft : fits ty (.int v) = true) (kk : V E X R cc nL Ts own k n (dw E a cap nF nC nE (ma dt g o v) h0) lo (pc + 3) rest) : V E X R cc nL Ts own k n (dw E a cap nF nC nE dt h0) lo pc (.int v :: .ref (a (50 + o)) :: rest) := by
  refine r_put (C := RX1) hd0 hin tyX1 tyX1_ok nmX1 (dw_ent hg ho) rfl f (by omega) hw hr hfi hde hnw hft (by simp [dfE]; omega) ?_
  rw [dw_mE hg ho hfg v]
  exact kk
theorem d_ald (hg : dgeo E a cap nF nC nE h0) (f g j : Nat) (hf : f = 0 ∨ f = 1 ∨ f = 5 ∨ f = 6 ∨ f = 7 ∨ f = 12 ∨ f = 13 ∨ f = 14) (hfg : dmap f = g) (hd0 : decode cc pc = .ok (.iaload, 1)) (hx : x = nI j) (hj : j < dlen f) (hl : dlen f < 2 ^ 31) (hv : dt g j = v) (kk : V E X R cc nL Ts own k n (dw E a cap nF nC nE dt h0) lo (pc + 1) (.int v :: rest)) : V E X R cc nL Ts own k n (dw E a cap nF nC nE dt h0) lo pc (.int x :: .ref (a f) :: rest) := by
  subst hx hfg
  refine r_iald hd0 (dw_arr hg hf) (vp_in_nI hj hl) ?_
  rw [nI_clamp (by omega), hv]
  exact kk
theorem d_aldx (hg : dgeo E a cap nF nC nE h0) (f g : Nat) (hf : f = 0 ∨ f = 1 ∨ f = 5 ∨ f = 6 ∨ f = 7 ∨ f = 12 ∨ f = 13 ∨ f = 14) (hfg : dmap f = g) (hd0 : decode cc pc = .ok (.iaload, 1)) (hx : vp_in x (dlen f)) (hv : dt g x.toNatClampNeg = v) (kk : V E X R cc nL Ts own k n (dw E a cap nF nC nE dt h0) lo (pc + 1) (.int v :: rest)) : V E X R cc nL Ts own k n (dw E a cap nF nC nE dt h0) lo pc (.int x :: .ref (a f) :: rest) := by
  subst hfg
  refine r_iald hd0 (dw_arr hg hf) hx ?_
  rw [hv]
  exact kk
theorem d_ast (hg : dgeo E a cap nF nC nE h0) (f g j : Nat) (hf : f = 0 ∨ f = 1 ∨ f = 5 ∨ f = 6 ∨ f = 7 ∨ f = 12 ∨ f = 13 ∨ f = 14) (hfg : dmap f = g) (hd0 : decode cc pc = .ok (.iastore, 1)) (hx : x = nI j) (hj : j < dlen f) (hl : dlen f < 2 ^ 31) (kk : V E X R cc nL Ts own k n (dw E a cap nF nC nE (ma dt g j v) h0) lo (pc + 1) rest) : V E X R cc nL Ts own k n (dw E a cap nF nC nE dt h0) lo pc (.int v :: .int x :: .ref (a f) :: rest) := by
  subst hx hfg
  refine r_iast hd0 (dw_arr hg hf) (vp_in_nI hj hl) ?_
  rw [nI_clamp (by omega), dw_ma hg hf v]
  exact kk
theorem dw_lstN (hg : dgeo E a cap nF nC nE h0) {k N : Nat} (hk : k = 2 ∨ k = 3 ∨ k = 4) (hN : dt (dcnt k) 0 = nI N) : dw E a cap nF nC nE dt h0 (a k) = some (.inr (5, [.int (dt (38 + k) 0), .ref (a (14 + k)), .int (nI N)])) := by
  rw [dw_lst hg hk, hN]
end DR
