theorem nat_of {x : Int32} {n : Nat} (h1 : ¬ x < 0) (h2 : x < nI n) (hn : n < 2 ^ 31) : ∃ j, j < n ∧ x = nI j := by
  obtain ⟨j, hj, rfl⟩ := nI_of h1
  exact ⟨j, (nI_ltI hj hn).mp h2, rfl⟩
section DR2
variable {E : kE} {a cap : Nat → Nat} {nF nC nE : Nat} {dt : kM} {h0 : kH}
variable {X : kX} {R : Room} {cc : ByteArray} {nL : Nat} {Ts : List Cond} {own : String} {k n : Nat} {lo lo' : List (Nat × Value)} {pc tgt : Nat} {rest : List Value} {x v : Int32} {i : Nat} {h : kH} {p : Option Nat}
theorem d_astx (hg : dgeo E a cap nF nC nE h0) (f g : Nat) (hf : f = 0 ∨ f = 1 ∨ f = 5 ∨ f = 6 ∨ f = 7 ∨ f = 12 ∨ f = 13 ∨ f = 14) (hfg : dmap f = g) (hd0 : decode cc pc = .ok (.iastore, 1)) (hx : vp_in x (dlen f)) (kk : V E X R cc nL Ts own k n (dw E a cap nF nC nE (ma dt g x.toNatClampNeg v) h0) lo (pc + 1) rest) : V E X R cc nL Ts own k n (dw E a cap nF nC nE dt h0) lo pc (.int v :: .int x :: .ref (a f) :: rest) := by
  subst hfg
  refine r_iast hd0 (dw_arr hg hf) hx ?_
  rw [dw_ma hg hf v]
  exact kk
theorem r_aload_nQ {i : Fin 4} (hd0 : decode cc pc = .ok (.aload_n i, 1)) (j : Nat) (hj : lo[j]? = some ((i : Nat), va_rf p)) (kk : V E X R cc nL Ts own k n h lo (pc + 1) (va_rf p :: rest)) : V E X R cc nL Ts own k n h lo pc rest := by
  cases p with
  | none => exact r_aload_nN hd0 j hj kk
  | some z => exact r_aload_n hd0 j hj kk
end DR2
theorem dwf_c {dt dt' : kM} {nF nC nE w : Nat} (h : dwf dt nF nC nE w) (h5 : dt' 5 = dt 5) (h10 : dt' 10 = dt 10) (h20 : dt' 20 = dt 20) (h1 : dt' 1 = dt 1) (h7 : dt' 7 = dt 7) (h8 : dt' 8 = dt 8) (h9 : dt' 9 = dt 9) (h21 : dt' 21 = dt 21) (h19 : dt' 19 = dt 19) : dwf dt' nF nC nE w := by
  unfold dwf at h ⊢
  rw [h5, h10, h20, h1, h7, h8, h9, h21, h19]
  exact h
theorem dStr_s {dt : kM} {o i : Nat} (c : (dt 21 i).toNatClampNeg = o) : ma (mf dt 25 (dStr dt o i)) 25 i 1 = mf dt 25 (dStr dt o (i + 1)) := by
  rw [ma_mf]
  congr 1
  refine updA (by simp [dStr, c]) (fun j hj => ?_)
  by_cases q : j < i
  · simp [dStr, q, show j < i + 1 by omega]
  · simp [dStr, q, show ¬ j < i + 1 by omega]
theorem dStr_n {dt : kM} {o i : Nat} (c : ¬ (dt 21 i).toNatClampNeg = o) : mf dt 25 (dStr dt o i) = mf dt 25 (dStr dt o (i + 1)) := by
  congr 1
  funext j
  by_cases q : j < i
  · simp [dStr, q, show j < i + 1 by omega]
  · by_cases z : j = i
    · subst z; simp [dStr, c]
    · simp [dStr, q, show ¬ j < i + 1 by omega]
theorem dStr_0 (dt : kM) (o : Nat) : mf dt 25 (dStr dt o 0) = dt := mf_self dt 25 _ (by funext k; simp [dStr])
theorem dUnc_g (dt : kM) (o i : Nat) {g : Nat} (h1 : g ≠ 19) (h2 : g ≠ 33) : dUnc dt o i g = dt g := by
  induction i with
  | zero => rfl
  | succ k ih =>
    rw [dUnc]
    split
    · split
      · exact ih
      · simp [ma, h1, h2, ih]
    · exact ih
theorem dUnc_19 (dt : kM) (o i j : Nat) (h : i ≤ j) : dUnc dt o i 19 j = dt 19 j := by
  induction i with
  | zero => rfl
  | succ k ih =>
    rw [dUnc]
    split
    · split
      · exact ih (by omega)
      · simp [ma, upd, show ¬ j = k by omega, ih (show k ≤ j by omega)]
    · exact ih (by omega)
/-- busy, one further fight looked at -/
theorem dBusy_s {dt : kM} {x y : Int32} {i : Nat} (h : ¬ dBusy dt x y i) (c : ¬ (dt 6 i = 0 ∧ (dIsOf dt i x = 1 ∨ dIsOf dt i y = 1))) : ¬ dBusy dt x y (i + 1) := by
  rintro ⟨k, hk, h1, h2⟩
  by_cases q : k = i
  · subst q; exact c ⟨h1, h2⟩
  · exact h ⟨k, by omega, h1, h2⟩
theorem dIsOf01 (dt : kM) (o : Nat) (p : Int32) : dIsOf dt o p = 0 ∨ dIsOf dt o p = 1 := by
  unfold dIsOf
  split
  · exact Or.inr rfl
  · split
    · exact Or.inr rfl
    · exact Or.inl rfl
theorem dIsOf_n {dt : kM} {o : Nat} {p : Int32} (h : ¬ dIsOf dt o p = 0) : dIsOf dt o p = 1 := (dIsOf01 dt o p).resolve_left h
abbrev rmX3_ofFrameAhead : Room := { frames := 0, cells := 0, slots := 0, locals := 0 }
theorem hinX3_ofFrameAhead_3 : ∀ w ∈ u_ws RX3 TX3 15, w ∈ wsX3_ofFrameAhead := by decide +kernel
theorem fwX3_ofFrameAhead_85 : Cond.fieldLink RX3 85 "Castdesk" "now" "I" ∈ wsX3_ofFrameAhead := by decide +kernel
set_option maxHeartbeats 4000000 in
set_option maxRecDepth 100000 in
theorem tX3_ofFrameAhead_17 {E : kE} {a cap : Nat → Nat} {h0 : kH} (dt : kM)  (nF nC nE w : Nat) (hg : dgeo E a cap nF nC nE h0) (hd : dwf dt nF nC nE w) : kCi E yX3_ofFrameAhead wsX3_ofFrameAhead rmX3_ofFrameAhead 0 0 [.ref (a 15), .ref (a 12)] (dw E a cap nF nC nE dt h0) (fun r h' => r = dAhead dt w 17 ∧ h' = dw E a cap nF nC nE dt h0) := by
  obtain ⟨hF, hF20, hC, hC6, hE, hE80, hW, hW3, hpl, hof, hsp⟩ := id hd
  refine kCi_of (rt := .int) (own := RX3) (cc := cX3_ofFrameAhead) (maxL := 2) (by decide) rfl rfl (Nat.le_of_ble_eq_true rfl) ?_
  intro X hini kret
  refine r_lo (lo' := [(0, .ref (a 15)), (1, .ref (a 12))]) [0, 1] rfl ?_
  refine r_aload_n dX3_ofFrameAhead_0 0 rfl ?_
  refine r_get (C := RX3) (b := .int (nI w)) dX3_ofFrameAhead_1 hinX3_ofFrameAhead_3 (dw_obj hg) rfl 9 (by decide) fwX3_ofFrameAhead_85 rfl (by show some (Value.int (dt 1 0)) = _; rw [show dt 1 0 = nI w from hW]) ?_
  rcases Nat.eq_zero_or_pos w with rfl | hw0
  · refine r_if_le (tgt := 18) dX3_ofFrameAhead_4 (by decide) (fun _ => ?_) (fun z => absurd z (by decide))
    refine r_iconst (v := (-1)) dX3_ofFrameAhead_18 (by decide) ?_
    exact kret _ _ _ _ _ _ (Nat.le_refl _) (Nat.le_refl _) dX3_ofFrameAhead_19 rfl (⟨rfl, rfl⟩)
  · obtain ⟨u, rfl⟩ : ∃ u, w = u + 1 := ⟨w - 1, by omega⟩
    refine r_if_le (tgt := 18) dX3_ofFrameAhead_4 (by decide) (fun z => absurd (show (0 : Int32) < nI (u + 1) from nI_lt (a := 0) (by omega) (by omega)) z) (fun _ => ?_)
    refine r_aload_n dX3_ofFrameAhead_7 1 rfl ?_
    refine r_aload_n dX3_ofFrameAhead_8 0 rfl ?_
    refine r_get (C := RX3) (b := .int (nI (u + 1))) dX3_ofFrameAhead_9 hinX3_ofFrameAhead_3 (dw_obj hg) rfl 9 (by decide) fwX3_ofFrameAhead_85 rfl (by show some (Value.int (dt 1 0)) = _; rw [show dt 1 0 = nI (u + 1) from hW]) ?_
    refine r_iconst (v := 1) dX3_ofFrameAhead_12 (by decide) ?_
    refine r_isub dX3_ofFrameAhead_13 ?_
    rw [show (nI (u + 1)) - 1 = nI u from nI_pred u]
    refine d_ald (v := dt 17 u) hg 12 17 u (by decide) rfl dX3_ofFrameAhead_14 rfl (by show _ < 3000; omega) (by decide) rfl ?_
    refine r_goto (tgt := 19) dX3_ofFrameAhead_15 (by decide) ?_
    exact kret _ _ _ _ _ _ (Nat.le_refl _) (Nat.le_refl _) dX3_ofFrameAhead_19 rfl (⟨(if_neg (by omega)).symm, rfl⟩)

set_option maxHeartbeats 4000000 in
set_option maxRecDepth 100000 in
theorem tX3_ofFrameAhead_18 {E : kE} {a cap : Nat → Nat} {h0 : kH} (dt : kM)  (nF nC nE w : Nat) (hg : dgeo E a cap nF nC nE h0) (hd : dwf dt nF nC nE w) : kCi E yX3_ofFrameAhead wsX3_ofFrameAhead rmX3_ofFrameAhead 0 0 [.ref (a 15), .ref (a 13)] (dw E a cap nF nC nE dt h0) (fun r h' => r = dAhead dt w 18 ∧ h' = dw E a cap nF nC nE dt h0) := by
  obtain ⟨hF, hF20, hC, hC6, hE, hE80, hW, hW3, hpl, hof, hsp⟩ := id hd
  refine kCi_of (rt := .int) (own := RX3) (cc := cX3_ofFrameAhead) (maxL := 2) (by decide) rfl rfl (Nat.le_of_ble_eq_true rfl) ?_
  intro X hini kret
  refine r_lo (lo' := [(0, .ref (a 15)), (1, .ref (a 13))]) [0, 1] rfl ?_
  refine r_aload_n dX3_ofFrameAhead_0 0 rfl ?_
  refine r_get (C := RX3) (b := .int (nI w)) dX3_ofFrameAhead_1 hinX3_ofFrameAhead_3 (dw_obj hg) rfl 9 (by decide) fwX3_ofFrameAhead_85 rfl (by show some (Value.int (dt 1 0)) = _; rw [show dt 1 0 = nI w from hW]) ?_
  rcases Nat.eq_zero_or_pos w with rfl | hw0
  · refine r_if_le (tgt := 18) dX3_ofFrameAhead_4 (by decide) (fun _ => ?_) (fun z => absurd z (by decide))
    refine r_iconst (v := (-1)) dX3_ofFrameAhead_18 (by decide) ?_
    exact kret _ _ _ _ _ _ (Nat.le_refl _) (Nat.le_refl _) dX3_ofFrameAhead_19 rfl (⟨rfl, rfl⟩)
  · obtain ⟨u, rfl⟩ : ∃ u, w = u + 1 := ⟨w - 1, by omega⟩
    refine r_if_le (tgt := 18) dX3_ofFrameAhead_4 (by decide) (fun z => absurd (show (0 : Int32) < nI (u + 1) from nI_lt (a := 0) (by omega) (by omega)) z) (fun _ => ?_)
    refine r_aload_n dX3_ofFrameAhead_7 1 rfl ?_
    refine r_aload_n dX3_ofFrameAhead_8 0 rfl ?_
    refine r_get (C := RX3) (b := .int (nI (u + 1))) dX3_ofFrameAhead_9 hinX3_ofFrameAhead_3 (dw_obj hg) rfl 9 (by decide) fwX3_ofFrameAhead_85 rfl (by show some (Value.int (dt 1 0)) = _; rw [show dt 1 0 = nI (u + 1) from hW]) ?_
    refine r_iconst (v := 1) dX3_ofFrameAhead_12 (by decide) ?_
    refine r_isub dX3_ofFrameAhead_13 ?_
    rw [show (nI (u + 1)) - 1 = nI u from nI_pred u]
    refine d_ald (v := dt 18 u) hg 13 18 u (by decide) rfl dX3_ofFrameAhead_14 rfl (by show _ < 3000; omega) (by decide) rfl ?_
    refine r_goto (tgt := 19) dX3_ofFrameAhead_15 (by decide) ?_
    exact kret _ _ _ _ _ _ (Nat.le_refl _) (Nat.le_refl _) dX3_ofFrameAhead_19 rfl (⟨(if_neg (by omega)).symm, rfl⟩)

abbrev rmX3_owedTo : Room := { frames := 1, cells := 0, slots := 0, locals := 21 }
theorem hinX3_owedTo_3 : ∀ w ∈ u_ws RX3 TX3 15, w ∈ wsX3_owedTo := by decide +kernel
theorem fwX3_owedTo_29 : Cond.fieldLink RX3 29 "Castdesk" "promised" "[I" ∈ wsX3_owedTo := by decide +kernel
theorem fwX3_owedTo_32 : Cond.fieldLink RX3 32 "Castdesk" "countedFrames" "[I" ∈ wsX3_owedTo := by decide +kernel
set_option maxHeartbeats 4000000 in
set_option maxRecDepth 100000 in
theorem tX3_owedTo {E : kE} {a cap : Nat → Nat} {h0 : kH} (dt : kM)  (nF nC nE w : Nat) (hg : dgeo E a cap nF nC nE h0) (hd : dwf dt nF nC nE w) (s : Nat) (hs : s < 6) : kCi E yX3_owedTo wsX3_owedTo rmX3_owedTo 0 0 [.ref (a 15), .int (nI s)] (dw E a cap nF nC nE dt h0) (fun r h' => r = dOwe dt s ∧ h' = dw E a cap nF nC nE dt h0) := by
  refine kCi_of (rt := .int) (own := RX3) (cc := cX3_owedTo) (maxL := 2) (by decide) rfl rfl (Nat.le_of_ble_eq_true rfl) ?_
  intro X hini kret
  refine r_lo (lo' := [(0, .ref (a 15)), (1, .int (nI s))]) [0, 1] rfl ?_
  refine r_aload_n dX3_owedTo_0 0 rfl ?_
  refine r_get (C := RX3) (b := .ref (a 5)) dX3_owedTo_1 hinX3_owedTo_3 (dw_obj hg) rfl 5 (by decide) fwX3_owedTo_29 rfl rfl ?_
  refine r_iload_n dX3_owedTo_4 1 rfl ?_
  refine d_ald (v := dt 26 s) hg 5 26 s (by decide) rfl dX3_owedTo_5 rfl (by show _ < 6; omega) (by decide) rfl ?_
  refine r_aload_n dX3_owedTo_6 0 rfl ?_
  refine r_get (C := RX3) (b := .ref (a 6)) dX3_owedTo_7 hinX3_owedTo_3 (dw_obj hg) rfl 6 (by decide) fwX3_owedTo_32 rfl rfl ?_
  refine r_iload_n dX3_owedTo_10 1 rfl ?_
  refine d_ald (v := dt 33 s) hg 6 33 s (by decide) rfl dX3_owedTo_11 rfl (by show _ < 6; omega) (by decide) rfl ?_
  refine r_isub dX3_owedTo_12 ?_
  refine r_iconst (v := 0) dX3_owedTo_13 (by decide) ?_
  refine r_mmax dX3_owedTo_14 (by decide +kernel : Cond.methodLink RX3 285 Lib.Math.max.name ∈ wsX3_owedTo) (by decide +kernel) (by decide +kernel) (by decide +kernel) (by decide) (Nat.le_of_ble_eq_true rfl) (Nat.zero_le _) (Nat.zero_le _) ?_
  exact kret _ _ _ _ _ _ (Nat.le_refl _) (Nat.le_refl _) dX3_owedTo_17 rfl (⟨rfl, rfl⟩)

abbrev rmX3_letViewersSee : Room := { frames := 1, cells := 0, slots := 0, locals := 21 }
theorem hinX3_letViewersSee_3 : ∀ w ∈ u_ws RX3 TX3 15, w ∈ wsX3_letViewersSee := by decide +kernel
theorem fwX3_letViewersSee_38 : Cond.fieldLink RX3 38 "Castdesk" "delayFrames" "I" ∈ wsX3_letViewersSee := by decide +kernel
theorem fwX3_letViewersSee_42 : Cond.fieldLink RX3 42 "Castdesk" "seenUpTo" "I" ∈ wsX3_letViewersSee := by decide +kernel
theorem fwX3_letViewersSee_85 : Cond.fieldLink RX3 85 "Castdesk" "now" "I" ∈ wsX3_letViewersSee := by decide +kernel
set_option maxHeartbeats 4000000 in
set_option maxRecDepth 100000 in
theorem tX3_letViewersSee {E : kE} {a cap : Nat → Nat} {h0 : kH} (dt : kM)  (nF nC nE : Nat) (hg : dgeo E a cap nF nC nE h0) : kCv E yX3_letViewersSee wsX3_letViewersSee rmX3_letViewersSee 0 0 [.ref (a 15)] (dw E a cap nF nC nE dt h0) (fun h' => h' = dw E a cap nF nC nE (msee dt) h0) := by
  refine kCv_of (own := RX3) (cc := cX3_letViewersSee) (maxL := 1) (by decide) rfl rfl (Nat.le_of_ble_eq_true rfl) ?_
  intro X hini kret
  refine r_lo (lo' := [(0, .ref (a 15))]) [0] rfl ?_
  refine r_aload_n dX3_letViewersSee_0 0 rfl ?_
  refine r_aload_n dX3_letViewersSee_1 0 rfl ?_
  refine r_get (C := RX3) (b := .int (dt 3 0)) dX3_letViewersSee_2 hinX3_letViewersSee_3 (dw_obj hg) rfl 11 (by decide) fwX3_letViewersSee_42 rfl rfl ?_
  refine r_aload_n dX3_letViewersSee_5 0 rfl ?_
  refine r_get (C := RX3) (b := .int (dt 1 0)) dX3_letViewersSee_6 hinX3_letViewersSee_3 (dw_obj hg) rfl 9 (by decide) fwX3_letViewersSee_85 rfl rfl ?_
  refine r_iconst (v := 1) dX3_letViewersSee_9 (by decide) ?_
  refine r_isub dX3_letViewersSee_10 ?_
  refine r_aload_n dX3_letViewersSee_11 0 rfl ?_
  refine r_get (C := RX3) (b := .int (dt 2 0)) dX3_letViewersSee_12 hinX3_letViewersSee_3 (dw_obj hg) rfl 10 (by decide) fwX3_letViewersSee_38 rfl rfl ?_
  refine r_isub dX3_letViewersSee_15 ?_
  refine r_mmax dX3_letViewersSee_16 (by decide +kernel : Cond.methodLink RX3 285 Lib.Math.max.name ∈ wsX3_letViewersSee) (by decide +kernel) (by decide +kernel) (by decide +kernel) (by decide) (Nat.le_of_ble_eq_true rfl) (Nat.zero_le _) (Nat.zero_le _) ?_
  refine d_put hg hinX3_letViewersSee_3 11 3 (by decide) dX3_letViewersSee_19 fwX3_letViewersSee_42 rfl rfl rfl ?_
  exact kret _ _ _ _ _ (Nat.le_refl _) (Nat.le_refl _) dX3_letViewersSee_22 (rfl)

abbrev rmX3_heatOf : Room := { frames := 2, cells := 0, slots := 0, locals := 40 }
theorem hinX3_heatOf_2 : ∀ w ∈ u_ws RX2 TX2 7, w ∈ wsX3_heatOf := by decide +kernel
theorem hinX3_heatOf_3 : ∀ w ∈ u_ws RX3 TX3 15, w ∈ wsX3_heatOf := by decide +kernel
theorem fwX3_heatOf_9 : Cond.fieldLink RX3 9 "Castdesk" "ranks" "[I" ∈ wsX3_heatOf := by decide +kernel
theorem fwX3_heatOf_88 : Cond.fieldLink RX3 88 "Castdesk$Fight" "first" "I" ∈ wsX3_heatOf := by decide +kernel
theorem fwX3_heatOf_97 : Cond.fieldLink RX3 97 "Castdesk$Fight" "second" "I" ∈ wsX3_heatOf := by decide +kernel
set_option maxHeartbeats 4000000 in
set_option maxRecDepth 100000 in
theorem tX3_heatOf {E : kE} {a cap : Nat → Nat} {h0 : kH} (dt : kM)  (nF nC nE w : Nat) (hg : dgeo E a cap nF nC nE h0) (hd : dwf dt nF nC nE w) (o : Nat) (ho : o < nF) : kCi E yX3_heatOf wsX3_heatOf rmX3_heatOf 0 0 [.ref (a 15), .ref (a (20 + o))] (dw E a cap nF nC nE dt h0) (fun r h' => r = dHeat dt o ∧ h' = dw E a cap nF nC nE dt h0) := by
  obtain ⟨hF, hF20, hC, hC6, hE, hE80, hW, hW3, hpl, hof, hsp⟩ := id hd
  refine kCi_of (rt := .int) (own := RX3) (cc := cX3_heatOf) (maxL := 2) (by decide) rfl rfl (Nat.le_of_ble_eq_true rfl) ?_
  intro X hini kret
  refine r_lo (lo' := [(0, .ref (a 15)), (1, .ref (a (20 + o)))]) [0, 1] rfl ?_
  refine r_aload_n dX3_heatOf_0 0 rfl ?_
  refine r_get (C := RX3) (b := .ref (a 0)) dX3_heatOf_1 hinX3_heatOf_3 (dw_obj hg) rfl 0 (by decide) fwX3_heatOf_9 rfl rfl ?_
  refine r_aload_n dX3_heatOf_4 1 rfl ?_
  refine r_get (C := RX2) (b := .int (dt 7 o)) dX3_heatOf_5 hinX3_heatOf_2 (dw_fgt hg (by omega)) rfl 1 (by decide) fwX3_heatOf_88 rfl rfl ?_
  refine d_aldx (v := dt 4 (dt 7 o).toNatClampNeg) hg 0 4 (by decide) rfl dX3_heatOf_8 (hpl o ho).1 rfl ?_
  refine r_aload_n dX3_heatOf_9 0 rfl ?_
  refine r_get (C := RX3) (b := .ref (a 0)) dX3_heatOf_10 hinX3_heatOf_3 (dw_obj hg) rfl 0 (by decide) fwX3_heatOf_9 rfl rfl ?_
  refine r_aload_n dX3_heatOf_13 1 rfl ?_
  refine r_get (C := RX2) (b := .int (dt 8 o)) dX3_heatOf_14 hinX3_heatOf_2 (dw_fgt hg (by omega)) rfl 2 (by decide) fwX3_heatOf_97 rfl rfl ?_
  refine d_aldx (v := dt 4 (dt 8 o).toNatClampNeg) hg 0 4 (by decide) rfl dX3_heatOf_17 (hpl o ho).2.1 rfl ?_
  refine r_iadd dX3_heatOf_18 ?_
  refine r_aload_n dX3_heatOf_19 1 rfl ?_
  refine r_callVi (nn := 0) (As := []) (st := [.int ((dt 4 (dt 7 o).toNatClampNeg) + (dt 4 (dt 8 o).toNatClampNeg))]) dX3_heatOf_20 (tX2_heatOfBlows dt nF nC nE w hg hd o (by omega)) gX3_heatOf_X2_heatOfBlows rfl (by decide +kernel) ⟨Nat.le_of_ble_eq_true rfl, Nat.le_of_ble_eq_true rfl⟩ ⟨rfl, rfl⟩ (dw_fgt hg (by omega)) rfl rfl (Nat.le_of_ble_eq_true rfl) ⟨Nat.le_of_ble_eq_true rfl, Nat.le_of_ble_eq_true rfl⟩ rfl (fun r hh hp => ?_)
  obtain ⟨rfl, rfl⟩ := hp
  refine r_iadd dX3_heatOf_23 ?_
  exact kret _ _ _ _ _ _ (Nat.le_refl _) (Nat.le_refl _) dX3_heatOf_24 rfl (⟨rfl, rfl⟩)

abbrev rmX3_canBeOnAir : Room := { frames := 3, cells := 0, slots := 0, locals := 64 }
theorem hinX3_canBeOnAir_0 : ∀ w ∈ u_ws RX0 TX0 4, w ∈ wsX3_canBeOnAir := by decide +kernel
theorem hinX3_canBeOnAir_3 : ∀ w ∈ u_ws RX3 TX3 15, w ∈ wsX3_canBeOnAir := by decide +kernel
theorem fwX3_canBeOnAir_23 : Cond.fieldLink RX3 23 "Castdesk" "cameras" "Ljava/util/ArrayList;" ∈ wsX3_canBeOnAir := by decide +kernel
theorem fwX3_canBeOnAir_201 : Cond.fieldLink RX3 201 "Castdesk$Camera" "toBeOff" "I" ∈ wsX3_canBeOnAir := by decide +kernel
set_option maxHeartbeats 4000000 in
set_option maxRecDepth 100000 in
theorem tX3_canBeOnAir {E : kE} {a cap : Nat → Nat} {h0 : kH} (dt : kM)  (nF nC nE w : Nat) (hg : dgeo E a cap nF nC nE h0) (hd : dwf dt nF nC nE w) (x : Int32) : kCi E yX3_canBeOnAir wsX3_canBeOnAir rmX3_canBeOnAir 0 0 [.ref (a 15), .int x] (dw E a cap nF nC nE dt h0) (fun r h' => r = dCan dt nC x ∧ h' = dw E a cap nF nC nE dt h0) := by
  obtain ⟨hF, hF20, hC, hC6, hE, hE80, hW, hW3, hpl, hof, hsp⟩ := id hd
  refine kCi_of (rt := .boolean) (own := RX3) (cc := cX3_canBeOnAir) (maxL := 2) (by decide) rfl rfl (Nat.le_of_ble_eq_true rfl) ?_
  intro X hini kret
  refine r_lo (lo' := [(0, .ref (a 15)), (1, .int x)]) [0, 1] rfl ?_
  refine r_iload_n dX3_canBeOnAir_0 1 rfl ?_
  refine r_if_lt (tgt := 36) dX3_canBeOnAir_1 (by decide) (fun c1 => ?_) (fun c1 => ?_)
  · skip
    refine r_iconst (v := 0) dX3_canBeOnAir_36 (by decide) ?_
    exact kret _ _ _ _ _ _ (Nat.le_refl _) (Nat.le_refl _) dX3_canBeOnAir_37 rfl (⟨by rw [dCan, if_pos c1], rfl⟩)
  · skip
    refine r_iload_n dX3_canBeOnAir_4 1 rfl ?_
    refine r_aload_n dX3_canBeOnAir_5 0 rfl ?_
    refine r_get (C := RX3) (b := .ref (a 3)) dX3_canBeOnAir_6 hinX3_canBeOnAir_3 (dw_obj hg) rfl 3 (by decide) fwX3_canBeOnAir_23 rfl rfl ?_
    refine r_callVi (nn := 0) (As := []) (st := [.int x]) dX3_canBeOnAir_9 (tJx4a65c_size_8abf5 _ _ _ _ (dw_lstN hg (k := 3) (by decide) hC)) gX3_canBeOnAir_Jx4a65c_size_8abf5 rfl (by decide +kernel) ⟨Nat.le_of_ble_eq_true rfl, Nat.le_of_ble_eq_true rfl⟩ ⟨rfl, rfl⟩ (dw_lstN hg (k := 3) (by decide) hC) rfl rfl (Nat.le_of_ble_eq_true rfl) ⟨Nat.le_of_ble_eq_true rfl, Nat.le_of_ble_eq_true rfl⟩ rfl (fun r hh hp => ?_)
    obtain ⟨rfl, rfl⟩ := hp
    refine r_icmp_ge (tgt := 36) dX3_canBeOnAir_12 (by decide) (fun c2 => ?_) (fun c2 => ?_)
    · skip
      refine r_iconst (v := 0) dX3_canBeOnAir_36 (by decide) ?_
      exact kret _ _ _ _ _ _ (Nat.le_refl _) (Nat.le_refl _) dX3_canBeOnAir_37 rfl (⟨by rw [dCan, if_neg c1, if_neg c2], rfl⟩)
    · skip
      obtain ⟨j, hj, hxj⟩ := nat_of c1 c2 (by omega)
      subst hxj
      refine r_aload_n dX3_canBeOnAir_15 0 rfl ?_
      refine r_get (C := RX3) (b := .ref (a 3)) dX3_canBeOnAir_16 hinX3_canBeOnAir_3 (dw_obj hg) rfl 3 (by decide) fwX3_canBeOnAir_23 rfl rfl ?_
      refine r_iload_n dX3_canBeOnAir_19 1 rfl ?_
      refine r_callVq (nn := 1) (As := [.int (nI j)]) (st := []) dX3_canBeOnAir_20 (tg_3 hg hC (by omega)) gX3_canBeOnAir_Jx4a65c_get_915e3 rfl (by decide +kernel) ⟨Nat.le_of_ble_eq_true rfl, Nat.le_of_ble_eq_true rfl⟩ ⟨rfl, rfl⟩ (dw_lstN hg (k := 3) (by decide) hC) rfl rfl (Nat.le_of_ble_eq_true rfl) ⟨Nat.le_of_ble_eq_true rfl, Nat.le_of_ble_eq_true rfl⟩ rfl (fun r hh hp => ?_)
      obtain ⟨rfl, rfl⟩ := hp
      refine r_cast (C := RX0) dX3_canBeOnAir_23 (by decide +kernel) (dw_cam hg (by omega)) rfl ?_
      refine r_get (C := RX0) (b := .int (dt 14 j)) dX3_canBeOnAir_26 hinX3_canBeOnAir_0 (dw_cam hg (by omega)) rfl 3 (by decide) fwX3_canBeOnAir_201 rfl rfl ?_
      refine r_if_ne (tgt := 36) dX3_canBeOnAir_29 (by decide) (fun c3 => ?_) (fun c3 => ?_)
      · skip
        refine r_iconst (v := 0) dX3_canBeOnAir_36 (by decide) ?_
        exact kret _ _ _ _ _ _ (Nat.le_refl _) (Nat.le_refl _) dX3_canBeOnAir_37 rfl (⟨by rw [dCan, if_neg c1, if_pos c2, nI_clamp (by omega), if_neg c3], rfl⟩)
      · skip
        refine r_iconst (v := 1) dX3_canBeOnAir_32 (by decide) ?_
        refine r_goto (tgt := 37) dX3_canBeOnAir_33 (by decide) ?_
        exact kret _ _ _ _ _ _ (Nat.le_refl _) (Nat.le_refl _) dX3_canBeOnAir_37 rfl (⟨by rw [dCan, if_neg c1, if_pos c2, nI_clamp (by omega), if_pos c3], rfl⟩)

abbrev rmX3_fightNumbered : Room := { frames := 6, cells := 1, slots := 6, locals := 90 }
theorem hinX3_fightNumbered_3 : ∀ w ∈ u_ws RX3 TX3 15, w ∈ wsX3_fightNumbered := by decide +kernel
theorem fwX3_fightNumbered_19 : Cond.fieldLink RX3 19 "Castdesk" "fights" "Ljava/util/ArrayList;" ∈ wsX3_fightNumbered := by decide +kernel
theorem gxX3_fightNumbered_B : ∀ w ∈ (vx_atS RX3 184 kIO kNm).filter goodWord, w ∈ wsX3_fightNumbered := by decide +kernel
set_option maxHeartbeats 4000000 in
set_option maxRecDepth 100000 in
theorem tX3_fightNumbered {E : kE} {a cap : Nat → Nat} {h0 : kH} (dt : kM)  (nF nC nE w : Nat) (hg : dgeo E a cap nF nC nE h0) (hd : dwf dt nF nC nE w) (x : Int32) : kXq E yX3_fightNumbered wsX3_fightNumbered rmX3_fightNumbered 1 6 [.ref (a 15), .int x] (dw E a cap nF nC nE dt h0) (fun Ec h' => (Ec = kIO ∧ ¬ (¬ x < 0 ∧ x < nI nF)) ∧ h' = dw E a cap nF nC nE dt h0) (fun r h' => ∃ o, o < nF ∧ x = nI o ∧ r = some (a (20 + o)) ∧ h' = dw E a cap nF nC nE dt h0) := by
  obtain ⟨hF, hF20, hC, hC6, hE, hE80, hW, hW3, hpl, hof, hsp⟩ := id hd
  refine kXq_of (rt := .object "Castdesk$Fight") (own := RX3) (cc := cX3_fightNumbered) (maxL := 2) (by decide) rfl rfl ⟨rfl, rfl⟩ (Or.inl ⟨_, rfl⟩) (Nat.le_of_ble_eq_true rfl) ?_
  intro X kret kthr kout
  refine r_lo (lo' := [(0, .ref (a 15)), (1, .int x)]) [0, 1] rfl ?_
  refine r_iload_n dX3_fightNumbered_0 1 rfl ?_
  refine r_if_lt (tgt := 15) dX3_fightNumbered_1 (by decide) (fun c1 => ?_) (fun c1 => ?_)
  · skip
    exact kthr _ _ _ _ _ [] _ (Nat.le_of_ble_eq_true rfl) (Nat.le_of_ble_eq_true rfl) ⟨_, _, _, _, _, kSt_B, rfl, (by decide +kernel), (by decide +kernel), (by decide +kernel : (233, "no such fight") ∈ kStr), gxX3_fightNumbered_B, dX3_fightNumbered_15, dX3_fightNumbered_18, Or.inl ⟨rfl, dX3_fightNumbered_19⟩, dX3_fightNumbered_21, dX3_fightNumbered_24, (by decide), (Nat.le_of_ble_eq_true rfl)⟩ (⟨⟨rfl, fun z => z.1 c1⟩, rfl⟩)
  · skip
    refine r_iload_n dX3_fightNumbered_4 1 rfl ?_
    refine r_aload_n dX3_fightNumbered_5 0 rfl ?_
    refine r_get (C := RX3) (b := .ref (a 2)) dX3_fightNumbered_6 hinX3_fightNumbered_3 (dw_obj hg) rfl 2 (by decide) fwX3_fightNumbered_19 rfl rfl ?_
    refine r_callVi (nn := 0) (As := []) (st := [.int x]) dX3_fightNumbered_9 (tJx4a65c_size_8abf5 _ _ _ _ (dw_lstN hg (k := 2) (by decide) hF)) gX3_fightNumbered_Jx4a65c_size_8abf5 rfl (by decide +kernel) ⟨Nat.le_of_ble_eq_true rfl, Nat.le_of_ble_eq_true rfl⟩ ⟨rfl, rfl⟩ (dw_lstN hg (k := 2) (by decide) hF) rfl rfl (Nat.le_of_ble_eq_true rfl) ⟨Nat.le_of_ble_eq_true rfl, Nat.le_of_ble_eq_true rfl⟩ rfl (fun r hh hp => ?_)
    obtain ⟨rfl, rfl⟩ := hp
    refine r_icmp_lt (tgt := 25) dX3_fightNumbered_12 (by decide) (fun c2 => ?_) (fun c2 => ?_)
    · skip
      obtain ⟨j, hj, hxj⟩ := nat_of c1 c2 (by omega)
      subst hxj
      refine r_aload_n dX3_fightNumbered_25 0 rfl ?_
      refine r_get (C := RX3) (b := .ref (a 2)) dX3_fightNumbered_26 hinX3_fightNumbered_3 (dw_obj hg) rfl 2 (by decide) fwX3_fightNumbered_19 rfl rfl ?_
      refine r_iload_n dX3_fightNumbered_29 1 rfl ?_
      refine r_callVq (nn := 1) (As := [.int (nI j)]) (st := []) dX3_fightNumbered_30 (tg_2 hg hF (by omega)) gX3_fightNumbered_Jx4a65c_get_915e3 rfl (by decide +kernel) ⟨Nat.le_of_ble_eq_true rfl, Nat.le_of_ble_eq_true rfl⟩ ⟨rfl, rfl⟩ (dw_lstN hg (k := 2) (by decide) hF) rfl rfl (Nat.le_of_ble_eq_true rfl) ⟨Nat.le_of_ble_eq_true rfl, Nat.le_of_ble_eq_true rfl⟩ rfl (fun r hh hp => ?_)
      obtain ⟨rfl, rfl⟩ := hp
      refine r_cast (C := RX2) dX3_fightNumbered_33 (by decide +kernel) (dw_fgt hg (by omega)) rfl ?_
      exact kret _ _ _ _ _ (some (a (20 + j))) (Nat.zero_le _) (Nat.zero_le _) dX3_fightNumbered_36 (⟨j, hj, rfl, rfl, rfl⟩)
    · skip
      exact kthr _ _ _ _ _ [] _ (Nat.le_of_ble_eq_true rfl) (Nat.le_of_ble_eq_true rfl) ⟨_, _, _, _, _, kSt_B, rfl, (by decide +kernel), (by decide +kernel), (by decide +kernel : (233, "no such fight") ∈ kStr), gxX3_fightNumbered_B, dX3_fightNumbered_15, dX3_fightNumbered_18, Or.inl ⟨rfl, dX3_fightNumbered_19⟩, dX3_fightNumbered_21, dX3_fightNumbered_24, (by decide), (Nat.le_of_ble_eq_true rfl)⟩ (⟨⟨rfl, fun z => c2 z.2⟩, rfl⟩)

abbrev rmX3_entryNumbered : Room := { frames := 6, cells := 1, slots := 6, locals := 90 }
theorem hinX3_entryNumbered_3 : ∀ w ∈ u_ws RX3 TX3 15, w ∈ wsX3_entryNumbered := by decide +kernel
theorem fwX3_entryNumbered_26 : Cond.fieldLink RX3 26 "Castdesk" "entries" "Ljava/util/ArrayList;" ∈ wsX3_entryNumbered := by decide +kernel
theorem gxX3_entryNumbered_B : ∀ w ∈ (vx_atS RX3 184 kIO kNm).filter goodWord, w ∈ wsX3_entryNumbered := by decide +kernel
set_option maxHeartbeats 4000000 in
set_option maxRecDepth 100000 in
theorem tX3_entryNumbered {E : kE} {a cap : Nat → Nat} {h0 : kH} (dt : kM)  (nF nC nE w : Nat) (hg : dgeo E a cap nF nC nE h0) (hd : dwf dt nF nC nE w) (x : Int32) : kXq E yX3_entryNumbered wsX3_entryNumbered rmX3_entryNumbered 1 6 [.ref (a 15), .int x] (dw E a cap nF nC nE dt h0) (fun Ec h' => (Ec = kIO ∧ ¬ (¬ x < 0 ∧ x < nI nE)) ∧ h' = dw E a cap nF nC nE dt h0) (fun r h' => ∃ o, o < nE ∧ x = nI o ∧ r = some (a (50 + o)) ∧ h' = dw E a cap nF nC nE dt h0) := by
  obtain ⟨hF, hF20, hC, hC6, hE, hE80, hW, hW3, hpl, hof, hsp⟩ := id hd
  refine kXq_of (rt := .object "Castdesk$Entry") (own := RX3) (cc := cX3_entryNumbered) (maxL := 2) (by decide) rfl rfl ⟨rfl, rfl⟩ (Or.inl ⟨_, rfl⟩) (Nat.le_of_ble_eq_true rfl) ?_
  intro X kret kthr kout
  refine r_lo (lo' := [(0, .ref (a 15)), (1, .int x)]) [0, 1] rfl ?_
  refine r_iload_n dX3_entryNumbered_0 1 rfl ?_
  refine r_if_lt (tgt := 15) dX3_entryNumbered_1 (by decide) (fun c1 => ?_) (fun c1 => ?_)
  · skip
    exact kthr _ _ _ _ _ [] _ (Nat.le_of_ble_eq_true rfl) (Nat.le_of_ble_eq_true rfl) ⟨_, _, _, _, _, kSt_B, rfl, (by decide +kernel), (by decide +kernel), (by decide +kernel : (235, "no such entry") ∈ kStr), gxX3_entryNumbered_B, dX3_entryNumbered_15, dX3_entryNumbered_18, Or.inl ⟨rfl, dX3_entryNumbered_19⟩, dX3_entryNumbered_21, dX3_entryNumbered_24, (by decide), (Nat.le_of_ble_eq_true rfl)⟩ (⟨⟨rfl, fun z => z.1 c1⟩, rfl⟩)
  · skip
    refine r_iload_n dX3_entryNumbered_4 1 rfl ?_
    refine r_aload_n dX3_entryNumbered_5 0 rfl ?_
    refine r_get (C := RX3) (b := .ref (a 4)) dX3_entryNumbered_6 hinX3_entryNumbered_3 (dw_obj hg) rfl 4 (by decide) fwX3_entryNumbered_26 rfl rfl ?_
    refine r_callVi (nn := 0) (As := []) (st := [.int x]) dX3_entryNumbered_9 (tJx4a65c_size_8abf5 _ _ _ _ (dw_lstN hg (k := 4) (by decide) hE)) gX3_entryNumbered_Jx4a65c_size_8abf5 rfl (by decide +kernel) ⟨Nat.le_of_ble_eq_true rfl, Nat.le_of_ble_eq_true rfl⟩ ⟨rfl, rfl⟩ (dw_lstN hg (k := 4) (by decide) hE) rfl rfl (Nat.le_of_ble_eq_true rfl) ⟨Nat.le_of_ble_eq_true rfl, Nat.le_of_ble_eq_true rfl⟩ rfl (fun r hh hp => ?_)
    obtain ⟨rfl, rfl⟩ := hp
    refine r_icmp_lt (tgt := 25) dX3_entryNumbered_12 (by decide) (fun c2 => ?_) (fun c2 => ?_)
    · skip
      obtain ⟨j, hj, hxj⟩ := nat_of c1 c2 (by omega)
      subst hxj
      refine r_aload_n dX3_entryNumbered_25 0 rfl ?_
      refine r_get (C := RX3) (b := .ref (a 4)) dX3_entryNumbered_26 hinX3_entryNumbered_3 (dw_obj hg) rfl 4 (by decide) fwX3_entryNumbered_26 rfl rfl ?_
      refine r_iload_n dX3_entryNumbered_29 1 rfl ?_
      refine r_callVq (nn := 1) (As := [.int (nI j)]) (st := []) dX3_entryNumbered_30 (tg_4 hg hE (by omega)) gX3_entryNumbered_Jx4a65c_get_915e3 rfl (by decide +kernel) ⟨Nat.le_of_ble_eq_true rfl, Nat.le_of_ble_eq_true rfl⟩ ⟨rfl, rfl⟩ (dw_lstN hg (k := 4) (by decide) hE) rfl rfl (Nat.le_of_ble_eq_true rfl) ⟨Nat.le_of_ble_eq_true rfl, Nat.le_of_ble_eq_true rfl⟩ rfl (fun r hh hp => ?_)
      obtain ⟨rfl, rfl⟩ := hp
      refine r_cast (C := RX1) dX3_entryNumbered_33 (by decide +kernel) (dw_ent hg (by omega)) rfl ?_
      exact kret _ _ _ _ _ (some (a (50 + j))) (Nat.zero_le _) (Nat.zero_le _) dX3_entryNumbered_36 (⟨j, hj, rfl, rfl, rfl⟩)
    · skip
      exact kthr _ _ _ _ _ [] _ (Nat.le_of_ble_eq_true rfl) (Nat.le_of_ble_eq_true rfl) ⟨_, _, _, _, _, kSt_B, rfl, (by decide +kernel), (by decide +kernel), (by decide +kernel : (235, "no such entry") ∈ kStr), gxX3_entryNumbered_B, dX3_entryNumbered_15, dX3_entryNumbered_18, Or.inl ⟨rfl, dX3_entryNumbered_19⟩, dX3_entryNumbered_21, dX3_entryNumbered_24, (by decide), (Nat.le_of_ble_eq_true rfl)⟩ (⟨⟨rfl, fun z => c2 z.2⟩, rfl⟩)

abbrev rmX3_pointsUpTo : Room := { frames := 3, cells := 0, slots := 0, locals := 64 }
theorem hinX3_pointsUpTo_1 : ∀ w ∈ u_ws RX1 TX1 5, w ∈ wsX3_pointsUpTo := by decide +kernel
theorem hinX3_pointsUpTo_3 : ∀ w ∈ u_ws RX3 TX3 15, w ∈ wsX3_pointsUpTo := by decide +kernel
theorem fwX3_pointsUpTo_26 : Cond.fieldLink RX3 26 "Castdesk" "entries" "Ljava/util/ArrayList;" ∈ wsX3_pointsUpTo := by decide +kernel
theorem fwX3_pointsUpTo_163 : Cond.fieldLink RX3 163 "Castdesk$Entry" "struck" "Z" ∈ wsX3_pointsUpTo := by decide +kernel
theorem fwX3_pointsUpTo_167 : Cond.fieldLink RX3 167 "Castdesk$Entry" "points" "I" ∈ wsX3_pointsUpTo := by decide +kernel
theorem fwX3_pointsUpTo_239 : Cond.fieldLink RX3 239 "Castdesk$Entry" "fight" "LCastdesk$Fight;" ∈ wsX3_pointsUpTo := by decide +kernel
theorem fwX3_pointsUpTo_243 : Cond.fieldLink RX3 243 "Castdesk$Entry" "player" "I" ∈ wsX3_pointsUpTo := by decide +kernel
theorem fwX3_pointsUpTo_246 : Cond.fieldLink RX3 246 "Castdesk$Entry" "frame" "I" ∈ wsX3_pointsUpTo := by decide +kernel
set_option maxHeartbeats 4000000 in
set_option maxRecDepth 100000 in
theorem lX3_pointsUpTo_6 {E : kE} {a cap : Nat → Nat} {h0 : kH} (dt : kM)  (nF nC nE w : Nat) (hg : dgeo E a cap nF nC nE h0) (hd : dwf dt nF nC nE w) (o : Nat) (ho : o < nF) (e p : Int32)  {X : kX} (hx : ∀ v : Int32, v = dPts dt e o p nE → V E X rmX3_pointsUpTo cX3_pointsUpTo 7 wsX3_pointsUpTo RX3 0 0 (dw E a cap nF nC nE dt h0) [(5, .int (nI nE)), (4, .int v), (0, .ref (a 15)), (1, .int e), (2, .ref (a (20 + o))), (3, .int p)] 83 [])
    : ∀ (d i : Nat) (v : Int32), nE < i + d → i ≤ nE → (v = dPts dt e o p i) → V E X rmX3_pointsUpTo cX3_pointsUpTo 7 wsX3_pointsUpTo RX3 0 0 (dw E a cap nF nC nE dt h0) [(5, .int (nI i)), (4, .int v), (0, .ref (a 15)), (1, .int e), (2, .ref (a (20 + o))), (3, .int p)] 6 [] := by
  obtain ⟨hF, hF20, hC, hC6, hE, hE80, hW, hW3, hpl, hof, hsp⟩ := id hd
  intro d
  induction d with
  | zero =>
    intro i v h1 h2
    exact absurd h1 (by omega)
  | succ d ih =>
    intro i v h1 h2 e1
    refine r_iload dX3_pointsUpTo_6 0 rfl ?_
    refine r_aload_n dX3_pointsUpTo_8 2 rfl ?_
    refine r_get (C := RX3) (b := .ref (a 4)) dX3_pointsUpTo_9 hinX3_pointsUpTo_3 (dw_obj hg) rfl 4 (by decide) fwX3_pointsUpTo_26 rfl rfl ?_
    refine r_callVi (nn := 0) (As := []) (st := [.int (nI i)]) dX3_pointsUpTo_12 (tJx4a65c_size_8abf5 _ _ _ _ (dw_lstN hg (k := 4) (by decide) hE)) gX3_pointsUpTo_Jx4a65c_size_8abf5 rfl (by decide +kernel) ⟨Nat.le_of_ble_eq_true rfl, Nat.le_of_ble_eq_true rfl⟩ ⟨rfl, rfl⟩ (dw_lstN hg (k := 4) (by decide) hE) rfl rfl (Nat.le_of_ble_eq_true rfl) ⟨Nat.le_of_ble_eq_true rfl, Nat.le_of_ble_eq_true rfl⟩ rfl (fun r hh hp => ?_)
    obtain ⟨rfl, rfl⟩ := hp
    refine rn_icmp_ge (a := i) (c := nE) (tgt := 83) dX3_pointsUpTo_15 (by decide) rfl rfl (by omega) (by omega) (fun c1 => ?_) (fun c1 => ?_)
    · skip
      have hNi : nE = i := by omega
      subst hNi
      exact hx v e1
    · skip
      refine r_aload_n dX3_pointsUpTo_18 2 rfl ?_
      refine r_get (C := RX3) (b := .ref (a 4)) dX3_pointsUpTo_19 hinX3_pointsUpTo_3 (dw_obj hg) rfl 4 (by decide) fwX3_pointsUpTo_26 rfl rfl ?_
      refine r_iload dX3_pointsUpTo_22 0 rfl ?_
      refine r_callVq (nn := 1) (As := [.int (nI i)]) (st := []) dX3_pointsUpTo_24 (tg_4 hg hE (by omega)) gX3_pointsUpTo_Jx4a65c_get_915e3 rfl (by decide +kernel) ⟨Nat.le_of_ble_eq_true rfl, Nat.le_of_ble_eq_true rfl⟩ ⟨rfl, rfl⟩ (dw_lstN hg (k := 4) (by decide) hE) rfl rfl (Nat.le_of_ble_eq_true rfl) ⟨Nat.le_of_ble_eq_true rfl, Nat.le_of_ble_eq_true rfl⟩ rfl (fun r hh hp => ?_)
      obtain ⟨rfl, rfl⟩ := hp
      refine r_cast (C := RX1) dX3_pointsUpTo_27 (by decide +kernel) (dw_ent hg (by omega)) rfl ?_
      refine r_astore (lo' := [(6, .ref (a (50 + i))), (5, .int (nI i)), (4, .int v), (0, .ref (a 15)), (1, .int e), (2, .ref (a (20 + o))), (3, .int p)]) dX3_pointsUpTo_30 (by decide) rfl ?_
      refine r_aload dX3_pointsUpTo_32 0 rfl ?_
      refine r_get (C := RX1) (b := .ref (a (20 + (dt 21 i).toNatClampNeg))) dX3_pointsUpTo_34 hinX3_pointsUpTo_1 (dw_ent hg (by omega)) rfl 0 (by decide) fwX3_pointsUpTo_239 rfl rfl ?_
      refine r_aload_n dX3_pointsUpTo_37 5 rfl ?_
      by_cases c2 : (dt 21 i).toNatClampNeg = o
      · refine r_acmp_ne (tgt := 77) dX3_pointsUpTo_38 (by decide) (fun z => absurd (by rw [c2]) z) (fun _ => ?_)
        refine r_aload dX3_pointsUpTo_41 0 rfl ?_
        refine r_get (C := RX1) (b := .int (dt 22 i)) dX3_pointsUpTo_43 hinX3_pointsUpTo_1 (dw_ent hg (by omega)) rfl 1 (by decide) fwX3_pointsUpTo_243 rfl rfl ?_
        refine r_iload_n dX3_pointsUpTo_46 6 rfl ?_
        refine r_icmp_ne (tgt := 77) dX3_pointsUpTo_47 (by decide) (fun c3 => ?_) (fun c3 => ?_)
        · skip
          refine r_iinc (v := nI (i + 1)) (lo' := [(5, .int (nI (i + 1))), (6, .ref (a (50 + i))), (4, .int v), (0, .ref (a 15)), (1, .int e), (2, .ref (a (20 + o))), (3, .int p)]) dX3_pointsUpTo_77 1 rfl (nI_1 i) (by decide) rfl ?_
          refine r_goto (tgt := 6) dX3_pointsUpTo_80 (by decide) ?_
          refine r_lo (lo' := [(5, .int (nI (i + 1))), (4, .int v), (0, .ref (a 15)), (1, .int e), (2, .ref (a (20 + o))), (3, .int p)]) [0, 2, 3, 4, 5, 6] rfl ?_
          exact ih (i + 1) v (by omega) (by omega) (by first | (simp only [dPts, ← e1, if_pos c2, if_neg c3, if_true]; done) | (simp only [dPts, ← e1]; simp [c1, c2, c3]))
        · skip
          refine r_aload dX3_pointsUpTo_50 0 rfl ?_
          refine r_get (C := RX1) (b := .int (dt 24 i)) dX3_pointsUpTo_52 hinX3_pointsUpTo_1 (dw_ent hg (by omega)) rfl 2 (by decide) fwX3_pointsUpTo_246 rfl rfl ?_
          refine r_iload_n dX3_pointsUpTo_55 4 rfl ?_
          refine r_icmp_gt (tgt := 77) dX3_pointsUpTo_56 (by decide) (fun c4 => ?_) (fun c4 => ?_)
          · skip
            refine r_iinc (v := nI (i + 1)) (lo' := [(5, .int (nI (i + 1))), (6, .ref (a (50 + i))), (4, .int v), (0, .ref (a 15)), (1, .int e), (2, .ref (a (20 + o))), (3, .int p)]) dX3_pointsUpTo_77 1 rfl (nI_1 i) (by decide) rfl ?_
            refine r_goto (tgt := 6) dX3_pointsUpTo_80 (by decide) ?_
            refine r_lo (lo' := [(5, .int (nI (i + 1))), (4, .int v), (0, .ref (a 15)), (1, .int e), (2, .ref (a (20 + o))), (3, .int p)]) [0, 2, 3, 4, 5, 6] rfl ?_
            exact ih (i + 1) v (by omega) (by omega) (by first | (simp only [dPts, ← e1, if_pos c2, if_pos c3, if_pos c4, if_true]; done) | (simp only [dPts, ← e1]; simp [c1, c2, c3, c4]))
          · skip
            refine r_aload dX3_pointsUpTo_59 0 rfl ?_
            refine r_get (C := RX1) (b := .int (dt 25 i)) dX3_pointsUpTo_61 hinX3_pointsUpTo_1 (dw_ent hg (by omega)) rfl 4 (by decide) fwX3_pointsUpTo_163 rfl rfl ?_
            refine r_if_ne (tgt := 77) dX3_pointsUpTo_64 (by decide) (fun c5 => ?_) (fun c5 => ?_)
            · skip
              refine r_iinc (v := nI (i + 1)) (lo' := [(5, .int (nI (i + 1))), (6, .ref (a (50 + i))), (4, .int v), (0, .ref (a 15)), (1, .int e), (2, .ref (a (20 + o))), (3, .int p)]) dX3_pointsUpTo_77 1 rfl (nI_1 i) (by decide) rfl ?_
              refine r_goto (tgt := 6) dX3_pointsUpTo_80 (by decide) ?_
              refine r_lo (lo' := [(5, .int (nI (i + 1))), (4, .int v), (0, .ref (a 15)), (1, .int e), (2, .ref (a (20 + o))), (3, .int p)]) [0, 2, 3, 4, 5, 6] rfl ?_
              exact ih (i + 1) v (by omega) (by omega) (by first | (simp only [dPts, ← e1, if_pos c2, if_pos c3, if_neg c4, if_neg c5, if_true]; done) | (simp only [dPts, ← e1]; simp [c1, c2, c3, c4, c5]))
            · skip
              refine r_iload dX3_pointsUpTo_67 2 rfl ?_
              refine r_aload dX3_pointsUpTo_69 0 rfl ?_
              refine r_get (C := RX1) (b := .int (dt 23 i)) dX3_pointsUpTo_71 hinX3_pointsUpTo_1 (dw_ent hg (by omega)) rfl 3 (by decide) fwX3_pointsUpTo_167 rfl rfl ?_
              refine r_iadd dX3_pointsUpTo_74 ?_
              refine r_istore (lo' := [(4, .int (v + (dt 23 i))), (6, .ref (a (50 + i))), (5, .int (nI i)), (0, .ref (a 15)), (1, .int e), (2, .ref (a (20 + o))), (3, .int p)]) dX3_pointsUpTo_75 (by decide) rfl ?_
              refine r_iinc (v := nI (i + 1)) (lo' := [(5, .int (nI (i + 1))), (4, .int (v + (dt 23 i))), (6, .ref (a (50 + i))), (0, .ref (a 15)), (1, .int e), (2, .ref (a (20 + o))), (3, .int p)]) dX3_pointsUpTo_77 2 rfl (nI_1 i) (by decide) rfl ?_
              refine r_goto (tgt := 6) dX3_pointsUpTo_80 (by decide) ?_
              refine r_lo (lo' := [(5, .int (nI (i + 1))), (4, .int (v + (dt 23 i))), (0, .ref (a 15)), (1, .int e), (2, .ref (a (20 + o))), (3, .int p)]) [0, 1, 3, 4, 5, 6] rfl ?_
              exact ih (i + 1) (v + (dt 23 i)) (by omega) (by omega) (by first | (simp only [dPts, ← e1, if_pos c2, if_pos c3, if_neg c4, if_pos c5, if_true]; done) | (simp only [dPts, ← e1]; simp [c1, c2, c3, c4, c5]))
      · refine r_acmp_ne (tgt := 77) dX3_pointsUpTo_38 (by decide) (fun _ => ?_) (fun z => absurd (fgt_inj hg (vp_lt (hof i (by omega))) ho z) c2)
        refine r_iinc (v := nI (i + 1)) (lo' := [(5, .int (nI (i + 1))), (6, .ref (a (50 + i))), (4, .int v), (0, .ref (a 15)), (1, .int e), (2, .ref (a (20 + o))), (3, .int p)]) dX3_pointsUpTo_77 1 rfl (nI_1 i) (by decide) rfl ?_
        refine r_goto (tgt := 6) dX3_pointsUpTo_80 (by decide) ?_
        refine r_lo (lo' := [(5, .int (nI (i + 1))), (4, .int v), (0, .ref (a 15)), (1, .int e), (2, .ref (a (20 + o))), (3, .int p)]) [0, 2, 3, 4, 5, 6] rfl ?_
        exact ih (i + 1) v (by omega) (by omega) (by first | (simp only [dPts, ← e1, if_neg c2, if_true]; done) | (simp only [dPts, ← e1]; simp [c1, c2]))

set_option maxHeartbeats 4000000 in
set_option maxRecDepth 100000 in
theorem tX3_pointsUpTo {E : kE} {a cap : Nat → Nat} {h0 : kH} (dt : kM)  (nF nC nE w : Nat) (hg : dgeo E a cap nF nC nE h0) (hd : dwf dt nF nC nE w) (o : Nat) (ho : o < nF) (e p : Int32) : kCi E yX3_pointsUpTo wsX3_pointsUpTo rmX3_pointsUpTo 0 0 [.ref (a 15), .int e, .ref (a (20 + o)), .int p] (dw E a cap nF nC nE dt h0) (fun r h' => r = dPts dt e o p nE ∧ h' = dw E a cap nF nC nE dt h0) := by
  obtain ⟨hF, hF20, hC, hC6, hE, hE80, hW, hW3, hpl, hof, hsp⟩ := id hd
  refine kCi_of (rt := .int) (own := RX3) (cc := cX3_pointsUpTo) (maxL := 7) (by decide) rfl rfl (Nat.le_of_ble_eq_true rfl) ?_
  intro X hini kret
  refine r_lo (lo' := [(0, .ref (a 15)), (1, .int e), (2, .ref (a (20 + o))), (3, .int p)]) [0, 1, 2, 3] rfl ?_
  refine r_iconst (v := 0) dX3_pointsUpTo_0 (by decide) ?_
  refine r_istore (lo' := [(4, .int 0), (0, .ref (a 15)), (1, .int e), (2, .ref (a (20 + o))), (3, .int p)]) dX3_pointsUpTo_1 (by decide) rfl ?_
  refine r_iconst (v := 0) dX3_pointsUpTo_3 (by decide) ?_
  refine r_istore (lo' := [(5, .int 0), (4, .int 0), (0, .ref (a 15)), (1, .int e), (2, .ref (a (20 + o))), (3, .int p)]) dX3_pointsUpTo_4 (by decide) rfl ?_
  refine r_lo (lo' := [(5, .int 0), (4, .int 0), (0, .ref (a 15)), (1, .int e), (2, .ref (a (20 + o))), (3, .int p)]) [0, 1, 2, 3, 4, 5] rfl ?_
  refine lX3_pointsUpTo_6 dt nF nC nE w hg hd o ho e p (fun v e1 => ?_) (nE + 1) 0 _ (by omega) (Nat.zero_le _) rfl
  refine r_iload dX3_pointsUpTo_83 1 rfl ?_
  exact kret _ _ _ _ _ _ (Nat.le_refl _) (Nat.le_refl _) dX3_pointsUpTo_85 rfl (⟨e1, rfl⟩)

abbrev rmX3_strikeAllOf : Room := { frames := 3, cells := 0, slots := 0, locals := 64 }
theorem hinX3_strikeAllOf_1 : ∀ w ∈ u_ws RX1 TX1 5, w ∈ wsX3_strikeAllOf := by decide +kernel
theorem hinX3_strikeAllOf_3 : ∀ w ∈ u_ws RX3 TX3 15, w ∈ wsX3_strikeAllOf := by decide +kernel
theorem fwX3_strikeAllOf_26 : Cond.fieldLink RX3 26 "Castdesk" "entries" "Ljava/util/ArrayList;" ∈ wsX3_strikeAllOf := by decide +kernel
theorem fwX3_strikeAllOf_163 : Cond.fieldLink RX3 163 "Castdesk$Entry" "struck" "Z" ∈ wsX3_strikeAllOf := by decide +kernel
theorem fwX3_strikeAllOf_239 : Cond.fieldLink RX3 239 "Castdesk$Entry" "fight" "LCastdesk$Fight;" ∈ wsX3_strikeAllOf := by decide +kernel
set_option maxHeartbeats 4000000 in
set_option maxRecDepth 100000 in
theorem lX3_strikeAllOf_2 {E : kE} {a cap : Nat → Nat} {h0 : kH} (dt : kM)  (nF nC nE w : Nat) (hg : dgeo E a cap nF nC nE h0) (hd : dwf dt nF nC nE w) (o : Nat) (ho : o < nF)  {X : kX} (hx : V E X rmX3_strikeAllOf cX3_strikeAllOf 4 wsX3_strikeAllOf RX3 0 0 (dw E a cap nF nC nE (mf dt 25 (dStr dt o nE)) h0) [(2, .int (nI nE)), (0, .ref (a 15)), (1, .ref (a (20 + o)))] 44 [])
    : ∀ (d i : Nat), nE < i + d → i ≤ nE → V E X rmX3_strikeAllOf cX3_strikeAllOf 4 wsX3_strikeAllOf RX3 0 0 (dw E a cap nF nC nE (mf dt 25 (dStr dt o i)) h0) [(2, .int (nI i)), (0, .ref (a 15)), (1, .ref (a (20 + o)))] 2 [] := by
  obtain ⟨hF, hF20, hC, hC6, hE, hE80, hW, hW3, hpl, hof, hsp⟩ := id hd
  intro d
  induction d with
  | zero =>
    intro i  h1 h2
    exact absurd h1 (by omega)
  | succ d ih =>
    intro i  h1 h2 
    refine r_iload_n dX3_strikeAllOf_2 0 rfl ?_
    refine r_aload_n dX3_strikeAllOf_3 1 rfl ?_
    refine r_get (C := RX3) (b := .ref (a 4)) dX3_strikeAllOf_4 hinX3_strikeAllOf_3 (dw_obj hg) rfl 4 (by decide) fwX3_strikeAllOf_26 rfl rfl ?_
    refine r_callVi (nn := 0) (As := []) (st := [.int (nI i)]) dX3_strikeAllOf_7 (tJx4a65c_size_8abf5 _ _ _ _ (dw_lstN hg (k := 4) (by decide) hE)) gX3_strikeAllOf_Jx4a65c_size_8abf5 rfl (by decide +kernel) ⟨Nat.le_of_ble_eq_true rfl, Nat.le_of_ble_eq_true rfl⟩ ⟨rfl, rfl⟩ (dw_lstN hg (k := 4) (by decide) hE) rfl rfl (Nat.le_of_ble_eq_true rfl) ⟨Nat.le_of_ble_eq_true rfl, Nat.le_of_ble_eq_true rfl⟩ rfl (fun r hh hp => ?_)
    obtain ⟨rfl, rfl⟩ := hp
    refine rn_icmp_ge (a := i) (c := nE) (tgt := 44) dX3_strikeAllOf_10 (by decide) rfl rfl (by omega) (by omega) (fun c1 => ?_) (fun c1 => ?_)
    · skip
      have hNi : nE = i := by omega
      subst hNi
      exact hx
    · skip
      refine r_aload_n dX3_strikeAllOf_13 1 rfl ?_
      refine r_get (C := RX3) (b := .ref (a 4)) dX3_strikeAllOf_14 hinX3_strikeAllOf_3 (dw_obj hg) rfl 4 (by decide) fwX3_strikeAllOf_26 rfl rfl ?_
      refine r_iload_n dX3_strikeAllOf_17 0 rfl ?_
      refine r_callVq (nn := 1) (As := [.int (nI i)]) (st := []) dX3_strikeAllOf_18 (tg_4 hg hE (by omega)) gX3_strikeAllOf_Jx4a65c_get_915e3 rfl (by decide +kernel) ⟨Nat.le_of_ble_eq_true rfl, Nat.le_of_ble_eq_true rfl⟩ ⟨rfl, rfl⟩ (dw_lstN hg (k := 4) (by decide) hE) rfl rfl (Nat.le_of_ble_eq_true rfl) ⟨Nat.le_of_ble_eq_true rfl, Nat.le_of_ble_eq_true rfl⟩ rfl (fun r hh hp => ?_)
      obtain ⟨rfl, rfl⟩ := hp
      refine r_cast (C := RX1) dX3_strikeAllOf_21 (by decide +kernel) (dw_ent hg (by omega)) rfl ?_
      refine r_astore_n (lo' := [(3, .ref (a (50 + i))), (2, .int (nI i)), (0, .ref (a 15)), (1, .ref (a (20 + o)))]) dX3_strikeAllOf_24 (by decide) rfl ?_
      refine r_aload_n dX3_strikeAllOf_25 0 rfl ?_
      refine r_get (C := RX1) (b := .ref (a (20 + (dt 21 i).toNatClampNeg))) dX3_strikeAllOf_26 hinX3_strikeAllOf_1 (dw_ent hg (by omega)) rfl 0 (by decide) fwX3_strikeAllOf_239 rfl rfl ?_
      refine r_aload_n dX3_strikeAllOf_29 3 rfl ?_
      by_cases c2 : (dt 21 i).toNatClampNeg = o
      · refine r_acmp_ne (tgt := 38) dX3_strikeAllOf_30 (by decide) (fun z => absurd (by rw [c2]) z) (fun _ => ?_)
        refine r_aload_n dX3_strikeAllOf_33 0 rfl ?_
        refine r_iconst (v := 1) dX3_strikeAllOf_34 (by decide) ?_
        refine d_putE (ty := .boolean) hg (by omega) hinX3_strikeAllOf_1 4 25 (by decide) dX3_strikeAllOf_35 fwX3_strikeAllOf_163 rfl rfl rfl rfl rfl ?_
        refine r_iinc (v := nI (i + 1)) (lo' := [(2, .int (nI (i + 1))), (3, .ref (a (50 + i))), (0, .ref (a 15)), (1, .ref (a (20 + o)))]) dX3_strikeAllOf_38 1 rfl (nI_1 i) (by decide) rfl ?_
        refine r_goto (tgt := 2) dX3_strikeAllOf_41 (by decide) ?_
        refine r_lo (lo' := [(2, .int (nI (i + 1))), (0, .ref (a 15)), (1, .ref (a (20 + o)))]) [0, 2, 3] rfl ?_
        rw [show (ma (mf dt 25 (dStr dt o i)) 25 i 1) = mf dt 25 (dStr dt o (i + 1)) from (dStr_s c2)]
        exact ih (i + 1) (by omega) (by omega)
      · refine r_acmp_ne (tgt := 38) dX3_strikeAllOf_30 (by decide) (fun _ => ?_) (fun z => absurd (fgt_inj hg (vp_lt (hof i (by omega))) ho z) c2)
        refine r_iinc (v := nI (i + 1)) (lo' := [(2, .int (nI (i + 1))), (3, .ref (a (50 + i))), (0, .ref (a 15)), (1, .ref (a (20 + o)))]) dX3_strikeAllOf_38 1 rfl (nI_1 i) (by decide) rfl ?_
        refine r_goto (tgt := 2) dX3_strikeAllOf_41 (by decide) ?_
        refine r_lo (lo' := [(2, .int (nI (i + 1))), (0, .ref (a 15)), (1, .ref (a (20 + o)))]) [0, 2, 3] rfl ?_
        rw [show (mf dt 25 (dStr dt o i)) = mf dt 25 (dStr dt o (i + 1)) from (dStr_n c2)]
        exact ih (i + 1) (by omega) (by omega)

set_option maxHeartbeats 4000000 in
set_option maxRecDepth 100000 in
theorem tX3_strikeAllOf {E : kE} {a cap : Nat → Nat} {h0 : kH} (dt : kM)  (nF nC nE w : Nat) (hg : dgeo E a cap nF nC nE h0) (hd : dwf dt nF nC nE w) (o : Nat) (ho : o < nF) : kCv E yX3_strikeAllOf wsX3_strikeAllOf rmX3_strikeAllOf 0 0 [.ref (a 15), .ref (a (20 + o))] (dw E a cap nF nC nE dt h0) (fun h' => h' = dw E a cap nF nC nE (mf dt 25 (dStr dt o nE)) h0) := by
  obtain ⟨hF, hF20, hC, hC6, hE, hE80, hW, hW3, hpl, hof, hsp⟩ := id hd
  refine kCv_of (own := RX3) (cc := cX3_strikeAllOf) (maxL := 4) (by decide) rfl rfl (Nat.le_of_ble_eq_true rfl) ?_
  intro X hini kret
  refine r_lo (lo' := [(0, .ref (a 15)), (1, .ref (a (20 + o)))]) [0, 1] rfl ?_
  refine r_iconst (v := 0) dX3_strikeAllOf_0 (by decide) ?_
  refine r_istore_n (lo' := [(2, .int 0), (0, .ref (a 15)), (1, .ref (a (20 + o)))]) dX3_strikeAllOf_1 (by decide) rfl ?_
  refine r_lo (lo' := [(2, .int 0), (0, .ref (a 15)), (1, .ref (a (20 + o)))]) [0, 1, 2] rfl ?_
  rw [← dStr_0 dt o]
  refine lX3_strikeAllOf_2 dt nF nC nE w hg hd o ho ?_ (nE + 1) 0 (by omega) (Nat.zero_le _)
  exact kret _ _ _ _ _ (Nat.le_refl _) (Nat.le_refl _) dX3_strikeAllOf_44 (rfl)

abbrev rmX3_uncountFramesOf : Room := { frames := 0, cells := 0, slots := 0, locals := 0 }
theorem hinX3_uncountFramesOf_2 : ∀ w ∈ u_ws RX2 TX2 7, w ∈ wsX3_uncountFramesOf := by decide +kernel
theorem hinX3_uncountFramesOf_3 : ∀ w ∈ u_ws RX3 TX3 15, w ∈ wsX3_uncountFramesOf := by decide +kernel
theorem fwX3_uncountFramesOf_32 : Cond.fieldLink RX3 32 "Castdesk" "countedFrames" "[I" ∈ wsX3_uncountFramesOf := by decide +kernel
theorem fwX3_uncountFramesOf_45 : Cond.fieldLink RX3 45 "Castdesk" "shownFight" "[I" ∈ wsX3_uncountFramesOf := by decide +kernel
theorem fwX3_uncountFramesOf_51 : Cond.fieldLink RX3 51 "Castdesk" "shownSponsor" "[I" ∈ wsX3_uncountFramesOf := by decide +kernel
theorem fwX3_uncountFramesOf_85 : Cond.fieldLink RX3 85 "Castdesk" "now" "I" ∈ wsX3_uncountFramesOf := by decide +kernel
theorem fwX3_uncountFramesOf_249 : Cond.fieldLink RX3 249 "Castdesk$Fight" "number" "I" ∈ wsX3_uncountFramesOf := by decide +kernel
set_option maxHeartbeats 4000000 in
set_option maxRecDepth 100000 in
theorem lX3_uncountFramesOf_2 {E : kE} {a cap : Nat → Nat} {h0 : kH} (dt : kM)  (nF nC nE w : Nat) (hg : dgeo E a cap nF nC nE h0) (hd : dwf dt nF nC nE w) (o : Nat) (ho : o < nF)  {X : kX} (hx : V E X rmX3_uncountFramesOf cX3_uncountFramesOf 4 wsX3_uncountFramesOf RX3 0 0 (dw E a cap nF nC nE (dUnc dt o w) h0) [(2, .int (nI w)), (0, .ref (a 15)), (1, .ref (a (20 + o)))] 58 [])
    : ∀ (d i : Nat), w < i + d → i ≤ w → V E X rmX3_uncountFramesOf cX3_uncountFramesOf 4 wsX3_uncountFramesOf RX3 0 0 (dw E a cap nF nC nE (dUnc dt o i) h0) [(2, .int (nI i)), (0, .ref (a 15)), (1, .ref (a (20 + o)))] 2 [] := by
  obtain ⟨hF, hF20, hC, hC6, hE, hE80, hW, hW3, hpl, hof, hsp⟩ := id hd
  intro d
  induction d with
  | zero =>
    intro i  h1 h2
    exact absurd h1 (by omega)
  | succ d ih =>
    intro i  h1 h2 
    refine r_iload_n dX3_uncountFramesOf_2 0 rfl ?_
    refine r_aload_n dX3_uncountFramesOf_3 1 rfl ?_
    refine r_get (C := RX3) (b := .int (nI w)) dX3_uncountFramesOf_4 hinX3_uncountFramesOf_3 (dw_obj hg) rfl 9 (by decide) fwX3_uncountFramesOf_85 rfl (by show some (Value.int ((dUnc dt o i) 1 0)) = _; rw [show (dUnc dt o i) 1 0 = nI w from (by rw [dUnc_g dt o i (by decide) (by decide)]; exact hW)]) ?_
    refine rn_icmp_ge (a := i) (c := w) (tgt := 58) dX3_uncountFramesOf_7 (by decide) rfl rfl (by omega) (by omega) (fun c1 => ?_) (fun c1 => ?_)
    · skip
      have hNi : w = i := by omega
      subst hNi
      exact hx
    · skip
      refine r_aload_n dX3_uncountFramesOf_10 1 rfl ?_
      refine r_get (C := RX3) (b := .ref (a 14)) dX3_uncountFramesOf_11 hinX3_uncountFramesOf_3 (dw_obj hg) rfl 14 (by decide) fwX3_uncountFramesOf_51 rfl rfl ?_
      refine r_iload_n dX3_uncountFramesOf_14 0 rfl ?_
      refine d_ald (v := dt 19 i) hg 14 19 i (by decide) rfl dX3_uncountFramesOf_15 rfl (by show _ < 3000; omega) (by decide) (dUnc_19 dt o i i (Nat.le_refl _)) ?_
      refine r_istore_n (lo' := [(3, .int (dt 19 i)), (2, .int (nI i)), (0, .ref (a 15)), (1, .ref (a (20 + o)))]) dX3_uncountFramesOf_16 (by decide) rfl ?_
      refine r_aload_n dX3_uncountFramesOf_17 2 rfl ?_
      refine r_get (C := RX3) (b := .ref (a 12)) dX3_uncountFramesOf_18 hinX3_uncountFramesOf_3 (dw_obj hg) rfl 12 (by decide) fwX3_uncountFramesOf_45 rfl rfl ?_
      refine r_iload_n dX3_uncountFramesOf_21 1 rfl ?_
      refine d_ald (v := dt 17 i) hg 12 17 i (by decide) rfl dX3_uncountFramesOf_22 rfl (by show _ < 3000; omega) (by decide) (by rw [dUnc_g dt o i (by decide) (by decide)]) ?_
      refine r_aload_n dX3_uncountFramesOf_23 3 rfl ?_
      refine r_get (C := RX2) (b := .int (nI o)) dX3_uncountFramesOf_24 hinX3_uncountFramesOf_2 (dw_fgt hg (by omega)) rfl 0 (by decide) fwX3_uncountFramesOf_249 rfl rfl ?_
      refine r_icmp_ne (tgt := 52) dX3_uncountFramesOf_27 (by decide) (fun c2 => ?_) (fun c2 => ?_)
      · skip
        refine r_iinc (v := nI (i + 1)) (lo' := [(2, .int (nI (i + 1))), (3, .int (dt 19 i)), (0, .ref (a 15)), (1, .ref (a (20 + o)))]) dX3_uncountFramesOf_52 1 rfl (nI_1 i) (by decide) rfl ?_
        refine r_goto (tgt := 2) dX3_uncountFramesOf_55 (by decide) ?_
        refine r_lo (lo' := [(2, .int (nI (i + 1))), (0, .ref (a 15)), (1, .ref (a (20 + o)))]) [0, 2, 3] rfl ?_
        rw [show (dUnc dt o i) = dUnc dt o (i + 1) from (by rw [dUnc, if_neg c2])]
        exact ih (i + 1) (by omega) (by omega)
      · skip
        refine r_iload_n dX3_uncountFramesOf_30 0 rfl ?_
        refine r_iconst (v := (-1)) dX3_uncountFramesOf_31 (by decide) ?_
        refine r_icmp_eq (tgt := 52) dX3_uncountFramesOf_32 (by decide) (fun c3 => ?_) (fun c3 => ?_)
        · skip
          refine r_iinc (v := nI (i + 1)) (lo' := [(2, .int (nI (i + 1))), (3, .int (dt 19 i)), (0, .ref (a 15)), (1, .ref (a (20 + o)))]) dX3_uncountFramesOf_52 1 rfl (nI_1 i) (by decide) rfl ?_
          refine r_goto (tgt := 2) dX3_uncountFramesOf_55 (by decide) ?_
          refine r_lo (lo' := [(2, .int (nI (i + 1))), (0, .ref (a 15)), (1, .ref (a (20 + o)))]) [0, 2, 3] rfl ?_
          rw [show (dUnc dt o i) = dUnc dt o (i + 1) from (by rw [dUnc, if_pos c2, if_pos c3])]
          exact ih (i + 1) (by omega) (by omega)
        · skip
          refine r_aload_n dX3_uncountFramesOf_35 2 rfl ?_
          refine r_get (C := RX3) (b := .ref (a 6)) dX3_uncountFramesOf_36 hinX3_uncountFramesOf_3 (dw_obj hg) rfl 6 (by decide) fwX3_uncountFramesOf_32 rfl rfl ?_
          refine r_iload_n dX3_uncountFramesOf_39 0 rfl ?_
          refine r_dup2 dX3_uncountFramesOf_40 rfl rfl ?_
          refine d_aldx (v := (dUnc dt o i) 33 (dt 19 i).toNatClampNeg) hg 6 33 (by decide) rfl dX3_uncountFramesOf_41 ((hsp i (by omega)).resolve_left c3) rfl ?_
          refine r_iconst (v := 1) dX3_uncountFramesOf_42 (by decide) ?_
          refine r_isub dX3_uncountFramesOf_43 ?_
          refine d_astx hg 6 33 (by decide) rfl dX3_uncountFramesOf_44 ((hsp i (by omega)).resolve_left c3) ?_
          refine r_aload_n dX3_uncountFramesOf_45 2 rfl ?_
          refine r_get (C := RX3) (b := .ref (a 14)) dX3_uncountFramesOf_46 hinX3_uncountFramesOf_3 (dw_obj hg) rfl 14 (by decide) fwX3_uncountFramesOf_51 rfl rfl ?_
          refine r_iload_n dX3_uncountFramesOf_49 1 rfl ?_
          refine r_iconst (v := (-1)) dX3_uncountFramesOf_50 (by decide) ?_
          refine d_ast hg 14 19 i (by decide) rfl dX3_uncountFramesOf_51 rfl (by show _ < 3000; omega) (by decide) ?_
          refine r_iinc (v := nI (i + 1)) (lo' := [(2, .int (nI (i + 1))), (3, .int (dt 19 i)), (0, .ref (a 15)), (1, .ref (a (20 + o)))]) dX3_uncountFramesOf_52 1 rfl (nI_1 i) (by decide) rfl ?_
          refine r_goto (tgt := 2) dX3_uncountFramesOf_55 (by decide) ?_
          refine r_lo (lo' := [(2, .int (nI (i + 1))), (0, .ref (a 15)), (1, .ref (a (20 + o)))]) [0, 2, 3] rfl ?_
          rw [show (ma (ma (dUnc dt o i) 33 ((dt 19 i).toNatClampNeg) (((dUnc dt o i) 33 (dt 19 i).toNatClampNeg) - 1)) 19 i (-1)) = dUnc dt o (i + 1) from (by rw [dUnc, if_pos c2, if_neg c3])]
          exact ih (i + 1) (by omega) (by omega)

set_option maxHeartbeats 4000000 in
set_option maxRecDepth 100000 in
theorem tX3_uncountFramesOf {E : kE} {a cap : Nat → Nat} {h0 : kH} (dt : kM)  (nF nC nE w : Nat) (hg : dgeo E a cap nF nC nE h0) (hd : dwf dt nF nC nE w) (o : Nat) (ho : o < nF) : kCv E yX3_uncountFramesOf wsX3_uncountFramesOf rmX3_uncountFramesOf 0 0 [.ref (a 15), .ref (a (20 + o))] (dw E a cap nF nC nE dt h0) (fun h' => h' = dw E a cap nF nC nE (dUnc dt o w) h0) := by
  obtain ⟨hF, hF20, hC, hC6, hE, hE80, hW, hW3, hpl, hof, hsp⟩ := id hd
  refine kCv_of (own := RX3) (cc := cX3_uncountFramesOf) (maxL := 4) (by decide) rfl rfl (Nat.le_of_ble_eq_true rfl) ?_
  intro X hini kret
  refine r_lo (lo' := [(0, .ref (a 15)), (1, .ref (a (20 + o)))]) [0, 1] rfl ?_
  refine r_iconst (v := 0) dX3_uncountFramesOf_0 (by decide) ?_
  refine r_istore_n (lo' := [(2, .int 0), (0, .ref (a 15)), (1, .ref (a (20 + o)))]) dX3_uncountFramesOf_1 (by decide) rfl ?_
  refine r_lo (lo' := [(2, .int 0), (0, .ref (a 15)), (1, .ref (a (20 + o)))]) [0, 1, 2] rfl ?_
  refine lX3_uncountFramesOf_2 dt nF nC nE w hg hd o ho ?_ (w + 1) 0 (by omega) (Nat.zero_le _)
  exact kret _ _ _ _ _ (Nat.le_refl _) (Nat.le_refl _) dX3_uncountFramesOf_58 (rfl)

abbrev rmX3_placeOf : Room := { frames := 0, cells := 0, slots := 0, locals := 0 }
theorem hinX3_placeOf_3 : ∀ w ∈ u_ws RX3 TX3 15, w ∈ wsX3_placeOf := by decide +kernel
theorem fwX3_placeOf_13 : Cond.fieldLink RX3 13 "Castdesk" "wins" "[I" ∈ wsX3_placeOf := by decide +kernel
set_option maxHeartbeats 4000000 in
set_option maxRecDepth 100000 in
theorem lX3_placeOf_4 {E : kE} {a cap : Nat → Nat} {h0 : kH} (dt : kM)  (nF nC nE w : Nat) (hg : dgeo E a cap nF nC nE h0) (hd : dwf dt nF nC nE w) (x : Nat) (hx10 : x < 10)  {X : kX} (hx : ∀ v : Int32, v = dPla dt x 10 → V E X rmX3_placeOf cX3_placeOf 4 wsX3_placeOf RX3 0 0 (dw E a cap nF nC nE dt h0) [(3, .int (nI 10)), (2, .int v), (0, .ref (a 15)), (1, .int (nI x))] 54 [])
    : ∀ (d i : Nat) (v : Int32), 10 < i + d → i ≤ 10 → (v = dPla dt x i) → V E X rmX3_placeOf cX3_placeOf 4 wsX3_placeOf RX3 0 0 (dw E a cap nF nC nE dt h0) [(3, .int (nI i)), (2, .int v), (0, .ref (a 15)), (1, .int (nI x))] 4 [] := by
  obtain ⟨hF, hF20, hC, hC6, hE, hE80, hW, hW3, hpl, hof, hsp⟩ := id hd
  intro d
  induction d with
  | zero =>
    intro i v h1 h2
    exact absurd h1 (by omega)
  | succ d ih =>
    intro i v h1 h2 e1
    refine r_iload_n dX3_placeOf_4 0 rfl ?_
    refine r_bipush (v := 10) dX3_placeOf_5 (by decide) ?_
    refine rn_icmp_ge (a := i) (c := 10) (tgt := 54) dX3_placeOf_7 (by decide) rfl rfl (by omega) (by omega) (fun c1 => ?_) (fun c1 => ?_)
    · skip
      have hNi : 10 = i := by omega
      subst hNi
      exact hx v e1
    · skip
      refine r_aload_n dX3_placeOf_10 2 rfl ?_
      refine r_get (C := RX3) (b := .ref (a 1)) dX3_placeOf_11 hinX3_placeOf_3 (dw_obj hg) rfl 1 (by decide) fwX3_placeOf_13 rfl rfl ?_
      refine r_iload_n dX3_placeOf_14 0 rfl ?_
      refine d_ald (v := dt 30 i) hg 1 30 i (by decide) rfl dX3_placeOf_15 rfl (by show _ < 10; omega) (by decide) rfl ?_
      refine r_aload_n dX3_placeOf_16 2 rfl ?_
      refine r_get (C := RX3) (b := .ref (a 1)) dX3_placeOf_17 hinX3_placeOf_3 (dw_obj hg) rfl 1 (by decide) fwX3_placeOf_13 rfl rfl ?_
      refine r_iload_n dX3_placeOf_20 3 rfl ?_
      refine d_ald (v := dt 30 x) hg 1 30 x (by decide) rfl dX3_placeOf_21 rfl (by show _ < 10; omega) (by decide) rfl ?_
      refine r_icmp_gt (tgt := 45) dX3_placeOf_22 (by decide) (fun c2 => ?_) (fun c2 => ?_)
      · skip
        refine r_iinc (v := v + 1) (lo' := [(2, .int (v + 1)), (3, .int (nI i)), (0, .ref (a 15)), (1, .int (nI x))]) dX3_placeOf_45 1 rfl rfl (by decide) rfl ?_
        refine r_iinc (v := nI (i + 1)) (lo' := [(3, .int (nI (i + 1))), (2, .int (v + 1)), (0, .ref (a 15)), (1, .int (nI x))]) dX3_placeOf_48 1 rfl (nI_1 i) (by decide) rfl ?_
        refine r_goto (tgt := 4) dX3_placeOf_51 (by decide) ?_
        refine r_lo (lo' := [(3, .int (nI (i + 1))), (2, .int (v + 1)), (0, .ref (a 15)), (1, .int (nI x))]) [0, 1, 2, 3] rfl ?_
        exact ih (i + 1) (v + 1) (by omega) (by omega) (by first | (simp only [dPla, ← e1, if_pos c2, if_true]; done) | (simp only [dPla, ← e1]; simp [c1, c2]))
      · skip
        refine r_aload_n dX3_placeOf_25 2 rfl ?_
        refine r_get (C := RX3) (b := .ref (a 1)) dX3_placeOf_26 hinX3_placeOf_3 (dw_obj hg) rfl 1 (by decide) fwX3_placeOf_13 rfl rfl ?_
        refine r_iload_n dX3_placeOf_29 0 rfl ?_
        refine d_ald (v := dt 30 i) hg 1 30 i (by decide) rfl dX3_placeOf_30 rfl (by show _ < 10; omega) (by decide) rfl ?_
        refine r_aload_n dX3_placeOf_31 2 rfl ?_
        refine r_get (C := RX3) (b := .ref (a 1)) dX3_placeOf_32 hinX3_placeOf_3 (dw_obj hg) rfl 1 (by decide) fwX3_placeOf_13 rfl rfl ?_
        refine r_iload_n dX3_placeOf_35 3 rfl ?_
        refine d_ald (v := dt 30 x) hg 1 30 x (by decide) rfl dX3_placeOf_36 rfl (by show _ < 10; omega) (by decide) rfl ?_
        refine r_icmp_ne (tgt := 48) dX3_placeOf_37 (by decide) (fun c3 => ?_) (fun c3 => ?_)
        · skip
          refine r_iinc (v := nI (i + 1)) (lo' := [(3, .int (nI (i + 1))), (2, .int v), (0, .ref (a 15)), (1, .int (nI x))]) dX3_placeOf_48 0 rfl (nI_1 i) (by decide) rfl ?_
          refine r_goto (tgt := 4) dX3_placeOf_51 (by decide) ?_
          refine r_lo (lo' := [(3, .int (nI (i + 1))), (2, .int v), (0, .ref (a 15)), (1, .int (nI x))]) [0, 1, 2, 3] rfl ?_
          exact ih (i + 1) v (by omega) (by omega) (by first | (simp only [dPla, ← e1, if_neg c2, if_neg c3, if_true]; done) | (simp only [dPla, ← e1]; simp [c1, c2, c3]))
        · skip
          refine r_iload_n dX3_placeOf_40 0 rfl ?_
          refine r_iload_n dX3_placeOf_41 3 rfl ?_
          refine r_icmp_ge (tgt := 48) dX3_placeOf_42 (by decide) (fun c4 => ?_) (fun c4 => ?_)
          · skip
            refine r_iinc (v := nI (i + 1)) (lo' := [(3, .int (nI (i + 1))), (2, .int v), (0, .ref (a 15)), (1, .int (nI x))]) dX3_placeOf_48 0 rfl (nI_1 i) (by decide) rfl ?_
            refine r_goto (tgt := 4) dX3_placeOf_51 (by decide) ?_
            refine r_lo (lo' := [(3, .int (nI (i + 1))), (2, .int v), (0, .ref (a 15)), (1, .int (nI x))]) [0, 1, 2, 3] rfl ?_
            exact ih (i + 1) v (by omega) (by omega) (by first | (simp only [dPla, ← e1, if_neg c2, if_pos c3, if_neg c4, if_true]; done) | (simp only [dPla, ← e1]; simp [c1, c2, c3, c4]))
          · skip
            refine r_iinc (v := v + 1) (lo' := [(2, .int (v + 1)), (3, .int (nI i)), (0, .ref (a 15)), (1, .int (nI x))]) dX3_placeOf_45 1 rfl rfl (by decide) rfl ?_
            refine r_iinc (v := nI (i + 1)) (lo' := [(3, .int (nI (i + 1))), (2, .int (v + 1)), (0, .ref (a 15)), (1, .int (nI x))]) dX3_placeOf_48 1 rfl (nI_1 i) (by decide) rfl ?_
            refine r_goto (tgt := 4) dX3_placeOf_51 (by decide) ?_
            refine r_lo (lo' := [(3, .int (nI (i + 1))), (2, .int (v + 1)), (0, .ref (a 15)), (1, .int (nI x))]) [0, 1, 2, 3] rfl ?_
            exact ih (i + 1) (v + 1) (by omega) (by omega) (by first | (simp only [dPla, ← e1, if_neg c2, if_pos c3, if_pos c4, if_true]; done) | (simp only [dPla, ← e1]; simp [c1, c2, c3, c4]))

set_option maxHeartbeats 4000000 in
set_option maxRecDepth 100000 in
theorem tX3_placeOf {E : kE} {a cap : Nat → Nat} {h0 : kH} (dt : kM)  (nF nC nE w : Nat) (hg : dgeo E a cap nF nC nE h0) (hd : dwf dt nF nC nE w) (x : Nat) (hx10 : x < 10) : kCi E yX3_placeOf wsX3_placeOf rmX3_placeOf 0 0 [.ref (a 15), .int (nI x)] (dw E a cap nF nC nE dt h0) (fun r h' => r = dPla dt x 10 ∧ h' = dw E a cap nF nC nE dt h0) := by
  obtain ⟨hF, hF20, hC, hC6, hE, hE80, hW, hW3, hpl, hof, hsp⟩ := id hd
  refine kCi_of (rt := .int) (own := RX3) (cc := cX3_placeOf) (maxL := 4) (by decide) rfl rfl (Nat.le_of_ble_eq_true rfl) ?_
  intro X hini kret
  refine r_lo (lo' := [(0, .ref (a 15)), (1, .int (nI x))]) [0, 1] rfl ?_
  refine r_iconst (v := 0) dX3_placeOf_0 (by decide) ?_
  refine r_istore_n (lo' := [(2, .int 0), (0, .ref (a 15)), (1, .int (nI x))]) dX3_placeOf_1 (by decide) rfl ?_
  refine r_iconst (v := 0) dX3_placeOf_2 (by decide) ?_
  refine r_istore_n (lo' := [(3, .int 0), (2, .int 0), (0, .ref (a 15)), (1, .int (nI x))]) dX3_placeOf_3 (by decide) rfl ?_
  refine r_lo (lo' := [(3, .int 0), (2, .int 0), (0, .ref (a 15)), (1, .int (nI x))]) [0, 1, 2, 3] rfl ?_
  refine lX3_placeOf_4 dt nF nC nE w hg hd x hx10 (fun v e1 => ?_) (10 + 1) 0 _ (by omega) (Nat.zero_le _) rfl
  refine r_iload_n dX3_placeOf_54 1 rfl ?_
  exact kret _ _ _ _ _ _ (Nat.le_refl _) (Nat.le_refl _) dX3_placeOf_55 rfl (⟨e1, rfl⟩)

abbrev rmX3_checkCanBegin : Room := { frames := 6, cells := 1, slots := 6, locals := 90 }
theorem hinX3_checkCanBegin_2 : ∀ w ∈ u_ws RX2 TX2 7, w ∈ wsX3_checkCanBegin := by decide +kernel
theorem hinX3_checkCanBegin_3 : ∀ w ∈ u_ws RX3 TX3 15, w ∈ wsX3_checkCanBegin := by decide +kernel
theorem fwX3_checkCanBegin_19 : Cond.fieldLink RX3 19 "Castdesk" "fights" "Ljava/util/ArrayList;" ∈ wsX3_checkCanBegin := by decide +kernel
theorem fwX3_checkCanBegin_100 : Cond.fieldLink RX3 100 "Castdesk$Fight" "state" "I" ∈ wsX3_checkCanBegin := by decide +kernel
theorem gxX3_checkCanBegin_S : ∀ w ∈ (vx_atS RX3 110 kIS kNm).filter goodWord, w ∈ wsX3_checkCanBegin := by decide +kernel
set_option maxHeartbeats 4000000 in
set_option maxRecDepth 100000 in
theorem lX3_checkCanBegin_24 {E : kE} {a cap : Nat → Nat} {h0 : kH} (dt : kM)  (nF nC nE w : Nat) (hg : dgeo E a cap nF nC nE h0) (hd : dwf dt nF nC nE w) (x y : Int32) (cs : nF < 20) {X : kX} (kthr : ∀ (k n : Nat) (h' : kH) (lo : List (Nat × Value)) (pc : Nat) (st : List Value) (cls : String), k + 1 ≤ rmX3_checkCanBegin.cells → n + 6 ≤ rmX3_checkCanBegin.slots → kSite cX3_checkCanBegin wsX3_checkCanBegin RX3 rmX3_checkCanBegin pc st cls → (fun Ec h' => (Ec = kIS ∧ (¬ nF < 20 ∨ dBusy dt x y nF)) ∧ h' = dw E a cap nF nC nE dt h0) cls h' → V E X rmX3_checkCanBegin cX3_checkCanBegin 5 wsX3_checkCanBegin RX3 k n h' lo pc st) (hx : ¬ dBusy dt x y nF → V E X rmX3_checkCanBegin cX3_checkCanBegin 5 wsX3_checkCanBegin RX3 0 0 (dw E a cap nF nC nE dt h0) [(3, .int (nI nF)), (0, .ref (a 15)), (1, .int x), (2, .int y)] 90 [])
    : ∀ (d i : Nat), nF < i + d → i ≤ nF → (¬ dBusy dt x y i) → V E X rmX3_checkCanBegin cX3_checkCanBegin 5 wsX3_checkCanBegin RX3 0 0 (dw E a cap nF nC nE dt h0) [(3, .int (nI i)), (0, .ref (a 15)), (1, .int x), (2, .int y)] 24 [] := by
  obtain ⟨hF, hF20, hC, hC6, hE, hE80, hW, hW3, hpl, hof, hsp⟩ := id hd
  intro d
  induction d with
  | zero =>
    intro i  h1 h2
    exact absurd h1 (by omega)
  | succ d ih =>
    intro i  h1 h2 e1
    refine r_iload_n dX3_checkCanBegin_24 0 rfl ?_
    refine r_aload_n dX3_checkCanBegin_25 1 rfl ?_
    refine r_get (C := RX3) (b := .ref (a 2)) dX3_checkCanBegin_26 hinX3_checkCanBegin_3 (dw_obj hg) rfl 2 (by decide) fwX3_checkCanBegin_19 rfl rfl ?_
    refine r_callVi (nn := 0) (As := []) (st := [.int (nI i)]) dX3_checkCanBegin_29 (tJx4a65c_size_8abf5 _ _ _ _ (dw_lstN hg (k := 2) (by decide) hF)) gX3_checkCanBegin_Jx4a65c_size_8abf5 rfl (by decide +kernel) ⟨Nat.le_of_ble_eq_true rfl, Nat.le_of_ble_eq_true rfl⟩ ⟨rfl, rfl⟩ (dw_lstN hg (k := 2) (by decide) hF) rfl rfl (Nat.le_of_ble_eq_true rfl) ⟨Nat.le_of_ble_eq_true rfl, Nat.le_of_ble_eq_true rfl⟩ rfl (fun r hh hp => ?_)
    obtain ⟨rfl, rfl⟩ := hp
    refine rn_icmp_ge (a := i) (c := nF) (tgt := 90) dX3_checkCanBegin_32 (by decide) rfl rfl (by omega) (by omega) (fun c1 => ?_) (fun c1 => ?_)
    · skip
      have hNi : nF = i := by omega
      subst hNi
      exact hx e1
    · skip
      refine r_aload_n dX3_checkCanBegin_35 1 rfl ?_
      refine r_get (C := RX3) (b := .ref (a 2)) dX3_checkCanBegin_36 hinX3_checkCanBegin_3 (dw_obj hg) rfl 2 (by decide) fwX3_checkCanBegin_19 rfl rfl ?_
      refine r_iload_n dX3_checkCanBegin_39 0 rfl ?_
      refine r_callVq (nn := 1) (As := [.int (nI i)]) (st := []) dX3_checkCanBegin_40 (tg_2 hg hF (by omega)) gX3_checkCanBegin_Jx4a65c_get_915e3 rfl (by decide +kernel) ⟨Nat.le_of_ble_eq_true rfl, Nat.le_of_ble_eq_true rfl⟩ ⟨rfl, rfl⟩ (dw_lstN hg (k := 2) (by decide) hF) rfl rfl (Nat.le_of_ble_eq_true rfl) ⟨Nat.le_of_ble_eq_true rfl, Nat.le_of_ble_eq_true rfl⟩ rfl (fun r hh hp => ?_)
      obtain ⟨rfl, rfl⟩ := hp
      refine r_cast (C := RX2) dX3_checkCanBegin_43 (by decide +kernel) (dw_fgt hg (by omega)) rfl ?_
      refine r_astore (lo' := [(4, .ref (a (20 + i))), (3, .int (nI i)), (0, .ref (a 15)), (1, .int x), (2, .int y)]) dX3_checkCanBegin_46 (by decide) rfl ?_
      refine r_aload dX3_checkCanBegin_48 0 rfl ?_
      refine r_get (C := RX2) (b := .int (dt 6 i)) dX3_checkCanBegin_50 hinX3_checkCanBegin_2 (dw_fgt hg (by omega)) rfl 3 (by decide) fwX3_checkCanBegin_100 rfl rfl ?_
      refine r_if_ne (tgt := 84) dX3_checkCanBegin_53 (by decide) (fun c2 => ?_) (fun c2 => ?_)
      · skip
        refine r_iinc (v := nI (i + 1)) (lo' := [(3, .int (nI (i + 1))), (4, .ref (a (20 + i))), (0, .ref (a 15)), (1, .int x), (2, .int y)]) dX3_checkCanBegin_84 1 rfl (nI_1 i) (by decide) rfl ?_
        refine r_goto (tgt := 24) dX3_checkCanBegin_87 (by decide) ?_
        refine r_lo (lo' := [(3, .int (nI (i + 1))), (0, .ref (a 15)), (1, .int x), (2, .int y)]) [0, 2, 3, 4] rfl ?_
        exact ih (i + 1) (by omega) (by omega) (dBusy_s e1 (fun z => c2 z.1))
      · skip
        refine r_aload dX3_checkCanBegin_56 0 rfl ?_
        refine r_iload_n dX3_checkCanBegin_58 3 rfl ?_
        refine r_callVi (nn := 1) (As := [.int x]) (st := []) dX3_checkCanBegin_59 (tX2_isOf dt nF nC nE w hg hd i (by omega) x) gX3_checkCanBegin_X2_isOf rfl (by decide +kernel) ⟨Nat.le_of_ble_eq_true rfl, Nat.le_of_ble_eq_true rfl⟩ ⟨rfl, rfl⟩ (dw_fgt hg (by omega)) rfl rfl (Nat.le_of_ble_eq_true rfl) ⟨Nat.le_of_ble_eq_true rfl, Nat.le_of_ble_eq_true rfl⟩ rfl (fun r hh hp => ?_)
        obtain ⟨rfl, rfl⟩ := hp
        refine r_if_ne (tgt := 74) dX3_checkCanBegin_62 (by decide) (fun c3 => ?_) (fun c3 => ?_)
        · skip
          exact kthr _ _ _ _ _ [] _ (Nat.le_of_ble_eq_true rfl) (Nat.le_of_ble_eq_true rfl) ⟨_, _, _, _, _, kSt_S, rfl, (by decide +kernel), (by decide +kernel), (by decide +kernel : (231, "one of both is in a fight that goes on") ∈ kStr), gxX3_checkCanBegin_S, dX3_checkCanBegin_74, dX3_checkCanBegin_77, Or.inl ⟨rfl, dX3_checkCanBegin_78⟩, dX3_checkCanBegin_80, dX3_checkCanBegin_83, (by decide), (Nat.le_of_ble_eq_true rfl)⟩ (⟨⟨rfl, Or.inr ⟨i, by omega, c2, Or.inl (dIsOf_n c3)⟩⟩, rfl⟩)
        · skip
          refine r_aload dX3_checkCanBegin_65 0 rfl ?_
          refine r_iload_n dX3_checkCanBegin_67 4 rfl ?_
          refine r_callVi (nn := 1) (As := [.int y]) (st := []) dX3_checkCanBegin_68 (tX2_isOf dt nF nC nE w hg hd i (by omega) y) gX3_checkCanBegin_X2_isOf rfl (by decide +kernel) ⟨Nat.le_of_ble_eq_true rfl, Nat.le_of_ble_eq_true rfl⟩ ⟨rfl, rfl⟩ (dw_fgt hg (by omega)) rfl rfl (Nat.le_of_ble_eq_true rfl) ⟨Nat.le_of_ble_eq_true rfl, Nat.le_of_ble_eq_true rfl⟩ rfl (fun r hh hp => ?_)
          obtain ⟨rfl, rfl⟩ := hp
          refine r_if_eq (tgt := 84) dX3_checkCanBegin_71 (by decide) (fun c4 => ?_) (fun c4 => ?_)
          · skip
            refine r_iinc (v := nI (i + 1)) (lo' := [(3, .int (nI (i + 1))), (4, .ref (a (20 + i))), (0, .ref (a 15)), (1, .int x), (2, .int y)]) dX3_checkCanBegin_84 1 rfl (nI_1 i) (by decide) rfl ?_
            refine r_goto (tgt := 24) dX3_checkCanBegin_87 (by decide) ?_
            refine r_lo (lo' := [(3, .int (nI (i + 1))), (0, .ref (a 15)), (1, .int x), (2, .int y)]) [0, 2, 3, 4] rfl ?_
            exact ih (i + 1) (by omega) (by omega) (dBusy_s e1 (fun z => z.2.elim (fun q => absurd (q.symm.trans c3) (by decide)) (fun q => absurd (q.symm.trans c4) (by decide))))
          · skip
            exact kthr _ _ _ _ _ [] _ (Nat.le_of_ble_eq_true rfl) (Nat.le_of_ble_eq_true rfl) ⟨_, _, _, _, _, kSt_S, rfl, (by decide +kernel), (by decide +kernel), (by decide +kernel : (231, "one of both is in a fight that goes on") ∈ kStr), gxX3_checkCanBegin_S, dX3_checkCanBegin_74, dX3_checkCanBegin_77, Or.inl ⟨rfl, dX3_checkCanBegin_78⟩, dX3_checkCanBegin_80, dX3_checkCanBegin_83, (by decide), (Nat.le_of_ble_eq_true rfl)⟩ (⟨⟨rfl, Or.inr ⟨i, by omega, c2, Or.inr (dIsOf_n c4)⟩⟩, rfl⟩)

set_option maxHeartbeats 4000000 in
set_option maxRecDepth 100000 in
theorem tX3_checkCanBegin {E : kE} {a cap : Nat → Nat} {h0 : kH} (dt : kM)  (nF nC nE w : Nat) (hg : dgeo E a cap nF nC nE h0) (hd : dwf dt nF nC nE w) (x y : Int32) : kXv E yX3_checkCanBegin wsX3_checkCanBegin rmX3_checkCanBegin 1 6 [.ref (a 15), .int x, .int y] (dw E a cap nF nC nE dt h0) (fun Ec h' => (Ec = kIS ∧ (¬ nF < 20 ∨ dBusy dt x y nF)) ∧ h' = dw E a cap nF nC nE dt h0) (fun h' => (nF < 20 ∧ ¬ dBusy dt x y nF) ∧ h' = dw E a cap nF nC nE dt h0) := by
  obtain ⟨hF, hF20, hC, hC6, hE, hE80, hW, hW3, hpl, hof, hsp⟩ := id hd
  refine kXv_of (own := RX3) (cc := cX3_checkCanBegin) (maxL := 5) (by decide) rfl rfl ⟨rfl, rfl⟩ (Nat.le_of_ble_eq_true rfl) ?_
  intro X kret kthr kout
  refine r_lo (lo' := [(0, .ref (a 15)), (1, .int x), (2, .int y)]) [0, 1, 2] rfl ?_
  refine r_aload_n dX3_checkCanBegin_0 0 rfl ?_
  refine r_get (C := RX3) (b := .ref (a 2)) dX3_checkCanBegin_1 hinX3_checkCanBegin_3 (dw_obj hg) rfl 2 (by decide) fwX3_checkCanBegin_19 rfl rfl ?_
  refine r_callVi (nn := 0) (As := []) (st := []) dX3_checkCanBegin_4 (tJx4a65c_size_8abf5 _ _ _ _ (dw_lstN hg (k := 2) (by decide) hF)) gX3_checkCanBegin_Jx4a65c_size_8abf5 rfl (by decide +kernel) ⟨Nat.le_of_ble_eq_true rfl, Nat.le_of_ble_eq_true rfl⟩ ⟨rfl, rfl⟩ (dw_lstN hg (k := 2) (by decide) hF) rfl rfl (Nat.le_of_ble_eq_true rfl) ⟨Nat.le_of_ble_eq_true rfl, Nat.le_of_ble_eq_true rfl⟩ rfl (fun r hh hp => ?_)
  obtain ⟨rfl, rfl⟩ := hp
  refine r_bipush (v := 20) dX3_checkCanBegin_7 (by decide) ?_
  refine rn_icmp_lt (a := nF) (c := 20) (tgt := 22) dX3_checkCanBegin_9 (by decide) rfl rfl (by omega) (by omega) (fun c1 => ?_) (fun c1 => ?_)
  · skip
    refine r_iconst (v := 0) dX3_checkCanBegin_22 (by decide) ?_
    refine r_istore_n (lo' := [(3, .int 0), (0, .ref (a 15)), (1, .int x), (2, .int y)]) dX3_checkCanBegin_23 (by decide) rfl ?_
    refine r_lo (lo' := [(3, .int (nI 0)), (0, .ref (a 15)), (1, .int x), (2, .int y)]) [0, 1, 2, 3] rfl ?_
    refine lX3_checkCanBegin_24 dt nF nC nE w hg hd x y c1 kthr (fun e1 => ?_) (nF + 1) 0 (by omega) (Nat.zero_le _) (fun z => by obtain ⟨k, hk, _⟩ := z; exact absurd hk (Nat.not_lt_zero _))
    exact kret _ _ _ _ _ (Nat.zero_le _) (Nat.zero_le _) dX3_checkCanBegin_90 (⟨⟨c1, e1⟩, rfl⟩)
  · skip
    exact kthr _ _ _ _ _ [] _ (Nat.le_of_ble_eq_true rfl) (Nat.le_of_ble_eq_true rfl) ⟨_, _, _, _, _, kSt_S, rfl, (by decide +kernel), (by decide +kernel), (by decide +kernel : (229, "there are 20 fights") ∈ kStr), gxX3_checkCanBegin_S, dX3_checkCanBegin_12, dX3_checkCanBegin_15, Or.inl ⟨rfl, dX3_checkCanBegin_16⟩, dX3_checkCanBegin_18, dX3_checkCanBegin_21, (by decide), (Nat.le_of_ble_eq_true rfl)⟩ (⟨⟨rfl, Or.inl (by omega)⟩, rfl⟩)

