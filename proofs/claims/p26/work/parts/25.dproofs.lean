theorem r_ldc_w {E : kE} {X : kX} {R : Room} {cc : ByteArray} {nL : Nat} {Ts : List Cond} {own : String} {k n : Nat} {h : kH} {lo : List (Nat × Value)} {pc : Nat} {st : List Value} {v : Int32} {i : Nat} (hd0 : decode cc pc = .ok (.ldc_w i, 3)) (hw : Cond.constant own i v ∈ Ts) (kk : V E X R cc nL Ts own k n h lo (pc + 3) (.int v :: st)) : V E X R cc nL Ts own k n h lo pc (st) := by
  obtain ⟨⟨p, l, e, s, m, args, below, meth, c⟩, Q, A, tb⟩ := X
  intro S hk hA hE H locs ls hW hd hS hs
  exact lv_ldcw S.1 S.2.1 S.2.2.2.1 (S.2.2.2.2 _ hw) hd0 (kk S hk hA hE H locs ls hW hd hS hs)
theorem vp_lt {x : Int32} {n : Nat} (h : vp_in x n) : x.toNatClampNeg < n := by
  have h0 : ¬ (x < 0 ∨ n ≤ x.toNatClampNeg) := h
  by_cases c : x.toNatClampNeg < n
  · exact c
  · exact absurd (Or.inr (by omega)) h0
abbrev rmJ6_bitCount_0f7a4 : Room := { frames := 0, cells := 0, slots := 0, locals := 0 }
set_option maxHeartbeats 4000000 in
set_option maxRecDepth 100000 in
theorem tJ6_bitCount_0f7a4 {E : kE} {h : kH}  (x : Int32) : kCi E yJ6_bitCount_0f7a4 wsJ6_bitCount_0f7a4 rmJ6_bitCount_0f7a4 0 0 [.int x] (h) (fun r h' => r = bitc x ∧ h' = h) := by
  refine kCi_of (rt := .int) (own := RJ6) (cc := cJ6_bitCount_0f7a4) (maxL := 1) (by decide) rfl rfl (Nat.le_of_ble_eq_true rfl) ?_
  intro X hini kret
  refine r_lo (lo' := [(0, .int x)]) [0] rfl ?_
  refine r_iload_n dJ6_bitCount_0f7a4_0 0 rfl ?_
  refine r_iload_n dJ6_bitCount_0f7a4_1 0 rfl ?_
  refine r_iconst (v := 1) dJ6_bitCount_0f7a4_2 (by decide) ?_
  refine r_iushr dJ6_bitCount_0f7a4_3 ?_
  refine r_ldc_w (v := 1431655765) dJ6_bitCount_0f7a4_4 (by decide +kernel) ?_
  refine r_iand dJ6_bitCount_0f7a4_7 ?_
  refine r_isub dJ6_bitCount_0f7a4_8 ?_
  rw [show x - (((x.toUInt32 >>> ((1 : Int32).toUInt32 &&& Int32.toUInt32 31)).toInt32) &&& 1431655765) = bc1 x from rfl]
  refine r_istore_n (lo' := [(0, .int (bc1 x))]) dJ6_bitCount_0f7a4_9 (by decide) rfl ?_
  refine r_iload_n dJ6_bitCount_0f7a4_10 0 rfl ?_
  refine r_ldc_w (v := 858993459) dJ6_bitCount_0f7a4_11 (by decide +kernel) ?_
  refine r_iand dJ6_bitCount_0f7a4_14 ?_
  refine r_iload_n dJ6_bitCount_0f7a4_15 0 rfl ?_
  refine r_iconst (v := 2) dJ6_bitCount_0f7a4_16 (by decide) ?_
  refine r_iushr dJ6_bitCount_0f7a4_17 ?_
  refine r_ldc_w (v := 858993459) dJ6_bitCount_0f7a4_18 (by decide +kernel) ?_
  refine r_iand dJ6_bitCount_0f7a4_21 ?_
  refine r_iadd dJ6_bitCount_0f7a4_22 ?_
  rw [show ((bc1 x) &&& 858993459) + ((((bc1 x).toUInt32 >>> ((2 : Int32).toUInt32 &&& Int32.toUInt32 31)).toInt32) &&& 858993459) = bc2 (bc1 x) from rfl]
  refine r_istore_n (lo' := [(0, .int (bc2 (bc1 x)))]) dJ6_bitCount_0f7a4_23 (by decide) rfl ?_
  refine r_iload_n dJ6_bitCount_0f7a4_24 0 rfl ?_
  refine r_iload_n dJ6_bitCount_0f7a4_25 0 rfl ?_
  refine r_iconst (v := 4) dJ6_bitCount_0f7a4_26 (by decide) ?_
  refine r_iushr dJ6_bitCount_0f7a4_27 ?_
  refine r_iadd dJ6_bitCount_0f7a4_28 ?_
  refine r_ldc_w (v := 252645135) dJ6_bitCount_0f7a4_29 (by decide +kernel) ?_
  refine r_iand dJ6_bitCount_0f7a4_32 ?_
  rw [show ((bc2 (bc1 x)) + (((bc2 (bc1 x)).toUInt32 >>> ((4 : Int32).toUInt32 &&& Int32.toUInt32 31)).toInt32)) &&& 252645135 = bc3 (bc2 (bc1 x)) from rfl]
  refine r_istore_n (lo' := [(0, .int (bc3 (bc2 (bc1 x))))]) dJ6_bitCount_0f7a4_33 (by decide) rfl ?_
  refine r_iload_n dJ6_bitCount_0f7a4_34 0 rfl ?_
  refine r_iload_n dJ6_bitCount_0f7a4_35 0 rfl ?_
  refine r_bipush (v := 8) dJ6_bitCount_0f7a4_36 (by decide) ?_
  refine r_iushr dJ6_bitCount_0f7a4_38 ?_
  refine r_iadd dJ6_bitCount_0f7a4_39 ?_
  rw [show (bc3 (bc2 (bc1 x))) + (((bc3 (bc2 (bc1 x))).toUInt32 >>> ((8 : Int32).toUInt32 &&& Int32.toUInt32 31)).toInt32) = bc4 (bc3 (bc2 (bc1 x))) from rfl]
  refine r_istore_n (lo' := [(0, .int (bc4 (bc3 (bc2 (bc1 x)))))]) dJ6_bitCount_0f7a4_40 (by decide) rfl ?_
  refine r_iload_n dJ6_bitCount_0f7a4_41 0 rfl ?_
  refine r_iload_n dJ6_bitCount_0f7a4_42 0 rfl ?_
  refine r_bipush (v := 16) dJ6_bitCount_0f7a4_43 (by decide) ?_
  refine r_iushr dJ6_bitCount_0f7a4_45 ?_
  refine r_iadd dJ6_bitCount_0f7a4_46 ?_
  rw [show (bc4 (bc3 (bc2 (bc1 x)))) + (((bc4 (bc3 (bc2 (bc1 x)))).toUInt32 >>> ((16 : Int32).toUInt32 &&& Int32.toUInt32 31)).toInt32) = bc5 (bc4 (bc3 (bc2 (bc1 x)))) from rfl]
  refine r_istore_n (lo' := [(0, .int (bc5 (bc4 (bc3 (bc2 (bc1 x))))))]) dJ6_bitCount_0f7a4_47 (by decide) rfl ?_
  refine r_iload_n dJ6_bitCount_0f7a4_48 0 rfl ?_
  refine r_bipush (v := 63) dJ6_bitCount_0f7a4_49 (by decide) ?_
  refine r_iand dJ6_bitCount_0f7a4_51 ?_
  exact kret _ _ _ _ _ _ (Nat.le_refl _) (Nat.le_refl _) dJ6_bitCount_0f7a4_52 rfl (⟨rfl, rfl⟩)

abbrev rmX0_passOnAir : Room := { frames := 1, cells := 0, slots := 0, locals := 21 }
theorem hinX0_passOnAir_0 : ∀ w ∈ u_ws RX0 TX0 4, w ∈ wsX0_passOnAir := by decide +kernel
theorem fwX0_passOnAir_7 : Cond.fieldLink RX0 7 "Castdesk$Camera" "stamina" "I" ∈ wsX0_passOnAir := by decide +kernel
theorem fwX0_passOnAir_13 : Cond.fieldLink RX0 13 "Castdesk$Camera" "rest" "I" ∈ wsX0_passOnAir := by decide +kernel
theorem fwX0_passOnAir_16 : Cond.fieldLink RX0 16 "Castdesk$Camera" "onAir" "I" ∈ wsX0_passOnAir := by decide +kernel
theorem fwX0_passOnAir_25 : Cond.fieldLink RX0 25 "Castdesk$Camera" "toBeOff" "I" ∈ wsX0_passOnAir := by decide +kernel
set_option maxHeartbeats 4000000 in
set_option maxRecDepth 100000 in
theorem tX0_passOnAir {E : kE} {a cap : Nat → Nat} {h0 : kH} (dt : kM)  (nF nC nE w : Nat) (hg : dgeo E a cap nF nC nE h0) (hd : dwf dt nF nC nE w) (o : Nat) (ho : o < nC) : kCv E yX0_passOnAir wsX0_passOnAir rmX0_passOnAir 0 0 [.ref (a (40 + o))] (dw E a cap nF nC nE dt h0) (fun h' => h' = dw E a cap nF nC nE (dOn dt o) h0) := by
  refine kCv_of (own := RX0) (cc := cX0_passOnAir) (maxL := 1) (by decide) rfl rfl (Nat.le_of_ble_eq_true rfl) ?_
  intro X hini kret
  refine r_lo (lo' := [(0, .ref (a (40 + o)))]) [0] rfl ?_
  refine r_aload_n dX0_passOnAir_0 0 rfl ?_
  refine r_dup dX0_passOnAir_1 rfl ?_
  refine r_get (C := RX0) (b := .int (dt 13 o)) dX0_passOnAir_2 hinX0_passOnAir_0 (dw_cam hg (by omega)) rfl 2 (by decide) fwX0_passOnAir_16 rfl rfl ?_
  refine r_iconst (v := 1) dX0_passOnAir_5 (by decide) ?_
  refine r_iadd dX0_passOnAir_6 ?_
  refine d_putC hg (by omega) hinX0_passOnAir_0 2 13 (by decide) dX0_passOnAir_7 fwX0_passOnAir_16 rfl rfl rfl ?_
  refine r_aload_n dX0_passOnAir_10 0 rfl ?_
  refine r_get (C := RX0) (b := .int ((dt 13 o) + 1)) dX0_passOnAir_11 hinX0_passOnAir_0 (dw_cam hg (by omega)) rfl 2 (by decide) fwX0_passOnAir_16 rfl (by show some (Value.int _) = _; rw [show (ma dt 13 o ((dt 13 o) + 1)) 13 o = (dt 13 o) + 1 from (by simp [ma, ms, upd])]) ?_
  refine r_aload_n dX0_passOnAir_14 0 rfl ?_
  refine r_get (C := RX0) (b := .int (dt 11 o)) dX0_passOnAir_15 hinX0_passOnAir_0 (dw_cam hg (by omega)) rfl 0 (by decide) fwX0_passOnAir_7 rfl rfl ?_
  refine r_icmp_lt (tgt := 33) dX0_passOnAir_18 (by decide) (fun c1 => ?_) (fun c1 => ?_)
  · skip
    exact kret _ _ _ _ _ (Nat.le_refl _) (Nat.le_refl _) dX0_passOnAir_33 (by rw [dOn, if_pos c1])
  · skip
    refine r_aload_n dX0_passOnAir_21 0 rfl ?_
    refine r_aload_n dX0_passOnAir_22 0 rfl ?_
    refine r_get (C := RX0) (b := .int (dt 12 o)) dX0_passOnAir_23 hinX0_passOnAir_0 (dw_cam hg (by omega)) rfl 1 (by decide) fwX0_passOnAir_13 rfl rfl ?_
    refine r_iconst (v := 1) dX0_passOnAir_26 (by decide) ?_
    refine r_mmax dX0_passOnAir_27 (by decide +kernel : Cond.methodLink RX0 19 Lib.Math.max.name ∈ wsX0_passOnAir) (by decide +kernel) (by decide +kernel) (by decide +kernel) (by decide) (Nat.le_of_ble_eq_true rfl) (Nat.zero_le _) (Nat.zero_le _) ?_
    refine d_putC hg (by omega) hinX0_passOnAir_0 3 14 (by decide) dX0_passOnAir_30 fwX0_passOnAir_25 rfl rfl rfl ?_
    exact kret _ _ _ _ _ (Nat.le_refl _) (Nat.le_refl _) dX0_passOnAir_33 (by rw [dOn, if_neg c1])

abbrev rmX0_passOff : Room := { frames := 1, cells := 0, slots := 0, locals := 21 }
theorem hinX0_passOff_0 : ∀ w ∈ u_ws RX0 TX0 4, w ∈ wsX0_passOff := by decide +kernel
theorem fwX0_passOff_16 : Cond.fieldLink RX0 16 "Castdesk$Camera" "onAir" "I" ∈ wsX0_passOff := by decide +kernel
theorem fwX0_passOff_25 : Cond.fieldLink RX0 25 "Castdesk$Camera" "toBeOff" "I" ∈ wsX0_passOff := by decide +kernel
set_option maxHeartbeats 4000000 in
set_option maxRecDepth 100000 in
theorem tX0_passOff {E : kE} {a cap : Nat → Nat} {h0 : kH} (dt : kM)  (nF nC nE w : Nat) (hg : dgeo E a cap nF nC nE h0) (hd : dwf dt nF nC nE w) (o : Nat) (ho : o < nC) : kCv E yX0_passOff wsX0_passOff rmX0_passOff 0 0 [.ref (a (40 + o))] (dw E a cap nF nC nE dt h0) (fun h' => h' = dw E a cap nF nC nE (dOff dt o) h0) := by
  refine kCv_of (own := RX0) (cc := cX0_passOff) (maxL := 1) (by decide) rfl rfl (Nat.le_of_ble_eq_true rfl) ?_
  intro X hini kret
  refine r_lo (lo' := [(0, .ref (a (40 + o)))]) [0] rfl ?_
  refine r_aload_n dX0_passOff_0 0 rfl ?_
  refine r_iconst (v := 0) dX0_passOff_1 (by decide) ?_
  refine d_putC hg (by omega) hinX0_passOff_0 2 13 (by decide) dX0_passOff_2 fwX0_passOff_16 rfl rfl rfl ?_
  refine r_aload_n dX0_passOff_5 0 rfl ?_
  refine r_aload_n dX0_passOff_6 0 rfl ?_
  refine r_get (C := RX0) (b := .int (dt 14 o)) dX0_passOff_7 hinX0_passOff_0 (dw_cam hg (by omega)) rfl 3 (by decide) fwX0_passOff_25 rfl rfl ?_
  refine r_iconst (v := 1) dX0_passOff_10 (by decide) ?_
  refine r_isub dX0_passOff_11 ?_
  refine r_iconst (v := 0) dX0_passOff_12 (by decide) ?_
  refine r_mmax dX0_passOff_13 (by decide +kernel : Cond.methodLink RX0 19 Lib.Math.max.name ∈ wsX0_passOff) (by decide +kernel) (by decide +kernel) (by decide +kernel) (by decide) (Nat.le_of_ble_eq_true rfl) (Nat.zero_le _) (Nat.zero_le _) ?_
  refine d_putC hg (by omega) hinX0_passOff_0 3 14 (by decide) dX0_passOff_16 fwX0_passOff_25 rfl rfl rfl ?_
  exact kret _ _ _ _ _ (Nat.le_refl _) (Nat.le_refl _) dX0_passOff_19 (rfl)

abbrev rmX1_canBeCorrected : Room := { frames := 0, cells := 0, slots := 0, locals := 0 }
theorem hinX1_canBeCorrected_1 : ∀ w ∈ u_ws RX1 TX1 5, w ∈ wsX1_canBeCorrected := by decide +kernel
theorem hinX1_canBeCorrected_2 : ∀ w ∈ u_ws RX2 TX2 7, w ∈ wsX1_canBeCorrected := by decide +kernel
theorem fwX1_canBeCorrected_9 : Cond.fieldLink RX1 9 "Castdesk$Entry" "fight" "LCastdesk$Fight;" ∈ wsX1_canBeCorrected := by decide +kernel
theorem fwX1_canBeCorrected_25 : Cond.fieldLink RX1 25 "Castdesk$Entry" "struck" "Z" ∈ wsX1_canBeCorrected := by decide +kernel
theorem fwX1_canBeCorrected_29 : Cond.fieldLink RX1 29 "Castdesk$Fight" "state" "I" ∈ wsX1_canBeCorrected := by decide +kernel
set_option maxHeartbeats 4000000 in
set_option maxRecDepth 100000 in
theorem tX1_canBeCorrected {E : kE} {a cap : Nat → Nat} {h0 : kH} (dt : kM)  (nF nC nE w : Nat) (hg : dgeo E a cap nF nC nE h0) (hd : dwf dt nF nC nE w) (o : Nat) (ho : o < nE) : kCi E yX1_canBeCorrected wsX1_canBeCorrected rmX1_canBeCorrected 0 0 [.ref (a (50 + o))] (dw E a cap nF nC nE dt h0) (fun r h' => r = dCor dt o ∧ h' = dw E a cap nF nC nE dt h0) := by
  obtain ⟨hF, hF20, hC, hC6, hE, hE80, hW, hW3, hpl, hof, hsp⟩ := id hd
  refine kCi_of (rt := .boolean) (own := RX1) (cc := cX1_canBeCorrected) (maxL := 1) (by decide) rfl rfl (Nat.le_of_ble_eq_true rfl) ?_
  intro X hini kret
  refine r_lo (lo' := [(0, .ref (a (50 + o)))]) [0] rfl ?_
  refine r_aload_n dX1_canBeCorrected_0 0 rfl ?_
  refine r_get (C := RX1) (b := .int (dt 25 o)) dX1_canBeCorrected_1 hinX1_canBeCorrected_1 (dw_ent hg (by omega)) rfl 4 (by decide) fwX1_canBeCorrected_25 rfl rfl ?_
  refine r_if_ne (tgt := 21) dX1_canBeCorrected_4 (by decide) (fun c1 => ?_) (fun c1 => ?_)
  · skip
    refine r_iconst (v := 0) dX1_canBeCorrected_21 (by decide) ?_
    exact kret _ _ _ _ _ _ (Nat.le_refl _) (Nat.le_refl _) dX1_canBeCorrected_22 rfl (⟨by first | rfl | (simp only [dCor, if_neg c1]; done) | simp [dCor, c1], rfl⟩)
  · skip
    refine r_aload_n dX1_canBeCorrected_7 0 rfl ?_
    refine r_get (C := RX1) (b := .ref (a (20 + (dt 21 o).toNatClampNeg))) dX1_canBeCorrected_8 hinX1_canBeCorrected_1 (dw_ent hg (by omega)) rfl 0 (by decide) fwX1_canBeCorrected_9 rfl rfl ?_
    refine r_get (C := RX2) (b := .int (dt 6 ((dt 21 o).toNatClampNeg))) dX1_canBeCorrected_11 hinX1_canBeCorrected_2 (dw_fgt hg (vp_lt (hof o ho))) rfl 3 (by decide) fwX1_canBeCorrected_29 rfl rfl ?_
    refine r_if_ne (tgt := 21) dX1_canBeCorrected_14 (by decide) (fun c2 => ?_) (fun c2 => ?_)
    · skip
      refine r_iconst (v := 0) dX1_canBeCorrected_21 (by decide) ?_
      exact kret _ _ _ _ _ _ (Nat.le_refl _) (Nat.le_refl _) dX1_canBeCorrected_22 rfl (⟨by first | rfl | (simp only [dCor, if_pos c1, if_neg c2]; done) | simp [dCor, c1, c2], rfl⟩)
    · skip
      refine r_iconst (v := 1) dX1_canBeCorrected_17 (by decide) ?_
      refine r_goto (tgt := 22) dX1_canBeCorrected_18 (by decide) ?_
      exact kret _ _ _ _ _ _ (Nat.le_refl _) (Nat.le_refl _) dX1_canBeCorrected_22 rfl (⟨by first | rfl | (simp only [dCor, if_pos c1, if_pos c2]; done) | simp [dCor, c1, c2], rfl⟩)

abbrev rmX2_isOf : Room := { frames := 0, cells := 0, slots := 0, locals := 0 }
theorem hinX2_isOf_2 : ∀ w ∈ u_ws RX2 TX2 7, w ∈ wsX2_isOf := by decide +kernel
theorem fwX2_isOf_15 : Cond.fieldLink RX2 15 "Castdesk$Fight" "first" "I" ∈ wsX2_isOf := by decide +kernel
theorem fwX2_isOf_18 : Cond.fieldLink RX2 18 "Castdesk$Fight" "second" "I" ∈ wsX2_isOf := by decide +kernel
set_option maxHeartbeats 4000000 in
set_option maxRecDepth 100000 in
theorem tX2_isOf {E : kE} {a cap : Nat → Nat} {h0 : kH} (dt : kM)  (nF nC nE w : Nat) (hg : dgeo E a cap nF nC nE h0) (hd : dwf dt nF nC nE w) (o : Nat) (ho : o < nF) (x : Int32) : kCi E yX2_isOf wsX2_isOf rmX2_isOf 0 0 [.ref (a (20 + o)), .int x] (dw E a cap nF nC nE dt h0) (fun r h' => r = dIsOf dt o x ∧ h' = dw E a cap nF nC nE dt h0) := by
  refine kCi_of (rt := .boolean) (own := RX2) (cc := cX2_isOf) (maxL := 2) (by decide) rfl rfl (Nat.le_of_ble_eq_true rfl) ?_
  intro X hini kret
  refine r_lo (lo' := [(0, .ref (a (20 + o))), (1, .int x)]) [0, 1] rfl ?_
  refine r_iload_n dX2_isOf_0 1 rfl ?_
  refine r_aload_n dX2_isOf_1 0 rfl ?_
  refine r_get (C := RX2) (b := .int (dt 7 o)) dX2_isOf_2 hinX2_isOf_2 (dw_fgt hg (by omega)) rfl 1 (by decide) fwX2_isOf_15 rfl rfl ?_
  refine r_icmp_eq (tgt := 16) dX2_isOf_5 (by decide) (fun c1 => ?_) (fun c1 => ?_)
  · skip
    refine r_iconst (v := 1) dX2_isOf_16 (by decide) ?_
    refine r_goto (tgt := 21) dX2_isOf_17 (by decide) ?_
    exact kret _ _ _ _ _ _ (Nat.le_refl _) (Nat.le_refl _) dX2_isOf_21 rfl (⟨by first | rfl | (simp only [dIsOf, if_pos c1]; done) | simp [dIsOf, c1], rfl⟩)
  · skip
    refine r_iload_n dX2_isOf_8 1 rfl ?_
    refine r_aload_n dX2_isOf_9 0 rfl ?_
    refine r_get (C := RX2) (b := .int (dt 8 o)) dX2_isOf_10 hinX2_isOf_2 (dw_fgt hg (by omega)) rfl 2 (by decide) fwX2_isOf_18 rfl rfl ?_
    refine r_icmp_ne (tgt := 20) dX2_isOf_13 (by decide) (fun c2 => ?_) (fun c2 => ?_)
    · skip
      refine r_iconst (v := 0) dX2_isOf_20 (by decide) ?_
      exact kret _ _ _ _ _ _ (Nat.le_refl _) (Nat.le_refl _) dX2_isOf_21 rfl (⟨by first | rfl | (simp only [dIsOf, if_neg c1, if_neg c2]; done) | simp [dIsOf, c1, c2], rfl⟩)
    · skip
      refine r_iconst (v := 1) dX2_isOf_16 (by decide) ?_
      refine r_goto (tgt := 21) dX2_isOf_17 (by decide) ?_
      exact kret _ _ _ _ _ _ (Nat.le_refl _) (Nat.le_refl _) dX2_isOf_21 rfl (⟨by first | rfl | (simp only [dIsOf, if_neg c1, if_pos c2]; done) | simp [dIsOf, c1, c2], rfl⟩)

abbrev rmX2_heatUp : Room := { frames := 0, cells := 0, slots := 0, locals := 0 }
theorem hinX2_heatUp_2 : ∀ w ∈ u_ws RX2 TX2 7, w ∈ wsX2_heatUp := by decide +kernel
theorem fwX2_heatUp_27 : Cond.fieldLink RX2 27 "Castdesk$Fight" "blowFrames" "I" ∈ wsX2_heatUp := by decide +kernel
set_option maxHeartbeats 4000000 in
set_option maxRecDepth 100000 in
theorem tX2_heatUp {E : kE} {a cap : Nat → Nat} {h0 : kH} (dt : kM)  (nF nC nE w : Nat) (hg : dgeo E a cap nF nC nE h0) (hd : dwf dt nF nC nE w) (o : Nat) (ho : o < nF) : kCv E yX2_heatUp wsX2_heatUp rmX2_heatUp 0 0 [.ref (a (20 + o))] (dw E a cap nF nC nE dt h0) (fun h' => h' = dw E a cap nF nC nE (ma dt 32 o (dt 32 o ||| 1)) h0) := by
  refine kCv_of (own := RX2) (cc := cX2_heatUp) (maxL := 1) (by decide) rfl rfl (Nat.le_of_ble_eq_true rfl) ?_
  intro X hini kret
  refine r_lo (lo' := [(0, .ref (a (20 + o)))]) [0] rfl ?_
  refine r_aload_n dX2_heatUp_0 0 rfl ?_
  refine r_dup dX2_heatUp_1 rfl ?_
  refine r_get (C := RX2) (b := .int (dt 32 o)) dX2_heatUp_2 hinX2_heatUp_2 (dw_fgt hg (by omega)) rfl 6 (by decide) fwX2_heatUp_27 rfl rfl ?_
  refine r_iconst (v := 1) dX2_heatUp_5 (by decide) ?_
  refine r_ior dX2_heatUp_6 ?_
  refine d_putF hg (by omega) hinX2_heatUp_2 6 32 (by decide) dX2_heatUp_7 fwX2_heatUp_27 rfl rfl rfl ?_
  exact kret _ _ _ _ _ (Nat.le_refl _) (Nat.le_refl _) dX2_heatUp_10 (rfl)

abbrev rmX2_heatOfBlows : Room := { frames := 1, cells := 0, slots := 0, locals := 20 }
theorem hinX2_heatOfBlows_2 : ∀ w ∈ u_ws RX2 TX2 7, w ∈ wsX2_heatOfBlows := by decide +kernel
theorem fwX2_heatOfBlows_27 : Cond.fieldLink RX2 27 "Castdesk$Fight" "blowFrames" "I" ∈ wsX2_heatOfBlows := by decide +kernel
set_option maxHeartbeats 4000000 in
set_option maxRecDepth 100000 in
theorem tX2_heatOfBlows {E : kE} {a cap : Nat → Nat} {h0 : kH} (dt : kM)  (nF nC nE w : Nat) (hg : dgeo E a cap nF nC nE h0) (hd : dwf dt nF nC nE w) (o : Nat) (ho : o < nF) : kCi E yX2_heatOfBlows wsX2_heatOfBlows rmX2_heatOfBlows 0 0 [.ref (a (20 + o))] (dw E a cap nF nC nE dt h0) (fun r h' => r = dHoB dt o ∧ h' = dw E a cap nF nC nE dt h0) := by
  refine kCi_of (rt := .int) (own := RX2) (cc := cX2_heatOfBlows) (maxL := 1) (by decide) rfl rfl (Nat.le_of_ble_eq_true rfl) ?_
  intro X hini kret
  refine r_lo (lo' := [(0, .ref (a (20 + o)))]) [0] rfl ?_
  refine r_bipush (v := 10) dX2_heatOfBlows_0 (by decide) ?_
  refine r_aload_n dX2_heatOfBlows_2 0 rfl ?_
  refine r_get (C := RX2) (b := .int (dt 32 o)) dX2_heatOfBlows_3 hinX2_heatOfBlows_2 (dw_fgt hg (by omega)) rfl 6 (by decide) fwX2_heatOfBlows_27 rfl rfl ?_
  refine r_bipush (v := 62) dX2_heatOfBlows_6 (by decide) ?_
  refine r_iand dX2_heatOfBlows_8 ?_
  refine r_callSi (nn := 1) (As := [.int ((dt 32 o) &&& 62)]) (st := [.int 10]) dX2_heatOfBlows_9 (tJ6_bitCount_0f7a4 ((dt 32 o) &&& 62)) gX2_heatOfBlows_J6_bitCount_0f7a4 rfl (by decide +kernel) ⟨Nat.le_of_ble_eq_true rfl, Nat.le_of_ble_eq_true rfl⟩ ⟨rfl, rfl⟩ rfl (Nat.le_of_ble_eq_true rfl) ⟨Nat.le_of_ble_eq_true rfl, Nat.le_of_ble_eq_true rfl⟩ rfl (fun r hh hp => ?_)
  obtain ⟨rfl, rfl⟩ := hp
  refine r_imul dX2_heatOfBlows_12 ?_
  exact kret _ _ _ _ _ _ (Nat.le_refl _) (Nat.le_refl _) dX2_heatOfBlows_13 rfl (⟨rfl, rfl⟩)

abbrev rmX2_letFramePass : Room := { frames := 0, cells := 0, slots := 0, locals := 0 }
theorem hinX2_letFramePass_2 : ∀ w ∈ u_ws RX2 TX2 7, w ∈ wsX2_letFramePass := by decide +kernel
theorem fwX2_letFramePass_27 : Cond.fieldLink RX2 27 "Castdesk$Fight" "blowFrames" "I" ∈ wsX2_letFramePass := by decide +kernel
set_option maxHeartbeats 4000000 in
set_option maxRecDepth 100000 in
theorem tX2_letFramePass {E : kE} {a cap : Nat → Nat} {h0 : kH} (dt : kM)  (nF nC nE w : Nat) (hg : dgeo E a cap nF nC nE h0) (hd : dwf dt nF nC nE w) (o : Nat) (ho : o < nF) : kCv E yX2_letFramePass wsX2_letFramePass rmX2_letFramePass 0 0 [.ref (a (20 + o))] (dw E a cap nF nC nE dt h0) (fun h' => h' = dw E a cap nF nC nE (ma dt 32 o (dt 32 o <<< ((1 : Int32) &&& 31))) h0) := by
  refine kCv_of (own := RX2) (cc := cX2_letFramePass) (maxL := 1) (by decide) rfl rfl (Nat.le_of_ble_eq_true rfl) ?_
  intro X hini kret
  refine r_lo (lo' := [(0, .ref (a (20 + o)))]) [0] rfl ?_
  refine r_aload_n dX2_letFramePass_0 0 rfl ?_
  refine r_dup dX2_letFramePass_1 rfl ?_
  refine r_get (C := RX2) (b := .int (dt 32 o)) dX2_letFramePass_2 hinX2_letFramePass_2 (dw_fgt hg (by omega)) rfl 6 (by decide) fwX2_letFramePass_27 rfl rfl ?_
  refine r_iconst (v := 1) dX2_letFramePass_5 (by decide) ?_
  refine r_ishl dX2_letFramePass_6 ?_
  refine d_putF hg (by omega) hinX2_letFramePass_2 6 32 (by decide) dX2_letFramePass_7 fwX2_letFramePass_27 rfl rfl rfl ?_
  exact kret _ _ _ _ _ (Nat.le_refl _) (Nat.le_refl _) dX2_letFramePass_10 (rfl)

abbrev rmX3_checkPlayer : Room := { frames := 6, cells := 1, slots := 6, locals := 90 }
theorem gxX3_checkPlayer_B : ∀ w ∈ (vx_atS RX3 184 kIO kNm).filter goodWord, w ∈ wsX3_checkPlayer := by decide +kernel
set_option maxHeartbeats 4000000 in
set_option maxRecDepth 100000 in
theorem tX3_checkPlayer {E : kE} {h : kH}  (x : Int32) : kXv E yX3_checkPlayer wsX3_checkPlayer rmX3_checkPlayer 1 6 [.int x] (h) (fun Ec h' => (Ec = kIO ∧ ¬ (¬ x < 0 ∧ x < 10)) ∧ h' = h) (fun h' => (¬ x < 0 ∧ x < 10) ∧ h' = h) := by
  refine kXv_of (own := RX3) (cc := cX3_checkPlayer) (maxL := 1) (by decide) rfl rfl ⟨rfl, rfl⟩ (Nat.le_of_ble_eq_true rfl) ?_
  intro X kret kthr kout
  refine r_lo (lo' := [(0, .int x)]) [0] rfl ?_
  refine r_iload_n dX3_checkPlayer_0 0 rfl ?_
  refine r_if_lt (tgt := 10) dX3_checkPlayer_1 (by decide) (fun c1 => ?_) (fun c1 => ?_)
  · skip
    exact kthr _ _ _ _ _ [] _ (Nat.le_of_ble_eq_true rfl) (Nat.le_of_ble_eq_true rfl) ⟨_, _, _, _, _, kSt_B, rfl, (by decide +kernel), (by decide +kernel), (by decide +kernel : (215, "no such player") ∈ kStr), gxX3_checkPlayer_B, dX3_checkPlayer_10, dX3_checkPlayer_13, Or.inl ⟨rfl, dX3_checkPlayer_14⟩, dX3_checkPlayer_16, dX3_checkPlayer_19, (by decide), (Nat.le_of_ble_eq_true rfl)⟩ (⟨⟨rfl, fun z => z.1 c1⟩, rfl⟩)
  · skip
    refine r_iload_n dX3_checkPlayer_4 0 rfl ?_
    refine r_bipush (v := 10) dX3_checkPlayer_5 (by decide) ?_
    refine r_icmp_lt (tgt := 20) dX3_checkPlayer_7 (by decide) (fun c2 => ?_) (fun c2 => ?_)
    · skip
      exact kret _ _ _ _ _ (Nat.zero_le _) (Nat.zero_le _) dX3_checkPlayer_20 (⟨⟨c1, c2⟩, rfl⟩)
    · skip
      exact kthr _ _ _ _ _ [] _ (Nat.le_of_ble_eq_true rfl) (Nat.le_of_ble_eq_true rfl) ⟨_, _, _, _, _, kSt_B, rfl, (by decide +kernel), (by decide +kernel), (by decide +kernel : (215, "no such player") ∈ kStr), gxX3_checkPlayer_B, dX3_checkPlayer_10, dX3_checkPlayer_13, Or.inl ⟨rfl, dX3_checkPlayer_14⟩, dX3_checkPlayer_16, dX3_checkPlayer_19, (by decide), (Nat.le_of_ble_eq_true rfl)⟩ (⟨⟨rfl, fun z => c2 z.2⟩, rfl⟩)

abbrev rmX3_checkSponsor : Room := { frames := 6, cells := 1, slots := 6, locals := 90 }
theorem gxX3_checkSponsor_B : ∀ w ∈ (vx_atS RX3 184 kIO kNm).filter goodWord, w ∈ wsX3_checkSponsor := by decide +kernel
set_option maxHeartbeats 4000000 in
set_option maxRecDepth 100000 in
theorem tX3_checkSponsor {E : kE} {h : kH}  (x : Int32) : kXv E yX3_checkSponsor wsX3_checkSponsor rmX3_checkSponsor 1 6 [.int x] (h) (fun Ec h' => (Ec = kIO ∧ ¬ (¬ x < 0 ∧ x < 6)) ∧ h' = h) (fun h' => (¬ x < 0 ∧ x < 6) ∧ h' = h) := by
  refine kXv_of (own := RX3) (cc := cX3_checkSponsor) (maxL := 1) (by decide) rfl rfl ⟨rfl, rfl⟩ (Nat.le_of_ble_eq_true rfl) ?_
  intro X kret kthr kout
  refine r_lo (lo' := [(0, .int x)]) [0] rfl ?_
  refine r_iload_n dX3_checkSponsor_0 0 rfl ?_
  refine r_if_lt (tgt := 10) dX3_checkSponsor_1 (by decide) (fun c1 => ?_) (fun c1 => ?_)
  · skip
    exact kthr _ _ _ _ _ [] _ (Nat.le_of_ble_eq_true rfl) (Nat.le_of_ble_eq_true rfl) ⟨_, _, _, _, _, kSt_B, rfl, (by decide +kernel), (by decide +kernel), (by decide +kernel : (217, "no such sponsor") ∈ kStr), gxX3_checkSponsor_B, dX3_checkSponsor_10, dX3_checkSponsor_13, Or.inl ⟨rfl, dX3_checkSponsor_14⟩, dX3_checkSponsor_16, dX3_checkSponsor_19, (by decide), (Nat.le_of_ble_eq_true rfl)⟩ (⟨⟨rfl, fun z => z.1 c1⟩, rfl⟩)
  · skip
    refine r_iload_n dX3_checkSponsor_4 0 rfl ?_
    refine r_bipush (v := 6) dX3_checkSponsor_5 (by decide) ?_
    refine r_icmp_lt (tgt := 20) dX3_checkSponsor_7 (by decide) (fun c2 => ?_) (fun c2 => ?_)
    · skip
      exact kret _ _ _ _ _ (Nat.zero_le _) (Nat.zero_le _) dX3_checkSponsor_20 (⟨⟨c1, c2⟩, rfl⟩)
    · skip
      exact kthr _ _ _ _ _ [] _ (Nat.le_of_ble_eq_true rfl) (Nat.le_of_ble_eq_true rfl) ⟨_, _, _, _, _, kSt_B, rfl, (by decide +kernel), (by decide +kernel), (by decide +kernel : (217, "no such sponsor") ∈ kStr), gxX3_checkSponsor_B, dX3_checkSponsor_10, dX3_checkSponsor_13, Or.inl ⟨rfl, dX3_checkSponsor_14⟩, dX3_checkSponsor_16, dX3_checkSponsor_19, (by decide), (Nat.le_of_ble_eq_true rfl)⟩ (⟨⟨rfl, fun z => c2 z.2⟩, rfl⟩)

abbrev rmX3_checkRange : Room := { frames := 6, cells := 1, slots := 6, locals := 90 }
theorem gxX3_checkRange_A : ∀ w ∈ (vx_atS RX3 66 kIA kNm).filter goodWord, w ∈ wsX3_checkRange := by decide +kernel
set_option maxHeartbeats 4000000 in
set_option maxRecDepth 100000 in
theorem tX3_checkRange {E : kE} {h : kH}  (x y z : Int32) : kXv E yX3_checkRange wsX3_checkRange rmX3_checkRange 1 6 [.int x, .int y, .int z] (h) (fun Ec h' => (Ec = kIA ∧ ¬ (¬ x < y ∧ ¬ z < x)) ∧ h' = h) (fun h' => (¬ x < y ∧ ¬ z < x) ∧ h' = h) := by
  refine kXv_of (own := RX3) (cc := cX3_checkRange) (maxL := 3) (by decide) rfl rfl ⟨rfl, rfl⟩ (Nat.le_of_ble_eq_true rfl) ?_
  intro X kret kthr kout
  refine r_lo (lo' := [(0, .int x), (1, .int y), (2, .int z)]) [0, 1, 2] rfl ?_
  refine r_iload_n dX3_checkRange_0 0 rfl ?_
  refine r_iload_n dX3_checkRange_1 1 rfl ?_
  refine r_icmp_lt (tgt := 10) dX3_checkRange_2 (by decide) (fun c1 => ?_) (fun c1 => ?_)
  · skip
    exact kthr _ _ _ _ _ [] _ (Nat.le_of_ble_eq_true rfl) (Nat.le_of_ble_eq_true rfl) ⟨_, _, _, _, _, kSt_A, rfl, (by decide +kernel), (by decide +kernel), (by decide +kernel : (219, "out of range") ∈ kStr), gxX3_checkRange_A, dX3_checkRange_10, dX3_checkRange_13, Or.inl ⟨rfl, dX3_checkRange_14⟩, dX3_checkRange_16, dX3_checkRange_19, (by decide), (Nat.le_of_ble_eq_true rfl)⟩ (⟨⟨rfl, fun q => q.1 c1⟩, rfl⟩)
  · skip
    refine r_iload_n dX3_checkRange_5 0 rfl ?_
    refine r_iload_n dX3_checkRange_6 2 rfl ?_
    refine r_icmp_le (tgt := 20) dX3_checkRange_7 (by decide) (fun c2 => ?_) (fun c2 => ?_)
    · skip
      exact kret _ _ _ _ _ (Nat.zero_le _) (Nat.zero_le _) dX3_checkRange_20 (⟨⟨c1, c2⟩, rfl⟩)
    · skip
      exact kthr _ _ _ _ _ [] _ (Nat.le_of_ble_eq_true rfl) (Nat.le_of_ble_eq_true rfl) ⟨_, _, _, _, _, kSt_A, rfl, (by decide +kernel), (by decide +kernel), (by decide +kernel : (219, "out of range") ∈ kStr), gxX3_checkRange_A, dX3_checkRange_10, dX3_checkRange_13, Or.inl ⟨rfl, dX3_checkRange_14⟩, dX3_checkRange_16, dX3_checkRange_19, (by decide), (Nat.le_of_ble_eq_true rfl)⟩ (⟨⟨rfl, fun q => q.2 c2⟩, rfl⟩)

abbrev rmX3_checkGoesOn : Room := { frames := 6, cells := 1, slots := 6, locals := 90 }
theorem hinX3_checkGoesOn_2 : ∀ w ∈ u_ws RX2 TX2 7, w ∈ wsX3_checkGoesOn := by decide +kernel
theorem fwX3_checkGoesOn_100 : Cond.fieldLink RX3 100 "Castdesk$Fight" "state" "I" ∈ wsX3_checkGoesOn := by decide +kernel
theorem gxX3_checkGoesOn_S : ∀ w ∈ (vx_atS RX3 110 kIS kNm).filter goodWord, w ∈ wsX3_checkGoesOn := by decide +kernel
set_option maxHeartbeats 4000000 in
set_option maxRecDepth 100000 in
theorem tX3_checkGoesOn {E : kE} {a cap : Nat → Nat} {h0 : kH} (dt : kM)  (nF nC nE w : Nat) (hg : dgeo E a cap nF nC nE h0) (hd : dwf dt nF nC nE w) (o : Nat) (ho : o < nF) : kXv E yX3_checkGoesOn wsX3_checkGoesOn rmX3_checkGoesOn 1 6 [.ref (a (20 + o))] (dw E a cap nF nC nE dt h0) (fun Ec h' => (Ec = kIS ∧ ¬ dt 6 o = 0) ∧ h' = dw E a cap nF nC nE dt h0) (fun h' => dt 6 o = 0 ∧ h' = dw E a cap nF nC nE dt h0) := by
  refine kXv_of (own := RX3) (cc := cX3_checkGoesOn) (maxL := 1) (by decide) rfl rfl ⟨rfl, rfl⟩ (Nat.le_of_ble_eq_true rfl) ?_
  intro X kret kthr kout
  refine r_lo (lo' := [(0, .ref (a (20 + o)))]) [0] rfl ?_
  refine r_aload_n dX3_checkGoesOn_0 0 rfl ?_
  refine r_get (C := RX2) (b := .int (dt 6 o)) dX3_checkGoesOn_1 hinX3_checkGoesOn_2 (dw_fgt hg (by omega)) rfl 3 (by decide) fwX3_checkGoesOn_100 rfl rfl ?_
  refine r_if_eq (tgt := 17) dX3_checkGoesOn_4 (by decide) (fun c1 => ?_) (fun c1 => ?_)
  · skip
    exact kret _ _ _ _ _ (Nat.zero_le _) (Nat.zero_le _) dX3_checkGoesOn_17 (⟨c1, rfl⟩)
  · skip
    exact kthr _ _ _ _ _ [] _ (Nat.le_of_ble_eq_true rfl) (Nat.le_of_ble_eq_true rfl) ⟨_, _, _, _, _, kSt_S, rfl, (by decide +kernel), (by decide +kernel), (by decide +kernel : (221, "the fight does not go on") ∈ kStr), gxX3_checkGoesOn_S, dX3_checkGoesOn_7, dX3_checkGoesOn_10, Or.inl ⟨rfl, dX3_checkGoesOn_11⟩, dX3_checkGoesOn_13, dX3_checkGoesOn_16, (by decide), (Nat.le_of_ble_eq_true rfl)⟩ (⟨⟨rfl, c1⟩, rfl⟩)

abbrev rmX3_checkCanBeCorrected : Room := { frames := 6, cells := 1, slots := 6, locals := 90 }
theorem gxX3_checkCanBeCorrected_S : ∀ w ∈ (vx_atS RX3 110 kIS kNm).filter goodWord, w ∈ wsX3_checkCanBeCorrected := by decide +kernel
set_option maxHeartbeats 4000000 in
set_option maxRecDepth 100000 in
theorem tX3_checkCanBeCorrected {E : kE} {a cap : Nat → Nat} {h0 : kH} (dt : kM)  (nF nC nE w : Nat) (hg : dgeo E a cap nF nC nE h0) (hd : dwf dt nF nC nE w) (o : Nat) (ho : o < nE) : kXv E yX3_checkCanBeCorrected wsX3_checkCanBeCorrected rmX3_checkCanBeCorrected 1 6 [.ref (a (50 + o))] (dw E a cap nF nC nE dt h0) (fun Ec h' => (Ec = kIS ∧ dCor dt o = 0) ∧ h' = dw E a cap nF nC nE dt h0) (fun h' => ¬ dCor dt o = 0 ∧ h' = dw E a cap nF nC nE dt h0) := by
  refine kXv_of (own := RX3) (cc := cX3_checkCanBeCorrected) (maxL := 1) (by decide) rfl rfl ⟨rfl, rfl⟩ (Nat.le_of_ble_eq_true rfl) ?_
  intro X kret kthr kout
  refine r_lo (lo' := [(0, .ref (a (50 + o)))]) [0] rfl ?_
  refine r_aload_n dX3_checkCanBeCorrected_0 0 rfl ?_
  refine r_callVi (nn := 0) (As := []) (st := []) dX3_checkCanBeCorrected_1 (tX1_canBeCorrected dt nF nC nE w hg hd o (by omega)) gX3_checkCanBeCorrected_X1_canBeCorrected rfl (by decide +kernel) ⟨Nat.le_of_ble_eq_true rfl, Nat.le_of_ble_eq_true rfl⟩ ⟨rfl, rfl⟩ (dw_ent hg (by omega)) rfl rfl (Nat.le_of_ble_eq_true rfl) ⟨Nat.le_of_ble_eq_true rfl, Nat.le_of_ble_eq_true rfl⟩ rfl (fun r hh hp => ?_)
  obtain ⟨rfl, rfl⟩ := hp
  refine r_if_ne (tgt := 17) dX3_checkCanBeCorrected_4 (by decide) (fun c1 => ?_) (fun c1 => ?_)
  · skip
    exact kret _ _ _ _ _ (Nat.zero_le _) (Nat.zero_le _) dX3_checkCanBeCorrected_17 (⟨c1, rfl⟩)
  · skip
    exact kthr _ _ _ _ _ [] _ (Nat.le_of_ble_eq_true rfl) (Nat.le_of_ble_eq_true rfl) ⟨_, _, _, _, _, kSt_S, rfl, (by decide +kernel), (by decide +kernel), (by decide +kernel : (227, "the entry is struck, or its fight does not go on") ∈ kStr), gxX3_checkCanBeCorrected_S, dX3_checkCanBeCorrected_7, dX3_checkCanBeCorrected_10, Or.inl ⟨rfl, dX3_checkCanBeCorrected_11⟩, dX3_checkCanBeCorrected_13, dX3_checkCanBeCorrected_16, (by decide), (Nat.le_of_ble_eq_true rfl)⟩ (⟨⟨rfl, c1⟩, rfl⟩)

