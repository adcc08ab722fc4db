abbrev rmX3_slot : Room := { frames := 7, cells := 4, slots := 24, locals := 110 }
theorem hinX3_slot_3 : ∀ w ∈ u_ws RX3 TX3 15, w ∈ wsX3_slot := by decide +kernel
theorem fwX3_slot_35 : Cond.fieldLink RX3 35 "Castdesk" "slotPlayers" "[I" ∈ wsX3_slot := by decide +kernel
theorem fwX3_slot_175 : Cond.fieldLink RX3 175 "Castdesk" "slots" "I" ∈ wsX3_slot := by decide +kernel
theorem gxX3_slot_S : ∀ w ∈ (vx_atS RX3 110 kIS kNm).filter goodWord, w ∈ wsX3_slot := by decide +kernel
set_option maxHeartbeats 4000000 in
set_option maxRecDepth 100000 in
theorem tX3_slot {E : kE} {a cap : Nat → Nat} {h0 : kH} (dt : kM)  (nF nC nE w : Nat) (hg : dgeo E a cap nF nC nE h0) (hd : dwf dt nF nC nE w) (x y : Int32) : kXi E yX3_slot wsX3_slot rmX3_slot 4 24 [.ref (a 15), .int x, .int y] (dw E a cap nF nC nE dt h0) (fun Ec h' => ((Ec = kIO ∧ ¬ (¬ x < 0 ∧ x < 6)) ∨ (Ec = kIO ∧ (¬ x < 0 ∧ x < 6) ∧ ¬ (¬ y < 0 ∧ y < 10)) ∨ (Ec = kIS ∧ (¬ x < 0 ∧ x < 6) ∧ (¬ y < 0 ∧ y < 10) ∧ ¬ (dt 34 x.toNatClampNeg &&& ((1 : Int32) <<< (y &&& 31)) = 0)) ∨ (Ec = kIS ∧ (¬ x < 0 ∧ x < 6) ∧ (¬ y < 0 ∧ y < 10) ∧ (dt 34 x.toNatClampNeg &&& ((1 : Int32) <<< (y &&& 31)) = 0) ∧ ¬ (dt 28 0 < 12))) ∧ h' = dw E a cap nF nC nE dt h0) (fun r h' => (¬ x < 0 ∧ x < 6) ∧ (¬ y < 0 ∧ y < 10) ∧ (dt 34 x.toNatClampNeg &&& ((1 : Int32) <<< (y &&& 31)) = 0) ∧ (dt 28 0 < 12) ∧ r = dt 28 0 + 1 ∧ h' = dw E a cap nF nC nE (ms (ma dt 34 x.toNatClampNeg (dt 34 x.toNatClampNeg ||| ((1 : Int32) <<< (y &&& 31)))) 28 (dt 28 0 + 1)) h0) := by
  obtain ⟨hF, hF20, hC, hC6, hE, hE80, hW, hW3, hpl, hof, hsp⟩ := id hd
  refine kXi_of (rt := .int) (own := RX3) (cc := cX3_slot) (maxL := 4) (by decide) rfl rfl ⟨rfl, rfl⟩ (Nat.le_of_ble_eq_true rfl) ?_
  intro X kret kthr kout
  refine r_lo (lo' := [(0, .ref (a 15)), (1, .int x), (2, .int y)]) [0, 1, 2] rfl ?_
  refine r_iload_n dX3_slot_0 1 rfl ?_
  refine r_callXSv (nn := 1) (As := [.int x]) (st := []) dX3_slot_1 (tX3_checkSponsor x) gX3_slot_X3_checkSponsor rfl (by decide +kernel) ⟨Nat.le_of_ble_eq_true rfl, Nat.le_of_ble_eq_true rfl⟩ ⟨rfl, rfl⟩ rfl (Nat.le_of_ble_eq_true rfl) ⟨Nat.le_of_ble_eq_true rfl, Nat.le_of_ble_eq_true rfl⟩ rfl (fun Ec hh hp => kout _ _ _ _ _ _ (Nat.le_of_ble_eq_true rfl) (Nat.le_of_ble_eq_true rfl) (⟨Or.inl (⟨hp.1.1, hp.1.2⟩), hp.2⟩)) (fun hh hp => ?_)
  obtain ⟨g1, rfl⟩ := hp
  refine r_iload_n dX3_slot_4 2 rfl ?_
  refine r_callXSv (nn := 1) (As := [.int y]) (st := []) dX3_slot_5 (tX3_checkPlayer y) gX3_slot_X3_checkPlayer rfl (by decide +kernel) ⟨Nat.le_of_ble_eq_true rfl, Nat.le_of_ble_eq_true rfl⟩ ⟨rfl, rfl⟩ rfl (Nat.le_of_ble_eq_true rfl) ⟨Nat.le_of_ble_eq_true rfl, Nat.le_of_ble_eq_true rfl⟩ rfl (fun Ec hh hp => kout _ _ _ _ _ _ (Nat.le_of_ble_eq_true rfl) (Nat.le_of_ble_eq_true rfl) (⟨Or.inr (Or.inl (⟨hp.1.1, g1, hp.1.2⟩)), hp.2⟩)) (fun hh hp => ?_)
  obtain ⟨g2, rfl⟩ := hp
  refine r_iconst (v := 1) dX3_slot_8 (by decide) ?_
  refine r_iload_n dX3_slot_9 2 rfl ?_
  refine r_ishl dX3_slot_10 ?_
  refine r_istore_n (lo' := [(3, .int ((1 : Int32) <<< (y &&& 31))), (0, .ref (a 15)), (1, .int x), (2, .int y)]) dX3_slot_11 (by decide) rfl ?_
  refine r_aload_n dX3_slot_12 1 rfl ?_
  refine r_get (C := RX3) (b := .ref (a 7)) dX3_slot_13 hinX3_slot_3 (dw_obj hg) rfl 7 (by decide) fwX3_slot_35 rfl rfl ?_
  refine r_iload_n dX3_slot_16 2 rfl ?_
  refine d_aldx (v := dt 34 x.toNatClampNeg) hg 7 34 (by decide) rfl dX3_slot_17 (vp_of (n := 6) g1.1 g1.2 (by decide)) rfl ?_
  refine r_iload_n dX3_slot_18 0 rfl ?_
  refine r_iand dX3_slot_19 ?_
  refine r_if_eq (tgt := 33) dX3_slot_20 (by decide) (fun c1 => ?_) (fun c1 => ?_)
  · skip
    refine r_aload_n dX3_slot_33 1 rfl ?_
    refine r_get (C := RX3) (b := .int (dt 28 0)) dX3_slot_34 hinX3_slot_3 (dw_obj hg) rfl 8 (by decide) fwX3_slot_175 rfl rfl ?_
    refine r_bipush (v := 12) dX3_slot_37 (by decide) ?_
    refine r_icmp_lt (tgt := 52) dX3_slot_39 (by decide) (fun c2 => ?_) (fun c2 => ?_)
    · skip
      refine r_aload_n dX3_slot_52 1 rfl ?_
      refine r_get (C := RX3) (b := .ref (a 7)) dX3_slot_53 hinX3_slot_3 (dw_obj hg) rfl 7 (by decide) fwX3_slot_35 rfl rfl ?_
      refine r_iload_n dX3_slot_56 2 rfl ?_
      refine r_dup2 dX3_slot_57 rfl rfl ?_
      refine d_aldx (v := dt 34 x.toNatClampNeg) hg 7 34 (by decide) rfl dX3_slot_58 (vp_of (n := 6) g1.1 g1.2 (by decide)) rfl ?_
      refine r_iload_n dX3_slot_59 0 rfl ?_
      refine r_ior dX3_slot_60 ?_
      refine d_astx hg 7 34 (by decide) rfl dX3_slot_61 (vp_of (n := 6) g1.1 g1.2 (by decide)) ?_
      refine r_aload_n dX3_slot_62 1 rfl ?_
      refine r_dup dX3_slot_63 rfl ?_
      refine r_get (C := RX3) (b := .int (dt 28 0)) dX3_slot_64 hinX3_slot_3 (dw_obj hg) rfl 8 (by decide) fwX3_slot_175 rfl rfl ?_
      refine r_iconst (v := 1) dX3_slot_67 (by decide) ?_
      refine r_iadd dX3_slot_68 ?_
      refine d_put hg hinX3_slot_3 8 28 (by decide) dX3_slot_69 fwX3_slot_175 rfl rfl rfl ?_
      refine r_aload_n dX3_slot_72 1 rfl ?_
      refine r_get (C := RX3) (b := .int ((dt 28 0) + 1)) dX3_slot_73 hinX3_slot_3 (dw_obj hg) rfl 8 (by decide) fwX3_slot_175 rfl rfl ?_
      exact kret _ _ _ _ _ _ (Nat.le_of_ble_eq_true rfl) (Nat.le_of_ble_eq_true rfl) dX3_slot_76 rfl (⟨g1, g2, c1, c2, rfl, rfl⟩)
    · skip
      exact kthr _ _ _ _ _ [] _ (Nat.le_of_ble_eq_true rfl) (Nat.le_of_ble_eq_true rfl) ⟨_, _, _, _, _, kSt_S, rfl, (by decide +kernel), (by decide +kernel), (by decide +kernel : (178, "there are 12 slots") ∈ kStr), gxX3_slot_S, dX3_slot_42, dX3_slot_45, Or.inl ⟨rfl, dX3_slot_46⟩, dX3_slot_48, dX3_slot_51, (by decide), (Nat.le_of_ble_eq_true rfl)⟩ (⟨Or.inr (Or.inr (Or.inr ((⟨rfl, g1, g2, c1, c2⟩)))), rfl⟩)
  · skip
    exact kthr _ _ _ _ _ [] _ (Nat.le_of_ble_eq_true rfl) (Nat.le_of_ble_eq_true rfl) ⟨_, _, _, _, _, kSt_S, rfl, (by decide +kernel), (by decide +kernel), (by decide +kernel : (173, "there is such a slot") ∈ kStr), gxX3_slot_S, dX3_slot_23, dX3_slot_26, Or.inl ⟨rfl, dX3_slot_27⟩, dX3_slot_29, dX3_slot_32, (by decide), (Nat.le_of_ble_eq_true rfl)⟩ (⟨Or.inr (Or.inr (Or.inl (⟨rfl, g1, g2, c1⟩))), rfl⟩)

abbrev rmX3_shown : Room := { frames := 6, cells := 1, slots := 6, locals := 90 }
theorem hinX3_shown_3 : ∀ w ∈ u_ws RX3 TX3 15, w ∈ wsX3_shown := by decide +kernel
theorem fwX3_shown_45 : Cond.fieldLink RX3 45 "Castdesk" "shownFight" "[I" ∈ wsX3_shown := by decide +kernel
theorem fwX3_shown_48 : Cond.fieldLink RX3 48 "Castdesk" "shownCamera" "[I" ∈ wsX3_shown := by decide +kernel
theorem fwX3_shown_51 : Cond.fieldLink RX3 51 "Castdesk" "shownSponsor" "[I" ∈ wsX3_shown := by decide +kernel
theorem fwX3_shown_85 : Cond.fieldLink RX3 85 "Castdesk" "now" "I" ∈ wsX3_shown := by decide +kernel
theorem gxX3_shown_A : ∀ w ∈ (vx_atS RX3 66 kIA kNm).filter goodWord, w ∈ wsX3_shown := by decide +kernel
theorem gxX3_shown_B : ∀ w ∈ (vx_atS RX3 184 kIO kNm).filter goodWord, w ∈ wsX3_shown := by decide +kernel
set_option maxHeartbeats 4000000 in
set_option maxRecDepth 100000 in
theorem tX3_shown {E : kE} {a cap : Nat → Nat} {h0 : kH} (dt : kM)  (nF nC nE w : Nat) (hg : dgeo E a cap nF nC nE h0) (hd : dwf dt nF nC nE w) (x y : Int32) : kXi E yX3_shown wsX3_shown rmX3_shown 1 6 [.ref (a 15), .int x, .int y] (dw E a cap nF nC nE dt h0) (fun Ec h' => ((Ec = kIO ∧ ¬ (¬ x < 0 ∧ x < nI w)) ∨ (Ec = kIA ∧ (¬ x < 0 ∧ x < nI w) ∧ ¬ (y = 0 ∨ y = 1 ∨ y = 2))) ∧ h' = dw E a cap nF nC nE dt h0) (fun r h' => (¬ x < 0 ∧ x < nI w) ∧ (y = 0 ∨ y = 1 ∨ y = 2) ∧ r = (if y = 0 then dt 17 x.toNatClampNeg else (if y = 1 then dt 18 x.toNatClampNeg else dt 19 x.toNatClampNeg)) ∧ h' = dw E a cap nF nC nE dt h0) := by
  obtain ⟨hF, hF20, hC, hC6, hE, hE80, hW, hW3, hpl, hof, hsp⟩ := id hd
  refine kXi_of (rt := .int) (own := RX3) (cc := cX3_shown) (maxL := 3) (by decide) rfl rfl ⟨rfl, rfl⟩ (Nat.le_of_ble_eq_true rfl) ?_
  intro X kret kthr kout
  refine r_lo (lo' := [(0, .ref (a 15)), (1, .int x), (2, .int y)]) [0, 1, 2] rfl ?_
  refine r_iload_n dX3_shown_0 1 rfl ?_
  refine r_if_lt (tgt := 12) dX3_shown_1 (by decide) (fun c1 => ?_) (fun c1 => ?_)
  · skip
    exact kthr _ _ _ _ _ [] _ (Nat.le_of_ble_eq_true rfl) (Nat.le_of_ble_eq_true rfl) ⟨_, _, _, _, _, kSt_B, rfl, (by decide +kernel), (by decide +kernel), (by decide +kernel : (182, "no such frame has passed") ∈ kStr), gxX3_shown_B, dX3_shown_12, dX3_shown_15, Or.inl ⟨rfl, dX3_shown_16⟩, dX3_shown_18, dX3_shown_21, (by decide), (Nat.le_of_ble_eq_true rfl)⟩ (⟨Or.inl (⟨rfl, fun z => z.1 c1⟩), rfl⟩)
  · skip
    refine r_iload_n dX3_shown_4 1 rfl ?_
    refine r_aload_n dX3_shown_5 0 rfl ?_
    refine r_get (C := RX3) (b := .int (nI w)) dX3_shown_6 hinX3_shown_3 (dw_obj hg) rfl 9 (by decide) fwX3_shown_85 rfl (by show some (Value.int (dt 1 0)) = _; rw [show dt 1 0 = nI w from hW]) ?_
    refine r_icmp_lt (tgt := 22) dX3_shown_9 (by decide) (fun c2 => ?_) (fun c2 => ?_)
    · skip
      refine r_iload_n dX3_shown_22 2 rfl ?_
      by_cases k3 : y = 0
      · subst k3
        refine r_tableIn (tgt := 48) dX3_shown_23 (by decide) (by decide) rfl (by decide) ?_
        refine r_aload_n dX3_shown_48 0 rfl ?_
        refine r_get (C := RX3) (b := .ref (a 12)) dX3_shown_49 hinX3_shown_3 (dw_obj hg) rfl 12 (by decide) fwX3_shown_45 rfl rfl ?_
        refine r_iload_n dX3_shown_52 1 rfl ?_
        refine d_aldx (v := dt 17 x.toNatClampNeg) hg 12 17 (by decide) rfl dX3_shown_53 (vp_mono (vp_of c1 c2 (by omega)) (by show w ≤ 3000; omega)) rfl ?_
        exact kret _ _ _ _ _ _ (Nat.le_of_ble_eq_true rfl) (Nat.le_of_ble_eq_true rfl) dX3_shown_54 rfl (⟨⟨c1, c2⟩, Or.inl rfl, (if_pos rfl).symm, rfl⟩)
      by_cases k4 : y = 1
      · subst k4
        refine r_tableIn (tgt := 55) dX3_shown_23 (by decide) (by decide) rfl (by decide) ?_
        refine r_aload_n dX3_shown_55 0 rfl ?_
        refine r_get (C := RX3) (b := .ref (a 13)) dX3_shown_56 hinX3_shown_3 (dw_obj hg) rfl 13 (by decide) fwX3_shown_48 rfl rfl ?_
        refine r_iload_n dX3_shown_59 1 rfl ?_
        refine d_aldx (v := dt 18 x.toNatClampNeg) hg 13 18 (by decide) rfl dX3_shown_60 (vp_mono (vp_of c1 c2 (by omega)) (by show w ≤ 3000; omega)) rfl ?_
        exact kret _ _ _ _ _ _ (Nat.le_of_ble_eq_true rfl) (Nat.le_of_ble_eq_true rfl) dX3_shown_61 rfl (⟨⟨c1, c2⟩, Or.inr (Or.inl rfl), ((if_neg (by decide)).trans (if_pos rfl)).symm, rfl⟩)
      by_cases k5 : y = 2
      · subst k5
        refine r_tableIn (tgt := 62) dX3_shown_23 (by decide) (by decide) rfl (by decide) ?_
        refine r_aload_n dX3_shown_62 0 rfl ?_
        refine r_get (C := RX3) (b := .ref (a 14)) dX3_shown_63 hinX3_shown_3 (dw_obj hg) rfl 14 (by decide) fwX3_shown_51 rfl rfl ?_
        refine r_iload_n dX3_shown_66 1 rfl ?_
        refine d_aldx (v := dt 19 x.toNatClampNeg) hg 14 19 (by decide) rfl dX3_shown_67 (vp_mono (vp_of c1 c2 (by omega)) (by show w ≤ 3000; omega)) rfl ?_
        exact kret _ _ _ _ _ _ (Nat.le_of_ble_eq_true rfl) (Nat.le_of_ble_eq_true rfl) dX3_shown_68 rfl (⟨⟨c1, c2⟩, Or.inr (Or.inr (rfl)), ((if_neg (by decide)).trans (if_neg (by decide))).symm, rfl⟩)
      have t0 : y.toInt ≠ 0 := fun z => k3 (kI_eq.mpr z)
      have t1 : y.toInt ≠ 1 := fun z => k4 (kI_eq.mpr z)
      have t2 : y.toInt ≠ 2 := fun z => k5 (kI_eq.mpr z)
      refine r_tableOut (tgt := 69) dX3_shown_23 (by omega) (by decide) ?_
      exact kthr _ _ _ _ _ [] _ (Nat.le_of_ble_eq_true rfl) (Nat.le_of_ble_eq_true rfl) ⟨_, _, _, _, _, kSt_A, rfl, (by decide +kernel), (by decide +kernel), (by decide +kernel : (185, "what is 0 to 2") ∈ kStr), gxX3_shown_A, dX3_shown_69, dX3_shown_72, Or.inl ⟨rfl, dX3_shown_73⟩, dX3_shown_75, dX3_shown_78, (by decide), (Nat.le_of_ble_eq_true rfl)⟩ (⟨Or.inr ((⟨rfl, ⟨c1, c2⟩, fun z => z.elim k3 (fun z => z.elim k4 (fun z => k5 z))⟩)), rfl⟩)
    · skip
      exact kthr _ _ _ _ _ [] _ (Nat.le_of_ble_eq_true rfl) (Nat.le_of_ble_eq_true rfl) ⟨_, _, _, _, _, kSt_B, rfl, (by decide +kernel), (by decide +kernel), (by decide +kernel : (182, "no such frame has passed") ∈ kStr), gxX3_shown_B, dX3_shown_12, dX3_shown_15, Or.inl ⟨rfl, dX3_shown_16⟩, dX3_shown_18, dX3_shown_21, (by decide), (Nat.le_of_ble_eq_true rfl)⟩ (⟨Or.inl (⟨rfl, fun z => c2 z.2⟩), rfl⟩)

abbrev rmX3_fightOf : Room := { frames := 7, cells := 2, slots := 12, locals := 111 }
theorem hinX3_fightOf_2 : ∀ w ∈ u_ws RX2 TX2 7, w ∈ wsX3_fightOf := by decide +kernel
theorem fwX3_fightOf_88 : Cond.fieldLink RX3 88 "Castdesk$Fight" "first" "I" ∈ wsX3_fightOf := by decide +kernel
theorem fwX3_fightOf_97 : Cond.fieldLink RX3 97 "Castdesk$Fight" "second" "I" ∈ wsX3_fightOf := by decide +kernel
theorem fwX3_fightOf_100 : Cond.fieldLink RX3 100 "Castdesk$Fight" "state" "I" ∈ wsX3_fightOf := by decide +kernel
theorem fwX3_fightOf_103 : Cond.fieldLink RX3 103 "Castdesk$Fight" "winner" "I" ∈ wsX3_fightOf := by decide +kernel
theorem fwX3_fightOf_187 : Cond.fieldLink RX3 187 "Castdesk$Fight" "framesShown" "I" ∈ wsX3_fightOf := by decide +kernel
theorem gxX3_fightOf_A : ∀ w ∈ (vx_atS RX3 66 kIA kNm).filter goodWord, w ∈ wsX3_fightOf := by decide +kernel
set_option maxHeartbeats 4000000 in
set_option maxRecDepth 100000 in
theorem tX3_fightOf {E : kE} {a cap : Nat → Nat} {h0 : kH} (dt : kM)  (nF nC nE w : Nat) (hg : dgeo E a cap nF nC nE h0) (hd : dwf dt nF nC nE w) (x y : Int32) : kXi E yX3_fightOf wsX3_fightOf rmX3_fightOf 2 12 [.ref (a 15), .int x, .int y] (dw E a cap nF nC nE dt h0) (fun Ec h' => ((Ec = kIO ∧ ¬ (¬ x < 0 ∧ x < nI nF)) ∨ ∃ o, o < nF ∧ x = nI o ∧ ((Ec = kIA ∧ ¬ (y = 0 ∨ y = 1 ∨ y = 2 ∨ y = 3 ∨ y = 4)))) ∧ h' = dw E a cap nF nC nE dt h0) (fun r h' => ∃ o, o < nF ∧ x = nI o ∧ (y = 0 ∨ y = 1 ∨ y = 2 ∨ y = 3 ∨ y = 4) ∧ r = (if y = 0 then dt 6 o else (if y = 1 then dt 7 o else (if y = 2 then dt 8 o else (if y = 3 then dt 9 o else dt 31 o)))) ∧ h' = dw E a cap nF nC nE dt h0) := by
  obtain ⟨hF, hF20, hC, hC6, hE, hE80, hW, hW3, hpl, hof, hsp⟩ := id hd
  refine kXi_of (rt := .int) (own := RX3) (cc := cX3_fightOf) (maxL := 4) (by decide) rfl rfl ⟨rfl, rfl⟩ (Nat.le_of_ble_eq_true rfl) ?_
  intro X kret kthr kout
  refine r_lo (lo' := [(0, .ref (a 15)), (1, .int x), (2, .int y)]) [0, 1, 2] rfl ?_
  refine r_aload_n dX3_fightOf_0 0 rfl ?_
  refine r_iload_n dX3_fightOf_1 1 rfl ?_
  refine r_callXVq (nn := 1) (As := [.int x]) (st := []) dX3_fightOf_2 (tX3_fightNumbered dt nF nC nE w hg hd x) gX3_fightOf_X3_fightNumbered rfl (by decide +kernel) ⟨Nat.le_of_ble_eq_true rfl, Nat.le_of_ble_eq_true rfl⟩ ⟨rfl, rfl⟩ (dw_obj hg) rfl rfl (Nat.le_of_ble_eq_true rfl) ⟨Nat.le_of_ble_eq_true rfl, Nat.le_of_ble_eq_true rfl⟩ rfl (fun Ec hh hp => kout _ _ _ _ _ _ (Nat.le_of_ble_eq_true rfl) (Nat.le_of_ble_eq_true rfl) (⟨Or.inl ⟨hp.1.1, hp.1.2⟩, hp.2⟩)) (fun r hh hp => ?_)
  obtain ⟨o, ho, rfl, rfl, rfl⟩ := hp
  refine r_astore_n (lo' := [(3, .ref (a (20 + o))), (0, .ref (a 15)), (1, .int (nI o)), (2, .int y)]) dX3_fightOf_5 (by decide) rfl ?_
  refine r_iload_n dX3_fightOf_6 3 rfl ?_
  by_cases k1 : y = 0
  · subst k1
    refine r_tableIn (tgt := 40) dX3_fightOf_7 (by decide) (by decide) rfl (by decide) ?_
    refine r_aload_n dX3_fightOf_40 0 rfl ?_
    refine r_get (C := RX2) (b := .int (dt 6 o)) dX3_fightOf_41 hinX3_fightOf_2 (dw_fgt hg (by omega)) rfl 3 (by decide) fwX3_fightOf_100 rfl rfl ?_
    exact kret _ _ _ _ _ _ (Nat.le_of_ble_eq_true rfl) (Nat.le_of_ble_eq_true rfl) dX3_fightOf_44 rfl (⟨o, ho, rfl, Or.inl rfl, (if_pos rfl).symm, rfl⟩)
  by_cases k2 : y = 1
  · subst k2
    refine r_tableIn (tgt := 45) dX3_fightOf_7 (by decide) (by decide) rfl (by decide) ?_
    refine r_aload_n dX3_fightOf_45 0 rfl ?_
    refine r_get (C := RX2) (b := .int (dt 7 o)) dX3_fightOf_46 hinX3_fightOf_2 (dw_fgt hg (by omega)) rfl 1 (by decide) fwX3_fightOf_88 rfl rfl ?_
    exact kret _ _ _ _ _ _ (Nat.le_of_ble_eq_true rfl) (Nat.le_of_ble_eq_true rfl) dX3_fightOf_49 rfl (⟨o, ho, rfl, Or.inr (Or.inl rfl), ((if_neg (by decide)).trans (if_pos rfl)).symm, rfl⟩)
  by_cases k3 : y = 2
  · subst k3
    refine r_tableIn (tgt := 50) dX3_fightOf_7 (by decide) (by decide) rfl (by decide) ?_
    refine r_aload_n dX3_fightOf_50 0 rfl ?_
    refine r_get (C := RX2) (b := .int (dt 8 o)) dX3_fightOf_51 hinX3_fightOf_2 (dw_fgt hg (by omega)) rfl 2 (by decide) fwX3_fightOf_97 rfl rfl ?_
    exact kret _ _ _ _ _ _ (Nat.le_of_ble_eq_true rfl) (Nat.le_of_ble_eq_true rfl) dX3_fightOf_54 rfl (⟨o, ho, rfl, Or.inr (Or.inr (Or.inl rfl)), ((if_neg (by decide)).trans ((if_neg (by decide)).trans (if_pos rfl))).symm, rfl⟩)
  by_cases k4 : y = 3
  · subst k4
    refine r_tableIn (tgt := 55) dX3_fightOf_7 (by decide) (by decide) rfl (by decide) ?_
    refine r_aload_n dX3_fightOf_55 0 rfl ?_
    refine r_get (C := RX2) (b := .int (dt 9 o)) dX3_fightOf_56 hinX3_fightOf_2 (dw_fgt hg (by omega)) rfl 4 (by decide) fwX3_fightOf_103 rfl rfl ?_
    exact kret _ _ _ _ _ _ (Nat.le_of_ble_eq_true rfl) (Nat.le_of_ble_eq_true rfl) dX3_fightOf_59 rfl (⟨o, ho, rfl, Or.inr (Or.inr (Or.inr (Or.inl rfl))), ((if_neg (by decide)).trans ((if_neg (by decide)).trans ((if_neg (by decide)).trans (if_pos rfl)))).symm, rfl⟩)
  by_cases k5 : y = 4
  · subst k5
    refine r_tableIn (tgt := 60) dX3_fightOf_7 (by decide) (by decide) rfl (by decide) ?_
    refine r_aload_n dX3_fightOf_60 0 rfl ?_
    refine r_get (C := RX2) (b := .int (dt 31 o)) dX3_fightOf_61 hinX3_fightOf_2 (dw_fgt hg (by omega)) rfl 5 (by decide) fwX3_fightOf_187 rfl rfl ?_
    exact kret _ _ _ _ _ _ (Nat.le_of_ble_eq_true rfl) (Nat.le_of_ble_eq_true rfl) dX3_fightOf_64 rfl (⟨o, ho, rfl, Or.inr (Or.inr (Or.inr (Or.inr (rfl)))), ((if_neg (by decide)).trans ((if_neg (by decide)).trans ((if_neg (by decide)).trans (if_neg (by decide))))).symm, rfl⟩)
  have t0 : y.toInt ≠ 0 := fun z => k1 (kI_eq.mpr z)
  have t1 : y.toInt ≠ 1 := fun z => k2 (kI_eq.mpr z)
  have t2 : y.toInt ≠ 2 := fun z => k3 (kI_eq.mpr z)
  have t3 : y.toInt ≠ 3 := fun z => k4 (kI_eq.mpr z)
  have t4 : y.toInt ≠ 4 := fun z => k5 (kI_eq.mpr z)
  refine r_tableOut (tgt := 65) dX3_fightOf_7 (by omega) (by decide) ?_
  exact kthr _ _ _ _ _ [] _ (Nat.le_of_ble_eq_true rfl) (Nat.le_of_ble_eq_true rfl) ⟨_, _, _, _, _, kSt_A, rfl, (by decide +kernel), (by decide +kernel), (by decide +kernel : (190, "what is 0 to 4") ∈ kStr), gxX3_fightOf_A, dX3_fightOf_65, dX3_fightOf_68, Or.inl ⟨rfl, dX3_fightOf_69⟩, dX3_fightOf_71, dX3_fightOf_74, (by decide), (Nat.le_of_ble_eq_true rfl)⟩ (⟨Or.inr ⟨o, ho, rfl, ⟨rfl, fun z => z.elim k1 (fun z => z.elim k2 (fun z => z.elim k3 (fun z => z.elim k4 (fun z => k5 z))))⟩⟩, rfl⟩)

abbrev rmX3_cameraOf : Room := { frames := 6, cells := 1, slots := 6, locals := 90 }
theorem hinX3_cameraOf_0 : ∀ w ∈ u_ws RX0 TX0 4, w ∈ wsX3_cameraOf := by decide +kernel
theorem hinX3_cameraOf_3 : ∀ w ∈ u_ws RX3 TX3 15, w ∈ wsX3_cameraOf := by decide +kernel
theorem fwX3_cameraOf_23 : Cond.fieldLink RX3 23 "Castdesk" "cameras" "Ljava/util/ArrayList;" ∈ wsX3_cameraOf := by decide +kernel
theorem fwX3_cameraOf_198 : Cond.fieldLink RX3 198 "Castdesk$Camera" "onAir" "I" ∈ wsX3_cameraOf := by decide +kernel
theorem fwX3_cameraOf_201 : Cond.fieldLink RX3 201 "Castdesk$Camera" "toBeOff" "I" ∈ wsX3_cameraOf := by decide +kernel
theorem gxX3_cameraOf_A : ∀ w ∈ (vx_atS RX3 66 kIA kNm).filter goodWord, w ∈ wsX3_cameraOf := by decide +kernel
theorem gxX3_cameraOf_B : ∀ w ∈ (vx_atS RX3 184 kIO kNm).filter goodWord, w ∈ wsX3_cameraOf := by decide +kernel
set_option maxHeartbeats 4000000 in
set_option maxRecDepth 100000 in
theorem tX3_cameraOf {E : kE} {a cap : Nat → Nat} {h0 : kH} (dt : kM)  (nF nC nE w : Nat) (hg : dgeo E a cap nF nC nE h0) (hd : dwf dt nF nC nE w) (x y : Int32) : kXi E yX3_cameraOf wsX3_cameraOf rmX3_cameraOf 1 6 [.ref (a 15), .int x, .int y] (dw E a cap nF nC nE dt h0) (fun Ec h' => ((Ec = kIO ∧ ¬ (¬ x < 0 ∧ x < nI nC)) ∨ ∃ o, o < nC ∧ x = nI o ∧ ((Ec = kIA ∧ ¬ (y = 0 ∨ y = 1)))) ∧ h' = dw E a cap nF nC nE dt h0) (fun r h' => ∃ o, o < nC ∧ x = nI o ∧ (y = 0 ∨ y = 1) ∧ r = (if y = 0 then dt 13 o else dt 14 o) ∧ h' = dw E a cap nF nC nE dt h0) := by
  obtain ⟨hF, hF20, hC, hC6, hE, hE80, hW, hW3, hpl, hof, hsp⟩ := id hd
  refine kXi_of (rt := .int) (own := RX3) (cc := cX3_cameraOf) (maxL := 4) (by decide) rfl rfl ⟨rfl, rfl⟩ (Nat.le_of_ble_eq_true rfl) ?_
  intro X kret kthr kout
  refine r_lo (lo' := [(0, .ref (a 15)), (1, .int x), (2, .int y)]) [0, 1, 2] rfl ?_
  refine r_iload_n dX3_cameraOf_0 1 rfl ?_
  refine r_if_lt (tgt := 15) dX3_cameraOf_1 (by decide) (fun c1 => ?_) (fun c1 => ?_)
  · skip
    exact kthr _ _ _ _ _ [] _ (Nat.le_of_ble_eq_true rfl) (Nat.le_of_ble_eq_true rfl) ⟨_, _, _, _, _, kSt_B, rfl, (by decide +kernel), (by decide +kernel), (by decide +kernel : (192, "no such camera") ∈ kStr), gxX3_cameraOf_B, dX3_cameraOf_15, dX3_cameraOf_18, Or.inl ⟨rfl, dX3_cameraOf_19⟩, dX3_cameraOf_21, dX3_cameraOf_24, (by decide), (Nat.le_of_ble_eq_true rfl)⟩ (⟨Or.inl ⟨rfl, fun z => z.1 c1⟩, rfl⟩)
  · skip
    refine r_iload_n dX3_cameraOf_4 1 rfl ?_
    refine r_aload_n dX3_cameraOf_5 0 rfl ?_
    refine r_get (C := RX3) (b := .ref (a 3)) dX3_cameraOf_6 hinX3_cameraOf_3 (dw_obj hg) rfl 3 (by decide) fwX3_cameraOf_23 rfl rfl ?_
    refine r_callVi (nn := 0) (As := []) (st := [.int x]) dX3_cameraOf_9 (tJx4a65c_size_8abf5 _ _ _ _ (dw_lstN hg (k := 3) (by decide) hC)) gX3_cameraOf_Jx4a65c_size_8abf5 rfl (by decide +kernel) ⟨Nat.le_of_ble_eq_true rfl, Nat.le_of_ble_eq_true rfl⟩ ⟨rfl, rfl⟩ (dw_lstN hg (k := 3) (by decide) hC) rfl rfl (Nat.le_of_ble_eq_true rfl) ⟨Nat.le_of_ble_eq_true rfl, Nat.le_of_ble_eq_true rfl⟩ rfl (fun r hh hp => ?_)
    obtain ⟨rfl, rfl⟩ := hp
    refine r_icmp_lt (tgt := 25) dX3_cameraOf_12 (by decide) (fun c2 => ?_) (fun c2 => ?_)
    · skip
      obtain ⟨o, ho, hxo⟩ := nat_of c1 c2 (by omega)
      subst hxo
      refine r_aload_n dX3_cameraOf_25 0 rfl ?_
      refine r_get (C := RX3) (b := .ref (a 3)) dX3_cameraOf_26 hinX3_cameraOf_3 (dw_obj hg) rfl 3 (by decide) fwX3_cameraOf_23 rfl rfl ?_
      refine r_iload_n dX3_cameraOf_29 1 rfl ?_
      refine r_callVq (nn := 1) (As := [.int (nI o)]) (st := []) dX3_cameraOf_30 (tg_3 hg hC (by omega)) gX3_cameraOf_Jx4a65c_get_915e3 rfl (by decide +kernel) ⟨Nat.le_of_ble_eq_true rfl, Nat.le_of_ble_eq_true rfl⟩ ⟨rfl, rfl⟩ (dw_lstN hg (k := 3) (by decide) hC) rfl rfl (Nat.le_of_ble_eq_true rfl) ⟨Nat.le_of_ble_eq_true rfl, Nat.le_of_ble_eq_true rfl⟩ rfl (fun r hh hp => ?_)
      obtain ⟨rfl, rfl⟩ := hp
      refine r_cast (C := RX0) dX3_cameraOf_33 (by decide +kernel) (dw_cam hg (by omega)) rfl ?_
      refine r_astore_n (lo' := [(3, .ref (a (40 + o))), (0, .ref (a 15)), (1, .int (nI o)), (2, .int y)]) dX3_cameraOf_36 (by decide) rfl ?_
      refine r_iload_n dX3_cameraOf_37 3 rfl ?_
      by_cases k3 : y = 0
      · subst k3
        refine r_lookup (tgt := 64) dX3_cameraOf_38 (by decide) rfl (by decide) ?_
        refine r_aload_n dX3_cameraOf_64 0 rfl ?_
        refine r_get (C := RX0) (b := .int (dt 13 o)) dX3_cameraOf_65 hinX3_cameraOf_0 (dw_cam hg (by omega)) rfl 2 (by decide) fwX3_cameraOf_198 rfl rfl ?_
        exact kret _ _ _ _ _ _ (Nat.le_of_ble_eq_true rfl) (Nat.le_of_ble_eq_true rfl) dX3_cameraOf_68 rfl (⟨o, ho, rfl, Or.inl rfl, (if_pos rfl).symm, rfl⟩)
      by_cases k4 : y = 1
      · subst k4
        refine r_lookup (tgt := 69) dX3_cameraOf_38 (by decide) rfl (by decide) ?_
        refine r_aload_n dX3_cameraOf_69 0 rfl ?_
        refine r_get (C := RX0) (b := .int (dt 14 o)) dX3_cameraOf_70 hinX3_cameraOf_0 (dw_cam hg (by omega)) rfl 3 (by decide) fwX3_cameraOf_201 rfl rfl ?_
        exact kret _ _ _ _ _ _ (Nat.le_of_ble_eq_true rfl) (Nat.le_of_ble_eq_true rfl) dX3_cameraOf_73 rfl (⟨o, ho, rfl, Or.inr (rfl), (if_neg (by decide)).symm, rfl⟩)
      have t0 : y.toInt ≠ 0 := fun z => k3 (kI_eq.mpr z)
      have t1 : y.toInt ≠ 1 := fun z => k4 (kI_eq.mpr z)
      refine r_lookup (tgt := 74) dX3_cameraOf_38 (by decide) (show Op.lookupswitch.offset [((0 : Int), (26 : Int)), (1, 31)] 36 y.toInt = 36 by simp [Op.lookupswitch.offset]; omega) (by decide) ?_
      exact kthr _ _ _ _ _ [] _ (Nat.le_of_ble_eq_true rfl) (Nat.le_of_ble_eq_true rfl) ⟨_, _, _, _, _, kSt_A, rfl, (by decide +kernel), (by decide +kernel), (by decide +kernel : (204, "what is 0 or 1") ∈ kStr), gxX3_cameraOf_A, dX3_cameraOf_74, dX3_cameraOf_77, Or.inl ⟨rfl, dX3_cameraOf_78⟩, dX3_cameraOf_80, dX3_cameraOf_83, (by decide), (Nat.le_of_ble_eq_true rfl)⟩ (⟨Or.inr ⟨o, ho, rfl, ⟨rfl, fun z => z.elim k3 (fun z => k4 z)⟩⟩, rfl⟩)
    · skip
      exact kthr _ _ _ _ _ [] _ (Nat.le_of_ble_eq_true rfl) (Nat.le_of_ble_eq_true rfl) ⟨_, _, _, _, _, kSt_B, rfl, (by decide +kernel), (by decide +kernel), (by decide +kernel : (192, "no such camera") ∈ kStr), gxX3_cameraOf_B, dX3_cameraOf_15, dX3_cameraOf_18, Or.inl ⟨rfl, dX3_cameraOf_19⟩, dX3_cameraOf_21, dX3_cameraOf_24, (by decide), (Nat.le_of_ble_eq_true rfl)⟩ (⟨Or.inl ⟨rfl, fun z => c2 z.2⟩, rfl⟩)

abbrev rmX3_points : Room := { frames := 7, cells := 2, slots := 12, locals := 111 }
theorem hinX3_points_3 : ∀ w ∈ u_ws RX3 TX3 15, w ∈ wsX3_points := by decide +kernel
theorem fwX3_points_85 : Cond.fieldLink RX3 85 "Castdesk" "now" "I" ∈ wsX3_points := by decide +kernel
set_option maxHeartbeats 4000000 in
set_option maxRecDepth 100000 in
theorem tX3_points {E : kE} {a cap : Nat → Nat} {h0 : kH} (dt : kM)  (nF nC nE w : Nat) (hg : dgeo E a cap nF nC nE h0) (hd : dwf dt nF nC nE w) (x y : Int32) : kXi E yX3_points wsX3_points rmX3_points 2 12 [.ref (a 15), .int x, .int y] (dw E a cap nF nC nE dt h0) (fun Ec h' => ((Ec = kIO ∧ ¬ (¬ x < 0 ∧ x < nI nF)) ∨ ∃ o, o < nF ∧ x = nI o ∧ ((Ec = kIO ∧ ¬ (¬ y < 0 ∧ y < 10)))) ∧ h' = dw E a cap nF nC nE dt h0) (fun r h' => ∃ o, o < nF ∧ x = nI o ∧ (¬ y < 0 ∧ y < 10) ∧ r = dPts dt (nI w) o y nE ∧ h' = dw E a cap nF nC nE dt h0) := by
  obtain ⟨hF, hF20, hC, hC6, hE, hE80, hW, hW3, hpl, hof, hsp⟩ := id hd
  refine kXi_of (rt := .int) (own := RX3) (cc := cX3_points) (maxL := 4) (by decide) rfl rfl ⟨rfl, rfl⟩ (Nat.le_of_ble_eq_true rfl) ?_
  intro X kret kthr kout
  refine r_lo (lo' := [(0, .ref (a 15)), (1, .int x), (2, .int y)]) [0, 1, 2] rfl ?_
  refine r_aload_n dX3_points_0 0 rfl ?_
  refine r_iload_n dX3_points_1 1 rfl ?_
  refine r_callXVq (nn := 1) (As := [.int x]) (st := []) dX3_points_2 (tX3_fightNumbered dt nF nC nE w hg hd x) gX3_points_X3_fightNumbered rfl (by decide +kernel) ⟨Nat.le_of_ble_eq_true rfl, Nat.le_of_ble_eq_true rfl⟩ ⟨rfl, rfl⟩ (dw_obj hg) rfl rfl (Nat.le_of_ble_eq_true rfl) ⟨Nat.le_of_ble_eq_true rfl, Nat.le_of_ble_eq_true rfl⟩ rfl (fun Ec hh hp => kout _ _ _ _ _ _ (Nat.le_of_ble_eq_true rfl) (Nat.le_of_ble_eq_true rfl) (⟨Or.inl ⟨hp.1.1, hp.1.2⟩, hp.2⟩)) (fun r hh hp => ?_)
  obtain ⟨o, ho, rfl, rfl, rfl⟩ := hp
  refine r_astore_n (lo' := [(3, .ref (a (20 + o))), (0, .ref (a 15)), (1, .int (nI o)), (2, .int y)]) dX3_points_5 (by decide) rfl ?_
  refine r_iload_n dX3_points_6 3 rfl ?_
  refine r_callXSv (nn := 1) (As := [.int y]) (st := []) dX3_points_7 (tX3_checkPlayer y) gX3_points_X3_checkPlayer rfl (by decide +kernel) ⟨Nat.le_of_ble_eq_true rfl, Nat.le_of_ble_eq_true rfl⟩ ⟨rfl, rfl⟩ rfl (Nat.le_of_ble_eq_true rfl) ⟨Nat.le_of_ble_eq_true rfl, Nat.le_of_ble_eq_true rfl⟩ rfl (fun Ec hh hp => kout _ _ _ _ _ _ (Nat.le_of_ble_eq_true rfl) (Nat.le_of_ble_eq_true rfl) (⟨Or.inr ⟨o, ho, rfl, ⟨hp.1.1, hp.1.2⟩⟩, hp.2⟩)) (fun hh hp => ?_)
  obtain ⟨g1, rfl⟩ := hp
  refine r_aload_n dX3_points_10 1 rfl ?_
  refine r_aload_n dX3_points_11 1 rfl ?_
  refine r_get (C := RX3) (b := .int (nI w)) dX3_points_12 hinX3_points_3 (dw_obj hg) rfl 9 (by decide) fwX3_points_85 rfl (by show some (Value.int (dt 1 0)) = _; rw [show dt 1 0 = nI w from hW]) ?_
  refine r_aload_n dX3_points_15 0 rfl ?_
  refine r_iload_n dX3_points_16 3 rfl ?_
  refine r_callVi (nn := 3) (As := [.int (nI w), .ref (a (20 + o)), .int y]) (st := []) dX3_points_17 (tX3_pointsUpTo dt nF nC nE w hg hd o (by omega) (nI w) y) gX3_points_X3_pointsUpTo rfl (by decide +kernel) ⟨Nat.le_of_ble_eq_true rfl, Nat.le_of_ble_eq_true rfl⟩ ⟨rfl, rfl⟩ (dw_obj hg) rfl rfl (Nat.le_of_ble_eq_true rfl) ⟨Nat.le_of_ble_eq_true rfl, Nat.le_of_ble_eq_true rfl⟩ rfl (fun r hh hp => ?_)
  obtain ⟨rfl, rfl⟩ := hp
  exact kret _ _ _ _ _ _ (Nat.le_of_ble_eq_true rfl) (Nat.le_of_ble_eq_true rfl) dX3_points_20 rfl (⟨o, ho, rfl, g1, rfl, rfl⟩)

abbrev rmX3_overlay : Room := { frames := 7, cells := 2, slots := 12, locals := 111 }
theorem hinX3_overlay_3 : ∀ w ∈ u_ws RX3 TX3 15, w ∈ wsX3_overlay := by decide +kernel
theorem fwX3_overlay_42 : Cond.fieldLink RX3 42 "Castdesk" "seenUpTo" "I" ∈ wsX3_overlay := by decide +kernel
set_option maxHeartbeats 4000000 in
set_option maxRecDepth 100000 in
theorem tX3_overlay {E : kE} {a cap : Nat → Nat} {h0 : kH} (dt : kM)  (nF nC nE w : Nat) (hg : dgeo E a cap nF nC nE h0) (hd : dwf dt nF nC nE w) (x y : Int32) : kXi E yX3_overlay wsX3_overlay rmX3_overlay 2 12 [.ref (a 15), .int x, .int y] (dw E a cap nF nC nE dt h0) (fun Ec h' => ((Ec = kIO ∧ ¬ (¬ x < 0 ∧ x < nI nF)) ∨ ∃ o, o < nF ∧ x = nI o ∧ ((Ec = kIO ∧ ¬ (¬ y < 0 ∧ y < 10)))) ∧ h' = dw E a cap nF nC nE dt h0) (fun r h' => ∃ o, o < nF ∧ x = nI o ∧ (¬ y < 0 ∧ y < 10) ∧ r = dPts dt (dt 3 0) o y nE ∧ h' = dw E a cap nF nC nE dt h0) := by
  obtain ⟨hF, hF20, hC, hC6, hE, hE80, hW, hW3, hpl, hof, hsp⟩ := id hd
  refine kXi_of (rt := .int) (own := RX3) (cc := cX3_overlay) (maxL := 4) (by decide) rfl rfl ⟨rfl, rfl⟩ (Nat.le_of_ble_eq_true rfl) ?_
  intro X kret kthr kout
  refine r_lo (lo' := [(0, .ref (a 15)), (1, .int x), (2, .int y)]) [0, 1, 2] rfl ?_
  refine r_aload_n dX3_overlay_0 0 rfl ?_
  refine r_iload_n dX3_overlay_1 1 rfl ?_
  refine r_callXVq (nn := 1) (As := [.int x]) (st := []) dX3_overlay_2 (tX3_fightNumbered dt nF nC nE w hg hd x) gX3_overlay_X3_fightNumbered rfl (by decide +kernel) ⟨Nat.le_of_ble_eq_true rfl, Nat.le_of_ble_eq_true rfl⟩ ⟨rfl, rfl⟩ (dw_obj hg) rfl rfl (Nat.le_of_ble_eq_true rfl) ⟨Nat.le_of_ble_eq_true rfl, Nat.le_of_ble_eq_true rfl⟩ rfl (fun Ec hh hp => kout _ _ _ _ _ _ (Nat.le_of_ble_eq_true rfl) (Nat.le_of_ble_eq_true rfl) (⟨Or.inl ⟨hp.1.1, hp.1.2⟩, hp.2⟩)) (fun r hh hp => ?_)
  obtain ⟨o, ho, rfl, rfl, rfl⟩ := hp
  refine r_astore_n (lo' := [(3, .ref (a (20 + o))), (0, .ref (a 15)), (1, .int (nI o)), (2, .int y)]) dX3_overlay_5 (by decide) rfl ?_
  refine r_iload_n dX3_overlay_6 3 rfl ?_
  refine r_callXSv (nn := 1) (As := [.int y]) (st := []) dX3_overlay_7 (tX3_checkPlayer y) gX3_overlay_X3_checkPlayer rfl (by decide +kernel) ⟨Nat.le_of_ble_eq_true rfl, Nat.le_of_ble_eq_true rfl⟩ ⟨rfl, rfl⟩ rfl (Nat.le_of_ble_eq_true rfl) ⟨Nat.le_of_ble_eq_true rfl, Nat.le_of_ble_eq_true rfl⟩ rfl (fun Ec hh hp => kout _ _ _ _ _ _ (Nat.le_of_ble_eq_true rfl) (Nat.le_of_ble_eq_true rfl) (⟨Or.inr ⟨o, ho, rfl, ⟨hp.1.1, hp.1.2⟩⟩, hp.2⟩)) (fun hh hp => ?_)
  obtain ⟨g1, rfl⟩ := hp
  refine r_aload_n dX3_overlay_10 1 rfl ?_
  refine r_aload_n dX3_overlay_11 1 rfl ?_
  refine r_get (C := RX3) (b := .int (dt 3 0)) dX3_overlay_12 hinX3_overlay_3 (dw_obj hg) rfl 11 (by decide) fwX3_overlay_42 rfl rfl ?_
  refine r_aload_n dX3_overlay_15 0 rfl ?_
  refine r_iload_n dX3_overlay_16 3 rfl ?_
  refine r_callVi (nn := 3) (As := [.int (dt 3 0), .ref (a (20 + o)), .int y]) (st := []) dX3_overlay_17 (tX3_pointsUpTo dt nF nC nE w hg hd o (by omega) (dt 3 0) y) gX3_overlay_X3_pointsUpTo rfl (by decide +kernel) ⟨Nat.le_of_ble_eq_true rfl, Nat.le_of_ble_eq_true rfl⟩ ⟨rfl, rfl⟩ (dw_obj hg) rfl rfl (Nat.le_of_ble_eq_true rfl) ⟨Nat.le_of_ble_eq_true rfl, Nat.le_of_ble_eq_true rfl⟩ rfl (fun r hh hp => ?_)
  obtain ⟨rfl, rfl⟩ := hp
  exact kret _ _ _ _ _ _ (Nat.le_of_ble_eq_true rfl) (Nat.le_of_ble_eq_true rfl) dX3_overlay_20 rfl (⟨o, ho, rfl, g1, rfl, rfl⟩)

abbrev rmX3_strike : Room := { frames := 7, cells := 4, slots := 24, locals := 111 }
theorem hinX3_strike_1 : ∀ w ∈ u_ws RX1 TX1 5, w ∈ wsX3_strike := by decide +kernel
theorem fwX3_strike_163 : Cond.fieldLink RX3 163 "Castdesk$Entry" "struck" "Z" ∈ wsX3_strike := by decide +kernel
theorem fwX3_strike_167 : Cond.fieldLink RX3 167 "Castdesk$Entry" "points" "I" ∈ wsX3_strike := by decide +kernel
set_option maxHeartbeats 4000000 in
set_option maxRecDepth 100000 in
theorem tX3_strike {E : kE} {a cap : Nat → Nat} {h0 : kH} (dt : kM)  (nF nC nE w : Nat) (hg : dgeo E a cap nF nC nE h0) (hd : dwf dt nF nC nE w) (x : Int32) : kXi E yX3_strike wsX3_strike rmX3_strike 4 24 [.ref (a 15), .int x] (dw E a cap nF nC nE dt h0) (fun Ec h' => ((Ec = kIO ∧ ¬ (¬ x < 0 ∧ x < nI nE)) ∨ ∃ o, o < nE ∧ x = nI o ∧ ((Ec = kIS ∧ ¬ (¬ dCor dt o = 0)))) ∧ h' = dw E a cap nF nC nE dt h0) (fun r h' => ∃ o, o < nE ∧ x = nI o ∧ (¬ dCor dt o = 0) ∧ r = dt 23 o ∧ h' = dw E a cap nF nC nE (ma dt 25 o 1) h0) := by
  obtain ⟨hF, hF20, hC, hC6, hE, hE80, hW, hW3, hpl, hof, hsp⟩ := id hd
  refine kXi_of (rt := .int) (own := RX3) (cc := cX3_strike) (maxL := 3) (by decide) rfl rfl ⟨rfl, rfl⟩ (Nat.le_of_ble_eq_true rfl) ?_
  intro X kret kthr kout
  refine r_lo (lo' := [(0, .ref (a 15)), (1, .int x)]) [0, 1] rfl ?_
  refine r_aload_n dX3_strike_0 0 rfl ?_
  refine r_iload_n dX3_strike_1 1 rfl ?_
  refine r_callXVq (nn := 1) (As := [.int x]) (st := []) dX3_strike_2 (tX3_entryNumbered dt nF nC nE w hg hd x) gX3_strike_X3_entryNumbered rfl (by decide +kernel) ⟨Nat.le_of_ble_eq_true rfl, Nat.le_of_ble_eq_true rfl⟩ ⟨rfl, rfl⟩ (dw_obj hg) rfl rfl (Nat.le_of_ble_eq_true rfl) ⟨Nat.le_of_ble_eq_true rfl, Nat.le_of_ble_eq_true rfl⟩ rfl (fun Ec hh hp => kout _ _ _ _ _ _ (Nat.le_of_ble_eq_true rfl) (Nat.le_of_ble_eq_true rfl) (⟨Or.inl ⟨hp.1.1, hp.1.2⟩, hp.2⟩)) (fun r hh hp => ?_)
  obtain ⟨o, ho, rfl, rfl, rfl⟩ := hp
  refine r_astore_n (lo' := [(2, .ref (a (50 + o))), (0, .ref (a 15)), (1, .int (nI o))]) dX3_strike_5 (by decide) rfl ?_
  refine r_aload_n dX3_strike_6 0 rfl ?_
  refine r_callXSv (nn := 1) (As := [.ref (a (50 + o))]) (st := []) dX3_strike_7 (tX3_checkCanBeCorrected dt nF nC nE w hg hd o ho) gX3_strike_X3_checkCanBeCorrected rfl (by decide +kernel) ⟨Nat.le_of_ble_eq_true rfl, Nat.le_of_ble_eq_true rfl⟩ ⟨rfl, rfl⟩ rfl (Nat.le_of_ble_eq_true rfl) ⟨Nat.le_of_ble_eq_true rfl, Nat.le_of_ble_eq_true rfl⟩ rfl (fun Ec hh hp => kout _ _ _ _ _ _ (Nat.le_of_ble_eq_true rfl) (Nat.le_of_ble_eq_true rfl) (⟨Or.inr ⟨o, ho, rfl, ⟨hp.1.1, fun z => z hp.1.2⟩⟩, hp.2⟩)) (fun hh hp => ?_)
  obtain ⟨g1, rfl⟩ := hp
  refine r_aload_n dX3_strike_10 0 rfl ?_
  refine r_iconst (v := 1) dX3_strike_11 (by decide) ?_
  refine d_putE (ty := .boolean) hg (by omega) hinX3_strike_1 4 25 (by decide) dX3_strike_12 fwX3_strike_163 rfl rfl rfl rfl rfl ?_
  refine r_aload_n dX3_strike_15 0 rfl ?_
  refine r_get (C := RX1) (b := .int (dt 23 o)) dX3_strike_16 hinX3_strike_1 (dw_ent hg (by omega)) rfl 3 (by decide) fwX3_strike_167 rfl rfl ?_
  exact kret _ _ _ _ _ _ (Nat.le_of_ble_eq_true rfl) (Nat.le_of_ble_eq_true rfl) dX3_strike_19 rfl (⟨o, ho, rfl, g1, rfl, rfl⟩)

abbrev rmX3_mend : Room := { frames := 7, cells := 4, slots := 24, locals := 112 }
theorem hinX3_mend_1 : ∀ w ∈ u_ws RX1 TX1 5, w ∈ wsX3_mend := by decide +kernel
theorem fwX3_mend_167 : Cond.fieldLink RX3 167 "Castdesk$Entry" "points" "I" ∈ wsX3_mend := by decide +kernel
set_option maxHeartbeats 4000000 in
set_option maxRecDepth 100000 in
theorem tX3_mend {E : kE} {a cap : Nat → Nat} {h0 : kH} (dt : kM)  (nF nC nE w : Nat) (hg : dgeo E a cap nF nC nE h0) (hd : dwf dt nF nC nE w) (x y : Int32) : kXi E yX3_mend wsX3_mend rmX3_mend 4 24 [.ref (a 15), .int x, .int y] (dw E a cap nF nC nE dt h0) (fun Ec h' => ((Ec = kIO ∧ ¬ (¬ x < 0 ∧ x < nI nE)) ∨ ∃ o, o < nE ∧ x = nI o ∧ ((Ec = kIA ∧ ¬ (¬ y < 1 ∧ ¬ 9 < y)) ∨ (Ec = kIS ∧ (¬ y < 1 ∧ ¬ 9 < y) ∧ ¬ (¬ dCor dt o = 0)))) ∧ h' = dw E a cap nF nC nE dt h0) (fun r h' => ∃ o, o < nE ∧ x = nI o ∧ (¬ y < 1 ∧ ¬ 9 < y) ∧ (¬ dCor dt o = 0) ∧ r = dt 23 o ∧ h' = dw E a cap nF nC nE (ma dt 23 o y) h0) := by
  obtain ⟨hF, hF20, hC, hC6, hE, hE80, hW, hW3, hpl, hof, hsp⟩ := id hd
  refine kXi_of (rt := .int) (own := RX3) (cc := cX3_mend) (maxL := 5) (by decide) rfl rfl ⟨rfl, rfl⟩ (Nat.le_of_ble_eq_true rfl) ?_
  intro X kret kthr kout
  refine r_lo (lo' := [(0, .ref (a 15)), (1, .int x), (2, .int y)]) [0, 1, 2] rfl ?_
  refine r_aload_n dX3_mend_0 0 rfl ?_
  refine r_iload_n dX3_mend_1 1 rfl ?_
  refine r_callXVq (nn := 1) (As := [.int x]) (st := []) dX3_mend_2 (tX3_entryNumbered dt nF nC nE w hg hd x) gX3_mend_X3_entryNumbered rfl (by decide +kernel) ⟨Nat.le_of_ble_eq_true rfl, Nat.le_of_ble_eq_true rfl⟩ ⟨rfl, rfl⟩ (dw_obj hg) rfl rfl (Nat.le_of_ble_eq_true rfl) ⟨Nat.le_of_ble_eq_true rfl, Nat.le_of_ble_eq_true rfl⟩ rfl (fun Ec hh hp => kout _ _ _ _ _ _ (Nat.le_of_ble_eq_true rfl) (Nat.le_of_ble_eq_true rfl) (⟨Or.inl ⟨hp.1.1, hp.1.2⟩, hp.2⟩)) (fun r hh hp => ?_)
  obtain ⟨o, ho, rfl, rfl, rfl⟩ := hp
  refine r_astore_n (lo' := [(3, .ref (a (50 + o))), (0, .ref (a 15)), (1, .int (nI o)), (2, .int y)]) dX3_mend_5 (by decide) rfl ?_
  refine r_iload_n dX3_mend_6 3 rfl ?_
  refine r_iconst (v := 1) dX3_mend_7 (by decide) ?_
  refine r_bipush (v := 9) dX3_mend_8 (by decide) ?_
  refine r_callXSv (nn := 3) (As := [.int y, .int 1, .int 9]) (st := []) dX3_mend_10 (tX3_checkRange y 1 9) gX3_mend_X3_checkRange rfl (by decide +kernel) ⟨Nat.le_of_ble_eq_true rfl, Nat.le_of_ble_eq_true rfl⟩ ⟨rfl, rfl⟩ rfl (Nat.le_of_ble_eq_true rfl) ⟨Nat.le_of_ble_eq_true rfl, Nat.le_of_ble_eq_true rfl⟩ rfl (fun Ec hh hp => kout _ _ _ _ _ _ (Nat.le_of_ble_eq_true rfl) (Nat.le_of_ble_eq_true rfl) (⟨Or.inr ⟨o, ho, rfl, Or.inl (⟨hp.1.1, hp.1.2⟩)⟩, hp.2⟩)) (fun hh hp => ?_)
  obtain ⟨g1, rfl⟩ := hp
  refine r_aload_n dX3_mend_13 0 rfl ?_
  refine r_callXSv (nn := 1) (As := [.ref (a (50 + o))]) (st := []) dX3_mend_14 (tX3_checkCanBeCorrected dt nF nC nE w hg hd o ho) gX3_mend_X3_checkCanBeCorrected rfl (by decide +kernel) ⟨Nat.le_of_ble_eq_true rfl, Nat.le_of_ble_eq_true rfl⟩ ⟨rfl, rfl⟩ rfl (Nat.le_of_ble_eq_true rfl) ⟨Nat.le_of_ble_eq_true rfl, Nat.le_of_ble_eq_true rfl⟩ rfl (fun Ec hh hp => kout _ _ _ _ _ _ (Nat.le_of_ble_eq_true rfl) (Nat.le_of_ble_eq_true rfl) (⟨Or.inr ⟨o, ho, rfl, Or.inr ((⟨hp.1.1, g1, fun z => z hp.1.2⟩))⟩, hp.2⟩)) (fun hh hp => ?_)
  obtain ⟨g2, rfl⟩ := hp
  refine r_aload_n dX3_mend_17 0 rfl ?_
  refine r_get (C := RX1) (b := .int (dt 23 o)) dX3_mend_18 hinX3_mend_1 (dw_ent hg (by omega)) rfl 3 (by decide) fwX3_mend_167 rfl rfl ?_
  refine r_istore (lo' := [(4, .int (dt 23 o)), (3, .ref (a (50 + o))), (0, .ref (a 15)), (1, .int (nI o)), (2, .int y)]) dX3_mend_21 (by decide) rfl ?_
  refine r_aload_n dX3_mend_23 1 rfl ?_
  refine r_iload_n dX3_mend_24 4 rfl ?_
  refine d_putE (ty := .int) hg (by omega) hinX3_mend_1 3 23 (by decide) dX3_mend_25 fwX3_mend_167 rfl rfl rfl rfl rfl ?_
  refine r_iload dX3_mend_28 0 rfl ?_
  exact kret _ _ _ _ _ _ (Nat.le_of_ble_eq_true rfl) (Nat.le_of_ble_eq_true rfl) dX3_mend_30 rfl (⟨o, ho, rfl, g1, g2, rfl, rfl⟩)

abbrev rmX3_end : Room := { frames := 7, cells := 4, slots := 24, locals := 111 }
theorem hinX3_end_2 : ∀ w ∈ u_ws RX2 TX2 7, w ∈ wsX3_end := by decide +kernel
theorem hinX3_end_3 : ∀ w ∈ u_ws RX3 TX3 15, w ∈ wsX3_end := by decide +kernel
theorem fwX3_end_13 : Cond.fieldLink RX3 13 "Castdesk" "wins" "[I" ∈ wsX3_end := by decide +kernel
theorem fwX3_end_85 : Cond.fieldLink RX3 85 "Castdesk" "now" "I" ∈ wsX3_end := by decide +kernel
theorem fwX3_end_88 : Cond.fieldLink RX3 88 "Castdesk$Fight" "first" "I" ∈ wsX3_end := by decide +kernel
theorem fwX3_end_97 : Cond.fieldLink RX3 97 "Castdesk$Fight" "second" "I" ∈ wsX3_end := by decide +kernel
theorem fwX3_end_100 : Cond.fieldLink RX3 100 "Castdesk$Fight" "state" "I" ∈ wsX3_end := by decide +kernel
theorem fwX3_end_103 : Cond.fieldLink RX3 103 "Castdesk$Fight" "winner" "I" ∈ wsX3_end := by decide +kernel
set_option maxHeartbeats 4000000 in
set_option maxRecDepth 100000 in
theorem tX3_end {E : kE} {a cap : Nat → Nat} {h0 : kH} (dt : kM)  (nF nC nE w : Nat) (hg : dgeo E a cap nF nC nE h0) (hd : dwf dt nF nC nE w) (x : Int32) : kXi E yX3_end wsX3_end rmX3_end 4 24 [.ref (a 15), .int x] (dw E a cap nF nC nE dt h0) (fun Ec h' => ((Ec = kIO ∧ ¬ (¬ x < 0 ∧ x < nI nF)) ∨ ∃ o, o < nF ∧ x = nI o ∧ ((Ec = kIS ∧ ¬ (dt 6 o = 0)))) ∧ h' = dw E a cap nF nC nE dt h0) (fun r h' => ∃ o, o < nF ∧ x = nI o ∧ (dt 6 o = 0) ∧ r = dEnd dt w o nE 9 o ∧ h' = dw E a cap nF nC nE (dEnd dt w o nE) h0) := by
  obtain ⟨hF, hF20, hC, hC6, hE, hE80, hW, hW3, hpl, hof, hsp⟩ := id hd
  refine kXi_of (rt := .int) (own := RX3) (cc := cX3_end) (maxL := 5) (by decide) rfl rfl ⟨rfl, rfl⟩ (Nat.le_of_ble_eq_true rfl) ?_
  intro X kret kthr kout
  refine r_lo (lo' := [(0, .ref (a 15)), (1, .int x)]) [0, 1] rfl ?_
  refine r_aload_n dX3_end_0 0 rfl ?_
  refine r_iload_n dX3_end_1 1 rfl ?_
  refine r_callXVq (nn := 1) (As := [.int x]) (st := []) dX3_end_2 (tX3_fightNumbered dt nF nC nE w hg hd x) gX3_end_X3_fightNumbered rfl (by decide +kernel) ⟨Nat.le_of_ble_eq_true rfl, Nat.le_of_ble_eq_true rfl⟩ ⟨rfl, rfl⟩ (dw_obj hg) rfl rfl (Nat.le_of_ble_eq_true rfl) ⟨Nat.le_of_ble_eq_true rfl, Nat.le_of_ble_eq_true rfl⟩ rfl (fun Ec hh hp => kout _ _ _ _ _ _ (Nat.le_of_ble_eq_true rfl) (Nat.le_of_ble_eq_true rfl) (⟨Or.inl ⟨hp.1.1, hp.1.2⟩, hp.2⟩)) (fun r hh hp => ?_)
  obtain ⟨o, ho, rfl, rfl, rfl⟩ := hp
  refine r_astore_n (lo' := [(2, .ref (a (20 + o))), (0, .ref (a 15)), (1, .int (nI o))]) dX3_end_5 (by decide) rfl ?_
  refine r_aload_n dX3_end_6 0 rfl ?_
  refine r_callXSv (nn := 1) (As := [.ref (a (20 + o))]) (st := []) dX3_end_7 (tX3_checkGoesOn dt nF nC nE w hg hd o ho) gX3_end_X3_checkGoesOn rfl (by decide +kernel) ⟨Nat.le_of_ble_eq_true rfl, Nat.le_of_ble_eq_true rfl⟩ ⟨rfl, rfl⟩ rfl (Nat.le_of_ble_eq_true rfl) ⟨Nat.le_of_ble_eq_true rfl, Nat.le_of_ble_eq_true rfl⟩ rfl (fun Ec hh hp => kout _ _ _ _ _ _ (Nat.le_of_ble_eq_true rfl) (Nat.le_of_ble_eq_true rfl) (⟨Or.inr ⟨o, ho, rfl, ⟨hp.1.1, hp.1.2⟩⟩, hp.2⟩)) (fun hh hp => ?_)
  obtain ⟨g1, rfl⟩ := hp
  refine r_aload_n dX3_end_10 1 rfl ?_
  refine r_aload_n dX3_end_11 1 rfl ?_
  refine r_get (C := RX3) (b := .int (nI w)) dX3_end_12 hinX3_end_3 (dw_obj hg) rfl 9 (by decide) fwX3_end_85 rfl (by show some (Value.int (dt 1 0)) = _; rw [show dt 1 0 = nI w from hW]) ?_
  refine r_aload_n dX3_end_15 0 rfl ?_
  refine r_aload_n dX3_end_16 0 rfl ?_
  refine r_get (C := RX2) (b := .int (dt 7 o)) dX3_end_17 hinX3_end_2 (dw_fgt hg (by omega)) rfl 1 (by decide) fwX3_end_88 rfl rfl ?_
  refine r_callVi (nn := 3) (As := [.int (nI w), .ref (a (20 + o)), .int (dt 7 o)]) (st := []) dX3_end_20 (tX3_pointsUpTo dt nF nC nE w hg hd o (by omega) (nI w) (dt 7 o)) gX3_end_X3_pointsUpTo rfl (by decide +kernel) ⟨Nat.le_of_ble_eq_true rfl, Nat.le_of_ble_eq_true rfl⟩ ⟨rfl, rfl⟩ (dw_obj hg) rfl rfl (Nat.le_of_ble_eq_true rfl) ⟨Nat.le_of_ble_eq_true rfl, Nat.le_of_ble_eq_true rfl⟩ rfl (fun r hh hp => ?_)
  obtain ⟨rfl, rfl⟩ := hp
  refine r_istore_n (lo' := [(3, .int (dPts dt (nI w) o (dt 7 o) nE)), (2, .ref (a (20 + o))), (0, .ref (a 15)), (1, .int (nI o))]) dX3_end_23 (by decide) rfl ?_
  refine r_aload_n dX3_end_24 2 rfl ?_
  refine r_aload_n dX3_end_25 2 rfl ?_
  refine r_get (C := RX3) (b := .int (nI w)) dX3_end_26 hinX3_end_3 (dw_obj hg) rfl 9 (by decide) fwX3_end_85 rfl (by show some (Value.int (dt 1 0)) = _; rw [show dt 1 0 = nI w from hW]) ?_
  refine r_aload_n dX3_end_29 1 rfl ?_
  refine r_aload_n dX3_end_30 1 rfl ?_
  refine r_get (C := RX2) (b := .int (dt 8 o)) dX3_end_31 hinX3_end_2 (dw_fgt hg (by omega)) rfl 2 (by decide) fwX3_end_97 rfl rfl ?_
  refine r_callVi (nn := 3) (As := [.int (nI w), .ref (a (20 + o)), .int (dt 8 o)]) (st := []) dX3_end_34 (tX3_pointsUpTo dt nF nC nE w hg hd o (by omega) (nI w) (dt 8 o)) gX3_end_X3_pointsUpTo rfl (by decide +kernel) ⟨Nat.le_of_ble_eq_true rfl, Nat.le_of_ble_eq_true rfl⟩ ⟨rfl, rfl⟩ (dw_obj hg) rfl rfl (Nat.le_of_ble_eq_true rfl) ⟨Nat.le_of_ble_eq_true rfl, Nat.le_of_ble_eq_true rfl⟩ rfl (fun r hh hp => ?_)
  obtain ⟨rfl, rfl⟩ := hp
  refine r_istore (lo' := [(4, .int (dPts dt (nI w) o (dt 8 o) nE)), (3, .int (dPts dt (nI w) o (dt 7 o) nE)), (2, .ref (a (20 + o))), (0, .ref (a 15)), (1, .int (nI o))]) dX3_end_37 (by decide) rfl ?_
  refine r_aload_n dX3_end_39 2 rfl ?_
  refine r_iconst (v := 1) dX3_end_40 (by decide) ?_
  refine d_putF hg (by omega) hinX3_end_2 3 6 (by decide) dX3_end_41 fwX3_end_100 rfl rfl rfl ?_
  refine r_iload_n dX3_end_44 1 rfl ?_
  refine r_iload dX3_end_45 0 rfl ?_
  refine r_icmp_eq (tgt := 84) dX3_end_47 (by decide) (fun c1 => ?_) (fun c1 => ?_)
  · skip
    refine r_aload_n dX3_end_84 2 rfl ?_
    refine r_get (C := RX2) (b := .int (dt 9 o)) dX3_end_85 hinX3_end_2 (dw_fgt hg (by omega)) rfl 4 (by decide) fwX3_end_103 rfl rfl ?_
    exact kret _ _ _ _ _ _ (Nat.le_of_ble_eq_true rfl) (Nat.le_of_ble_eq_true rfl) dX3_end_88 rfl (⟨o, ho, rfl, g1, (by rw [dEnd, if_pos c1]; simp [ma, upd]), (by rw [dEnd, if_pos c1] <;> rfl)⟩)
  · skip
    refine r_aload_n dX3_end_50 2 rfl ?_
    refine r_iload_n dX3_end_51 1 rfl ?_
    refine r_iload dX3_end_52 0 rfl ?_
    refine r_icmp_le (tgt := 64) dX3_end_54 (by decide) (fun c2 => ?_) (fun c2 => ?_)
    · skip
      refine r_aload_n dX3_end_64 2 rfl ?_
      refine r_get (C := RX2) (b := .int (dt 8 o)) dX3_end_65 hinX3_end_2 (dw_fgt hg (by omega)) rfl 2 (by decide) fwX3_end_97 rfl rfl ?_
      refine d_putF hg (by omega) hinX3_end_2 4 9 (by decide) dX3_end_68 fwX3_end_103 rfl rfl rfl ?_
      refine r_aload_n dX3_end_71 3 rfl ?_
      refine r_get (C := RX3) (b := .ref (a 1)) dX3_end_72 hinX3_end_3 (dw_obj hg) rfl 1 (by decide) fwX3_end_13 rfl rfl ?_
      refine r_aload_n dX3_end_75 2 rfl ?_
      refine r_get (C := RX2) (b := .int (dt 8 o)) dX3_end_76 hinX3_end_2 (dw_fgt hg (by omega)) rfl 4 (by decide) fwX3_end_103 rfl (by show some (Value.int _) = _; rw [show (ma (ma dt 6 o 1) 9 o (dt 8 o)) 9 o = dt 8 o from (by simp [ma, ms, upd])]) ?_
      refine r_dup2 dX3_end_79 rfl rfl ?_
      refine d_aldx (v := (ma (ma dt 6 o 1) 9 o (dt 8 o)) 30 (dt 8 o).toNatClampNeg) hg 1 30 (by decide) rfl dX3_end_80 (hpl o ho).2.1 rfl ?_
      refine r_iconst (v := 1) dX3_end_81 (by decide) ?_
      refine r_iadd dX3_end_82 ?_
      refine d_astx hg 1 30 (by decide) rfl dX3_end_83 (hpl o ho).2.1 ?_
      refine r_aload_n dX3_end_84 2 rfl ?_
      refine r_get (C := RX2) (b := .int (dt 8 o)) dX3_end_85 hinX3_end_2 (dw_fgt hg (by omega)) rfl 4 (by decide) fwX3_end_103 rfl (by show some (Value.int _) = _; rw [show (ma (ma (ma dt 6 o 1) 9 o (dt 8 o)) 30 ((dt 8 o).toNatClampNeg) (((ma (ma dt 6 o 1) 9 o (dt 8 o)) 30 (dt 8 o).toNatClampNeg) + 1)) 9 o = dt 8 o from (by simp [ma, ms, upd])]) ?_
      exact kret _ _ _ _ _ _ (Nat.le_of_ble_eq_true rfl) (Nat.le_of_ble_eq_true rfl) dX3_end_88 rfl (⟨o, ho, rfl, g1, (by rw [dEnd, if_neg c1, if_neg c2]; simp [ma, upd]), (by rw [dEnd, if_neg c1, if_neg c2] <;> rfl)⟩)
    · skip
      refine r_aload_n dX3_end_57 2 rfl ?_
      refine r_get (C := RX2) (b := .int (dt 7 o)) dX3_end_58 hinX3_end_2 (dw_fgt hg (by omega)) rfl 1 (by decide) fwX3_end_88 rfl rfl ?_
      refine r_goto (tgt := 68) dX3_end_61 (by decide) ?_
      refine d_putF hg (by omega) hinX3_end_2 4 9 (by decide) dX3_end_68 fwX3_end_103 rfl rfl rfl ?_
      refine r_aload_n dX3_end_71 3 rfl ?_
      refine r_get (C := RX3) (b := .ref (a 1)) dX3_end_72 hinX3_end_3 (dw_obj hg) rfl 1 (by decide) fwX3_end_13 rfl rfl ?_
      refine r_aload_n dX3_end_75 2 rfl ?_
      refine r_get (C := RX2) (b := .int (dt 7 o)) dX3_end_76 hinX3_end_2 (dw_fgt hg (by omega)) rfl 4 (by decide) fwX3_end_103 rfl (by show some (Value.int _) = _; rw [show (ma (ma dt 6 o 1) 9 o (dt 7 o)) 9 o = dt 7 o from (by simp [ma, ms, upd])]) ?_
      refine r_dup2 dX3_end_79 rfl rfl ?_
      refine d_aldx (v := (ma (ma dt 6 o 1) 9 o (dt 7 o)) 30 (dt 7 o).toNatClampNeg) hg 1 30 (by decide) rfl dX3_end_80 (hpl o ho).1 rfl ?_
      refine r_iconst (v := 1) dX3_end_81 (by decide) ?_
      refine r_iadd dX3_end_82 ?_
      refine d_astx hg 1 30 (by decide) rfl dX3_end_83 (hpl o ho).1 ?_
      refine r_aload_n dX3_end_84 2 rfl ?_
      refine r_get (C := RX2) (b := .int (dt 7 o)) dX3_end_85 hinX3_end_2 (dw_fgt hg (by omega)) rfl 4 (by decide) fwX3_end_103 rfl (by show some (Value.int _) = _; rw [show (ma (ma (ma dt 6 o 1) 9 o (dt 7 o)) 30 ((dt 7 o).toNatClampNeg) (((ma (ma dt 6 o 1) 9 o (dt 7 o)) 30 (dt 7 o).toNatClampNeg) + 1)) 9 o = dt 7 o from (by simp [ma, ms, upd])]) ?_
      exact kret _ _ _ _ _ _ (Nat.le_of_ble_eq_true rfl) (Nat.le_of_ble_eq_true rfl) dX3_end_88 rfl (⟨o, ho, rfl, g1, (by rw [dEnd, if_neg c1, if_pos c2]; simp [ma, upd]), (by rw [dEnd, if_neg c1, if_pos c2] <;> rfl)⟩)

abbrev rmX3_countedAnew : Room := { frames := 7, cells := 1, slots := 6, locals := 110 }
theorem hinX3_countedAnew_3 : ∀ w ∈ u_ws RX3 TX3 15, w ∈ wsX3_countedAnew := by decide +kernel
theorem fwX3_countedAnew_51 : Cond.fieldLink RX3 51 "Castdesk" "shownSponsor" "[I" ∈ wsX3_countedAnew := by decide +kernel
theorem fwX3_countedAnew_85 : Cond.fieldLink RX3 85 "Castdesk" "now" "I" ∈ wsX3_countedAnew := by decide +kernel
set_option maxHeartbeats 4000000 in
set_option maxRecDepth 100000 in
theorem lX3_countedAnew_8 {E : kE} {a cap : Nat → Nat} {h0 : kH} (dt : kM)  (nF nC nE w : Nat) (hg : dgeo E a cap nF nC nE h0) (hd : dwf dt nF nC nE w) (x : Int32)  {X : kX} (kthr : ∀ (k n : Nat) (h' : kH) (lo : List (Nat × Value)) (pc : Nat) (st : List Value) (cls : String), k + 1 ≤ rmX3_countedAnew.cells → n + 6 ≤ rmX3_countedAnew.slots → kSite cX3_countedAnew wsX3_countedAnew RX3 rmX3_countedAnew pc st cls → (fun Ec h' => ((Ec = kIO ∧ ¬ (¬ x < 0 ∧ x < 6))) ∧ h' = dw E a cap nF nC nE dt h0) cls h' → V E X rmX3_countedAnew cX3_countedAnew 4 wsX3_countedAnew RX3 k n h' lo pc st) (hx : ∀ v : Int32, v = cntR (dt 19) x w → V E X rmX3_countedAnew cX3_countedAnew 4 wsX3_countedAnew RX3 (0 + 1) (0 + 6) (dw E a cap nF nC nE dt h0) [(3, .int (nI w)), (2, .int v), (0, .ref (a 15)), (1, .int x)] 35 [])
    : ∀ (d i : Nat) (v : Int32), w < i + d → i ≤ w → (v = cntR (dt 19) x i) → V E X rmX3_countedAnew cX3_countedAnew 4 wsX3_countedAnew RX3 (0 + 1) (0 + 6) (dw E a cap nF nC nE dt h0) [(3, .int (nI i)), (2, .int v), (0, .ref (a 15)), (1, .int x)] 8 [] := by
  obtain ⟨hF, hF20, hC, hC6, hE, hE80, hW, hW3, hpl, hof, hsp⟩ := id hd
  intro d
  induction d with
  | zero =>
    intro i v h1 h2
    exact absurd h1 (by omega)
  | succ d ih =>
    intro i v h1 h2 e1
    refine r_iload_n dX3_countedAnew_8 0 rfl ?_
    refine r_aload_n dX3_countedAnew_9 2 rfl ?_
    refine r_get (C := RX3) (b := .int (nI w)) dX3_countedAnew_10 hinX3_countedAnew_3 (dw_obj hg) rfl 9 (by decide) fwX3_countedAnew_85 rfl (by show some (Value.int (dt 1 0)) = _; rw [show dt 1 0 = nI w from hW]) ?_
    refine rn_icmp_ge (a := i) (c := w) (tgt := 35) dX3_countedAnew_13 (by decide) rfl rfl (by omega) (by omega) (fun c1 => ?_) (fun c1 => ?_)
    · skip
      have hNi : w = i := by omega
      subst hNi
      exact hx v e1
    · skip
      refine r_aload_n dX3_countedAnew_16 2 rfl ?_
      refine r_get (C := RX3) (b := .ref (a 14)) dX3_countedAnew_17 hinX3_countedAnew_3 (dw_obj hg) rfl 14 (by decide) fwX3_countedAnew_51 rfl rfl ?_
      refine r_iload_n dX3_countedAnew_20 0 rfl ?_
      refine d_ald (v := dt 19 i) hg 14 19 i (by decide) rfl dX3_countedAnew_21 rfl (by show _ < 3000; omega) (by decide) rfl ?_
      refine r_iload_n dX3_countedAnew_22 3 rfl ?_
      refine r_icmp_ne (tgt := 29) dX3_countedAnew_23 (by decide) (fun c2 => ?_) (fun c2 => ?_)
      · skip
        refine r_iinc (v := nI (i + 1)) (lo' := [(3, .int (nI (i + 1))), (2, .int v), (0, .ref (a 15)), (1, .int x)]) dX3_countedAnew_29 0 rfl (nI_1 i) (by decide) rfl ?_
        refine r_goto (tgt := 8) dX3_countedAnew_32 (by decide) ?_
        refine r_lo (lo' := [(3, .int (nI (i + 1))), (2, .int v), (0, .ref (a 15)), (1, .int x)]) [0, 1, 2, 3] rfl ?_
        exact ih (i + 1) v (by omega) (by omega) (by first | (simp only [cntR, ← e1, if_neg c2, if_true]; done) | (simp only [cntR, ← e1]; simp [c1, c2]))
      · skip
        refine r_iinc (v := v + 1) (lo' := [(2, .int (v + 1)), (3, .int (nI i)), (0, .ref (a 15)), (1, .int x)]) dX3_countedAnew_26 1 rfl rfl (by decide) rfl ?_
        refine r_iinc (v := nI (i + 1)) (lo' := [(3, .int (nI (i + 1))), (2, .int (v + 1)), (0, .ref (a 15)), (1, .int x)]) dX3_countedAnew_29 1 rfl (nI_1 i) (by decide) rfl ?_
        refine r_goto (tgt := 8) dX3_countedAnew_32 (by decide) ?_
        refine r_lo (lo' := [(3, .int (nI (i + 1))), (2, .int (v + 1)), (0, .ref (a 15)), (1, .int x)]) [0, 1, 2, 3] rfl ?_
        exact ih (i + 1) (v + 1) (by omega) (by omega) (by first | (simp only [cntR, ← e1, if_pos c2, if_true]; done) | (simp only [cntR, ← e1]; simp [c1, c2]))

set_option maxHeartbeats 4000000 in
set_option maxRecDepth 100000 in
theorem tX3_countedAnew {E : kE} {a cap : Nat → Nat} {h0 : kH} (dt : kM)  (nF nC nE w : Nat) (hg : dgeo E a cap nF nC nE h0) (hd : dwf dt nF nC nE w) (x : Int32) : kXi E yX3_countedAnew wsX3_countedAnew rmX3_countedAnew 1 6 [.ref (a 15), .int x] (dw E a cap nF nC nE dt h0) (fun Ec h' => ((Ec = kIO ∧ ¬ (¬ x < 0 ∧ x < 6))) ∧ h' = dw E a cap nF nC nE dt h0) (fun r h' => (¬ x < 0 ∧ x < 6) ∧ r = cntR (dt 19) x w ∧ h' = dw E a cap nF nC nE dt h0) := by
  obtain ⟨hF, hF20, hC, hC6, hE, hE80, hW, hW3, hpl, hof, hsp⟩ := id hd
  refine kXi_of (rt := .int) (own := RX3) (cc := cX3_countedAnew) (maxL := 4) (by decide) rfl rfl ⟨rfl, rfl⟩ (Nat.le_of_ble_eq_true rfl) ?_
  intro X kret kthr kout
  refine r_lo (lo' := [(0, .ref (a 15)), (1, .int x)]) [0, 1] rfl ?_
  refine r_iload_n dX3_countedAnew_0 1 rfl ?_
  refine r_callXSv (nn := 1) (As := [.int x]) (st := []) dX3_countedAnew_1 (tX3_checkSponsor x) gX3_countedAnew_X3_checkSponsor rfl (by decide +kernel) ⟨Nat.le_of_ble_eq_true rfl, Nat.le_of_ble_eq_true rfl⟩ ⟨rfl, rfl⟩ rfl (Nat.le_of_ble_eq_true rfl) ⟨Nat.le_of_ble_eq_true rfl, Nat.le_of_ble_eq_true rfl⟩ rfl (fun Ec hh hp => kout _ _ _ _ _ _ (Nat.le_of_ble_eq_true rfl) (Nat.le_of_ble_eq_true rfl) (⟨⟨hp.1.1, hp.1.2⟩, hp.2⟩)) (fun hh hp => ?_)
  obtain ⟨g1, rfl⟩ := hp
  refine r_iconst (v := 0) dX3_countedAnew_4 (by decide) ?_
  refine r_istore_n (lo' := [(2, .int 0), (0, .ref (a 15)), (1, .int x)]) dX3_countedAnew_5 (by decide) rfl ?_
  refine r_iconst (v := 0) dX3_countedAnew_6 (by decide) ?_
  refine r_istore_n (lo' := [(3, .int 0), (2, .int 0), (0, .ref (a 15)), (1, .int x)]) dX3_countedAnew_7 (by decide) rfl ?_
  refine r_lo (lo' := [(3, .int (nI 0)), (2, .int 0), (0, .ref (a 15)), (1, .int x)]) [0, 1, 2, 3] rfl ?_
  refine lX3_countedAnew_8 dt nF nC nE w hg hd x kthr (fun v e1 => ?_) (w + 1) 0 _ (by omega) (Nat.zero_le _) rfl
  refine r_iload_n dX3_countedAnew_35 1 rfl ?_
  exact kret _ _ _ _ _ _ (Nat.le_of_ble_eq_true rfl) (Nat.le_of_ble_eq_true rfl) dX3_countedAnew_36 rfl (⟨g1, e1, rfl⟩)

abbrev rmX3_leader : Room := { frames := 6, cells := 1, slots := 6, locals := 90 }
theorem gxX3_leader_B : ∀ w ∈ (vx_atS RX3 184 kIO kNm).filter goodWord, w ∈ wsX3_leader := by decide +kernel
set_option maxHeartbeats 4000000 in
set_option maxRecDepth 100000 in
theorem lX3_leader_22 {E : kE} {a cap : Nat → Nat} {h0 : kH} (dt : kM)  (nF nC nE w : Nat) (hg : dgeo E a cap nF nC nE h0) (hd : dwf dt nF nC nE w) (x : Int32)  {X : kX} (kthr : ∀ (k n : Nat) (h' : kH) (lo : List (Nat × Value)) (pc : Nat) (st : List Value) (cls : String), k + 1 ≤ rmX3_leader.cells → n + 6 ≤ rmX3_leader.slots → kSite cX3_leader wsX3_leader RX3 rmX3_leader pc st cls → (fun Ec h' => ((Ec = kIO ∧ ¬ (¬ x < 0 ∧ x < 10))) ∧ h' = dw E a cap nF nC nE dt h0) cls h' → V E X rmX3_leader cX3_leader 3 wsX3_leader RX3 k n h' lo pc st) (hx : ∀ j : Nat, j < 10 → (j = 9 ∨ dPla dt j 10 = x) → (∀ m, m < j → ¬ dPla dt m 10 = x) → V E X rmX3_leader cX3_leader 3 wsX3_leader RX3 0 0 (dw E a cap nF nC nE dt h0) [(2, .int (nI j)), (0, .ref (a 15)), (1, .int x)] 43 [])
    : ∀ (d i : Nat), 9 < i + d → i ≤ 9 → (∀ m, m < i → ¬ dPla dt m 10 = x) → V E X rmX3_leader cX3_leader 3 wsX3_leader RX3 0 0 (dw E a cap nF nC nE dt h0) [(2, .int (nI i)), (0, .ref (a 15)), (1, .int x)] 22 [] := by
  obtain ⟨hF, hF20, hC, hC6, hE, hE80, hW, hW3, hpl, hof, hsp⟩ := id hd
  intro d
  induction d with
  | zero =>
    intro i  h1 h2
    exact absurd h1 (by omega)
  | succ d ih =>
    intro i  h1 h2 e1
    refine r_iload_n dX3_leader_22 0 rfl ?_
    refine r_bipush (v := 9) dX3_leader_23 (by decide) ?_
    refine rn_icmp_ge (a := i) (c := 9) (tgt := 43) dX3_leader_25 (by decide) rfl rfl (by omega) (by omega) (fun c1 => ?_) (fun c1 => ?_)
    · skip
      exact hx i (by omega) (Or.inl (by omega)) e1
    · skip
      refine r_aload_n dX3_leader_28 1 rfl ?_
      refine r_iload_n dX3_leader_29 0 rfl ?_
      refine r_callVi (nn := 1) (As := [.int (nI i)]) (st := []) dX3_leader_30 (tX3_placeOf dt nF nC nE w hg hd i (by omega)) gX3_leader_X3_placeOf rfl (by decide +kernel) ⟨Nat.le_of_ble_eq_true rfl, Nat.le_of_ble_eq_true rfl⟩ ⟨rfl, rfl⟩ (dw_obj hg) rfl rfl (Nat.le_of_ble_eq_true rfl) ⟨Nat.le_of_ble_eq_true rfl, Nat.le_of_ble_eq_true rfl⟩ rfl (fun r hh hp => ?_)
      obtain ⟨rfl, rfl⟩ := hp
      refine r_iload_n dX3_leader_33 2 rfl ?_
      refine r_icmp_eq (tgt := 43) dX3_leader_34 (by decide) (fun c2 => ?_) (fun c2 => ?_)
      · skip
        exact hx i (by omega) (Or.inr c2) e1
      · skip
        refine r_iinc (v := nI (i + 1)) (lo' := [(2, .int (nI (i + 1))), (0, .ref (a 15)), (1, .int x)]) dX3_leader_37 0 rfl (nI_1 i) (by decide) rfl ?_
        refine r_goto (tgt := 22) dX3_leader_40 (by decide) ?_
        refine r_lo (lo' := [(2, .int (nI (i + 1))), (0, .ref (a 15)), (1, .int x)]) [0, 1, 2] rfl ?_
        exact ih (i + 1) (by omega) (by omega) (fun m hm => by by_cases q : m = i; (subst q; exact c2); exact e1 m (by omega))

set_option maxHeartbeats 4000000 in
set_option maxRecDepth 100000 in
theorem tX3_leader {E : kE} {a cap : Nat → Nat} {h0 : kH} (dt : kM)  (nF nC nE w : Nat) (hg : dgeo E a cap nF nC nE h0) (hd : dwf dt nF nC nE w) (x : Int32) : kXi E yX3_leader wsX3_leader rmX3_leader 1 6 [.ref (a 15), .int x] (dw E a cap nF nC nE dt h0) (fun Ec h' => ((Ec = kIO ∧ ¬ (¬ x < 0 ∧ x < 10))) ∧ h' = dw E a cap nF nC nE dt h0) (fun r h' => (¬ x < 0 ∧ x < 10) ∧ (∃ j, j < 10 ∧ (j = 9 ∨ dPla dt j 10 = x) ∧ (∀ m, m < j → ¬ dPla dt m 10 = x) ∧ r = nI j) ∧ h' = dw E a cap nF nC nE dt h0) := by
  obtain ⟨hF, hF20, hC, hC6, hE, hE80, hW, hW3, hpl, hof, hsp⟩ := id hd
  refine kXi_of (rt := .int) (own := RX3) (cc := cX3_leader) (maxL := 3) (by decide) rfl rfl ⟨rfl, rfl⟩ (Nat.le_of_ble_eq_true rfl) ?_
  intro X kret kthr kout
  refine r_lo (lo' := [(0, .ref (a 15)), (1, .int x)]) [0, 1] rfl ?_
  refine r_iload_n dX3_leader_0 1 rfl ?_
  refine r_if_lt (tgt := 10) dX3_leader_1 (by decide) (fun c1 => ?_) (fun c1 => ?_)
  · skip
    exact kthr _ _ _ _ _ [] _ (Nat.le_of_ble_eq_true rfl) (Nat.le_of_ble_eq_true rfl) ⟨_, _, _, _, _, kSt_B, rfl, (by decide +kernel), (by decide +kernel), (by decide +kernel : (210, "no such place") ∈ kStr), gxX3_leader_B, dX3_leader_10, dX3_leader_13, Or.inl ⟨rfl, dX3_leader_14⟩, dX3_leader_16, dX3_leader_19, (by decide), (Nat.le_of_ble_eq_true rfl)⟩ (⟨⟨rfl, fun z => z.1 c1⟩, rfl⟩)
  · skip
    refine r_iload_n dX3_leader_4 1 rfl ?_
    refine r_bipush (v := 10) dX3_leader_5 (by decide) ?_
    refine r_icmp_lt (tgt := 20) dX3_leader_7 (by decide) (fun c2 => ?_) (fun c2 => ?_)
    · skip
      refine r_iconst (v := 0) dX3_leader_20 (by decide) ?_
      refine r_istore_n (lo' := [(2, .int 0), (0, .ref (a 15)), (1, .int x)]) dX3_leader_21 (by decide) rfl ?_
      refine r_lo (lo' := [(2, .int (nI 0)), (0, .ref (a 15)), (1, .int x)]) [0, 1, 2] rfl ?_
      refine lX3_leader_22 dt nF nC nE w hg hd x kthr (fun j hj e2 e3 => ?_) (9 + 1) 0 (by omega) (Nat.zero_le _) (fun m hm => absurd hm (Nat.not_lt_zero _))
      refine r_iload_n dX3_leader_43 0 rfl ?_
      exact kret _ _ _ _ _ _ (Nat.le_of_ble_eq_true rfl) (Nat.le_of_ble_eq_true rfl) dX3_leader_44 rfl (⟨⟨c1, c2⟩, ⟨j, hj, e2, e3, rfl⟩, rfl⟩)
    · skip
      exact kthr _ _ _ _ _ [] _ (Nat.le_of_ble_eq_true rfl) (Nat.le_of_ble_eq_true rfl) ⟨_, _, _, _, _, kSt_B, rfl, (by decide +kernel), (by decide +kernel), (by decide +kernel : (210, "no such place") ∈ kStr), gxX3_leader_B, dX3_leader_10, dX3_leader_13, Or.inl ⟨rfl, dX3_leader_14⟩, dX3_leader_16, dX3_leader_19, (by decide), (Nat.le_of_ble_eq_true rfl)⟩ (⟨⟨rfl, fun z => c2 z.2⟩, rfl⟩)

