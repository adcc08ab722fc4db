abbrev rmX4_fightOf : Room := { frames := 2, cells := 0, slots := 0, locals := 43 }
theorem hinX4_fightOf : ∀ w ∈ u_ws RX4 TX4 29, w ∈ wsX4_fightOf := by decide +kernel
theorem fwX4_fightOf_20 : Cond.fieldLink RX4 20 "CastdeskModel" "state" "[I" ∈ wsX4_fightOf := by decide +kernel
theorem fwX4_fightOf_23 : Cond.fieldLink RX4 23 "CastdeskModel" "first" "[I" ∈ wsX4_fightOf := by decide +kernel
theorem fwX4_fightOf_26 : Cond.fieldLink RX4 26 "CastdeskModel" "second" "[I" ∈ wsX4_fightOf := by decide +kernel
theorem fwX4_fightOf_29 : Cond.fieldLink RX4 29 "CastdeskModel" "winner" "[I" ∈ wsX4_fightOf := by decide +kernel
theorem fwX4_fightOf_50 : Cond.fieldLink RX4 50 "CastdeskModel" "fightIn" "[I" ∈ wsX4_fightOf := by decide +kernel
theorem fwX4_fightOf_115 : Cond.fieldLink RX4 115 "CastdeskModel" "now" "I" ∈ wsX4_fightOf := by decide +kernel
set_option maxHeartbeats 4000000 in
set_option maxRecDepth 100000 in
theorem lX4_fightOf_93 {E : kE} {b : Nat → Nat} (hb : binj b) {st : kM} {h0 : kH} (nF nC nE w : Nat) (hwf : mwf st nF nC nE w) (x y : Int32)  {X : kX} (hx : ∀ v : Int32, v = cntR (st 17) x w → V E X rmX4_fightOf cX4_fightOf 5 wsX4_fightOf RX4 0 0 (ov E b st h0) [(4, .int (nI w)), (3, .int v), (0, .ref (b 29)), (1, .int x), (2, .int y)] 127 [])
    : ∀ (d i : Nat) (v : Int32), w < i + d → i ≤ w → v = cntR (st 17) x i → V E X rmX4_fightOf cX4_fightOf 5 wsX4_fightOf RX4 0 0 (ov E b st h0) [(4, .int (nI i)), (3, .int v), (0, .ref (b 29)), (1, .int x), (2, .int y)] 93 [] := by
  obtain ⟨hF, hF20, hC, hC6, hE, hE80, hW, hW3, hpl, hof, hon, hsl⟩ := id hwf
  intro d
  induction d with
  | zero =>
    intro i v h1 h2
    exact absurd h1 (by omega)
  | succ d ih =>
    intro i v h1 h2 e1
    refine r_iload dX4_fightOf_93 0 rfl ?_
    refine r_aload_n dX4_fightOf_95 2 rfl ?_
    refine m_geti (v := st 1 0) hb hinX4_fightOf 1 (by decide) rfl dX4_fightOf_96 fwX4_fightOf_115 rfl rfl ?_
    refine rn_icmp_ge (a := i) (c := w) (tgt := 127) dX4_fightOf_99 (by decide) rfl hW (by omega) (by omega) (fun c1 => ?_) (fun c1 => ?_)
    · skip
      have hNi : w = i := by omega
      subst hNi
      exact hx v e1
    · skip
      refine r_iload_n dX4_fightOf_102 1 rfl ?_
      refine r_aload_n dX4_fightOf_103 2 rfl ?_
      refine m_geta hb hinX4_fightOf 17 (by decide) rfl dX4_fightOf_104 fwX4_fightOf_50 rfl ?_
      refine r_iload dX4_fightOf_107 0 rfl ?_
      refine m_ald (v := st 17 i) hb 17 i (by decide) dX4_fightOf_109 rfl (by show _ < 3000; omega) (by decide) rfl ?_
      refine r_iload_n dX4_fightOf_110 3 rfl ?_
      refine r_icmp_ne (tgt := 118) dX4_fightOf_111 (by decide) (fun c2 => ?_) (fun c2 => ?_)
      · skip
        refine r_iconst (v := 0) dX4_fightOf_118 (by decide) ?_
        refine r_iadd dX4_fightOf_119 ?_
        refine r_istore_n (lo' := [(3, .int (v + 0)), (4, .int (nI i)), (0, .ref (b 29)), (1, .int x), (2, .int y)]) dX4_fightOf_120 (by decide) rfl ?_
        refine r_iinc (v := nI (i + 1)) (lo' := [(4, .int (nI (i + 1))), (3, .int (v + 0)), (0, .ref (b 29)), (1, .int x), (2, .int y)]) dX4_fightOf_121 1 rfl (nI_1 i) (by decide) rfl ?_
        refine r_goto (tgt := 93) dX4_fightOf_124 (by decide) ?_
        refine r_lo (lo' := [(4, .int (nI (i + 1))), (3, .int (v + 0)), (0, .ref (b 29)), (1, .int x), (2, .int y)]) [0, 1, 2, 3, 4] rfl ?_
        exact ih (i + 1) (v + 0) (by omega) (by omega) (by first | (simp only [cntR, ← e1, if_neg c2, if_true]; done) | (simp only [cntR, ← e1]; simp [c1, c2]))
      · skip
        refine r_iconst (v := 1) dX4_fightOf_114 (by decide) ?_
        refine r_goto (tgt := 119) dX4_fightOf_115 (by decide) ?_
        refine r_iadd dX4_fightOf_119 ?_
        refine r_istore_n (lo' := [(3, .int (v + 1)), (4, .int (nI i)), (0, .ref (b 29)), (1, .int x), (2, .int y)]) dX4_fightOf_120 (by decide) rfl ?_
        refine r_iinc (v := nI (i + 1)) (lo' := [(4, .int (nI (i + 1))), (3, .int (v + 1)), (0, .ref (b 29)), (1, .int x), (2, .int y)]) dX4_fightOf_121 1 rfl (nI_1 i) (by decide) rfl ?_
        refine r_goto (tgt := 93) dX4_fightOf_124 (by decide) ?_
        refine r_lo (lo' := [(4, .int (nI (i + 1))), (3, .int (v + 1)), (0, .ref (b 29)), (1, .int x), (2, .int y)]) [0, 1, 2, 3, 4] rfl ?_
        exact ih (i + 1) (v + 1) (by omega) (by omega) (by first | (simp only [cntR, ← e1, if_pos c2, if_true]; done) | (simp only [cntR, ← e1]; simp [c1, c2]))

set_option maxHeartbeats 4000000 in
set_option maxRecDepth 100000 in
theorem tX4_fightOf {E : kE} {b : Nat → Nat} (hb : binj b) (st : kM) (h0 : kH) (nF nC nE w : Nat) (hwf : mwf st nF nC nE w) (x y : Int32) : kCi E yX4_fightOf wsX4_fightOf rmX4_fightOf 0 0 [.ref (b 29), .int x, .int y] (ov E b st h0) (fun r h' => r = (mfightOf st w x y).1 ∧ h' = ov E b (mfightOf st w x y).2 h0) := by
  obtain ⟨hF, hF20, hC, hC6, hE, hE80, hW, hW3, hpl, hof, hon, hsl⟩ := id hwf
  refine kCi_of (rt := .int) (own := RX4) (cc := cX4_fightOf) (maxL := 5) (by decide) rfl rfl (Nat.le_of_ble_eq_true rfl) ?_
  intro X _ kret
  refine r_lo (lo' := [(0, .ref (b 29)), (1, .int x), (2, .int y)]) [0, 1, 2] rfl ?_
  refine r_aload_n dX4_fightOf_0 0 rfl ?_
  refine r_aload_n dX4_fightOf_1 0 rfl ?_
  refine r_iload_n dX4_fightOf_2 1 rfl ?_
  refine r_callVi (nn := 1) (As := [.int x]) (st := [.ref (b 29)]) dX4_fightOf_3 (tX4_isFight hb st h0 x) gX4_fightOf_X4_isFight rfl (by decide +kernel) ⟨Nat.le_of_ble_eq_true rfl, Nat.le_of_ble_eq_true rfl⟩ ⟨rfl, rfl⟩ (ov_obj hb _ _) rfl rfl (Nat.le_of_ble_eq_true rfl) ⟨Nat.le_of_ble_eq_true rfl, Nat.le_of_ble_eq_true rfl⟩ rfl (fun r hh hp => ?_)
  obtain ⟨⟨q1, rfl⟩ | ⟨q1, rfl⟩, rfl⟩ := hp
  · skip
    obtain ⟨o, ho, rfl⟩ := inr_pred (m := nF) (by omega) (by rw [← hF]; exact q1)
    have eo : (nI o).toNatClampNeg = o := nI_clamp (by omega)
    refine r_if_ne (tgt := 13) dX4_fightOf_6 (by decide) (fun _ => ?_) (fun z => absurd z (by decide))
    refine r_iload_n dX4_fightOf_13 2 rfl ?_
    refine r_iconst (v := 0) dX4_fightOf_14 (by decide) ?_
    refine r_iconst (v := 4) dX4_fightOf_15 (by decide) ?_
    refine r_callSi (nn := 3) (As := [.int y, .int 0, .int 4]) (st := [.ref (b 29)]) dX4_fightOf_16 (tX4_in _ y 0 4) gX4_fightOf_X4_in rfl (by decide +kernel) ⟨Nat.le_of_ble_eq_true rfl, Nat.le_of_ble_eq_true rfl⟩ ⟨rfl, rfl⟩ rfl (Nat.le_of_ble_eq_true rfl) ⟨Nat.le_of_ble_eq_true rfl, Nat.le_of_ble_eq_true rfl⟩ rfl (fun r hh hp => ?_)
    obtain ⟨⟨q2, rfl⟩ | ⟨q2, rfl⟩, rfl⟩ := hp
    · skip
      refine r_if_ne (tgt := 26) dX4_fightOf_19 (by decide) (fun _ => ?_) (fun z => absurd z (by decide))
      refine r_iconst (v := 0) dX4_fightOf_26 (by decide) ?_
      refine r_callVi (nn := 1) (As := [.int 0]) (st := []) dX4_fightOf_27 (tX4_refused hb st h0 0) gX4_fightOf_X4_refused rfl (by decide +kernel) ⟨Nat.le_of_ble_eq_true rfl, Nat.le_of_ble_eq_true rfl⟩ ⟨rfl, rfl⟩ (ov_obj hb _ _) rfl rfl (Nat.le_of_ble_eq_true rfl) ⟨Nat.le_of_ble_eq_true rfl, Nat.le_of_ble_eq_true rfl⟩ rfl (fun r hh hp => ?_)
      obtain ⟨hr9, rfl⟩ := hp
      rw [show (if (0 : Int32) = 0 then (0 : Int32) else 1) = 0 from by decide] at hr9
      subst hr9
      refine r_if_eq (tgt := 35) dX4_fightOf_30 (by decide) (fun _ => ?_) (fun z => absurd z (by decide))
      refine r_iload_n dX4_fightOf_35 2 rfl ?_
      refine r_iconst (v := 4) dX4_fightOf_36 (by decide) ?_
      refine r_icmp_ge (tgt := 88) dX4_fightOf_37 (by decide) (fun c3 => ?_) (fun c3 => ?_)
      · skip
        refine r_iconst (v := 0) dX4_fightOf_88 (by decide) ?_
        refine r_istore_n (lo' := [(3, .int 0), (0, .ref (b 29)), (1, .int (nI o)), (2, .int y)]) dX4_fightOf_89 (by decide) rfl ?_
        refine r_iconst (v := 0) dX4_fightOf_90 (by decide) ?_
        refine r_istore (lo' := [(4, .int 0), (3, .int 0), (0, .ref (b 29)), (1, .int (nI o)), (2, .int y)]) dX4_fightOf_91 (by decide) rfl ?_
        refine r_lo (lo' := [(4, .int 0), (3, .int 0), (0, .ref (b 29)), (1, .int (nI o)), (2, .int y)]) [0, 1, 2, 3, 4] rfl ?_
        refine lX4_fightOf_93 hb (st := (ms st 0 0)) nF nC nE w hwf (nI o) y (fun v e1 => ?_) (w + 1) 0 _ (by omega) (Nat.zero_le _) rfl
        refine r_iload_n dX4_fightOf_127 1 rfl ?_
        exact kret _ _ _ _ _ _ (Nat.le_refl _) (Nat.le_refl _) dX4_fightOf_128 rfl (⟨by rw [mfightOf, if_pos q1, if_pos q2, if_neg c3, e1]; rfl, by rw [mfightOf, if_pos q1, if_pos q2]⟩)
      · skip
        refine r_iload_n dX4_fightOf_40 2 rfl ?_
        refine r_if_ne (tgt := 53) dX4_fightOf_41 (by decide) (fun c4 => ?_) (fun c4 => ?_)
        · skip
          refine r_iload_n dX4_fightOf_53 2 rfl ?_
          refine r_iconst (v := 1) dX4_fightOf_54 (by decide) ?_
          refine r_icmp_ne (tgt := 67) dX4_fightOf_55 (by decide) (fun c5 => ?_) (fun c5 => ?_)
          · skip
            refine r_iload_n dX4_fightOf_67 2 rfl ?_
            refine r_iconst (v := 2) dX4_fightOf_68 (by decide) ?_
            refine r_icmp_ne (tgt := 81) dX4_fightOf_69 (by decide) (fun c6 => ?_) (fun c6 => ?_)
            · skip
              refine r_aload_n dX4_fightOf_81 0 rfl ?_
              refine m_geta hb hinX4_fightOf 9 (by decide) rfl dX4_fightOf_82 fwX4_fightOf_29 rfl ?_
              refine r_iload_n dX4_fightOf_85 1 rfl ?_
              refine m_ald (v := st 9 o) hb 9 o (by decide) dX4_fightOf_86 rfl (by show _ < 20; omega) (by decide) rfl ?_
              exact kret _ _ _ _ _ _ (Nat.le_refl _) (Nat.le_refl _) dX4_fightOf_87 rfl (⟨by rw [mfightOf, if_pos q1, if_pos q2] <;> simp [eo, c3, c4, c5, c6] <;> rfl, by rw [mfightOf, if_pos q1, if_pos q2] <;> simp [eo, c3, c4, c5, c6] <;> rfl⟩)
            · skip
              refine r_aload_n dX4_fightOf_72 0 rfl ?_
              refine m_geta hb hinX4_fightOf 8 (by decide) rfl dX4_fightOf_73 fwX4_fightOf_26 rfl ?_
              refine r_iload_n dX4_fightOf_76 1 rfl ?_
              refine m_ald (v := st 8 o) hb 8 o (by decide) dX4_fightOf_77 rfl (by show _ < 20; omega) (by decide) rfl ?_
              refine r_goto (tgt := 87) dX4_fightOf_78 (by decide) ?_
              exact kret _ _ _ _ _ _ (Nat.le_refl _) (Nat.le_refl _) dX4_fightOf_87 rfl (⟨by rw [mfightOf, if_pos q1, if_pos q2] <;> simp [eo, c3, c4, c5, c6] <;> rfl, by rw [mfightOf, if_pos q1, if_pos q2] <;> simp [eo, c3, c4, c5, c6] <;> rfl⟩)
          · skip
            refine r_aload_n dX4_fightOf_58 0 rfl ?_
            refine m_geta hb hinX4_fightOf 7 (by decide) rfl dX4_fightOf_59 fwX4_fightOf_23 rfl ?_
            refine r_iload_n dX4_fightOf_62 1 rfl ?_
            refine m_ald (v := st 7 o) hb 7 o (by decide) dX4_fightOf_63 rfl (by show _ < 20; omega) (by decide) rfl ?_
            refine r_goto (tgt := 87) dX4_fightOf_64 (by decide) ?_
            exact kret _ _ _ _ _ _ (Nat.le_refl _) (Nat.le_refl _) dX4_fightOf_87 rfl (⟨by rw [mfightOf, if_pos q1, if_pos q2] <;> simp [eo, c3, c4, c5] <;> rfl, by rw [mfightOf, if_pos q1, if_pos q2] <;> simp [eo, c3, c4, c5] <;> rfl⟩)
        · skip
          refine r_aload_n dX4_fightOf_44 0 rfl ?_
          refine m_geta hb hinX4_fightOf 6 (by decide) rfl dX4_fightOf_45 fwX4_fightOf_20 rfl ?_
          refine r_iload_n dX4_fightOf_48 1 rfl ?_
          refine m_ald (v := st 6 o) hb 6 o (by decide) dX4_fightOf_49 rfl (by show _ < 20; omega) (by decide) rfl ?_
          refine r_goto (tgt := 87) dX4_fightOf_50 (by decide) ?_
          exact kret _ _ _ _ _ _ (Nat.le_refl _) (Nat.le_refl _) dX4_fightOf_87 rfl (⟨by rw [mfightOf, if_pos q1, if_pos q2] <;> simp [eo, c3, c4] <;> rfl, by rw [mfightOf, if_pos q1, if_pos q2] <;> simp [eo, c3, c4] <;> rfl⟩)
    · skip
      refine r_if_ne (tgt := 26) dX4_fightOf_19 (by decide) (fun z => absurd z (by decide)) (fun _ => ?_)
      refine r_iconst (v := 2) dX4_fightOf_22 (by decide) ?_
      refine r_goto (tgt := 27) dX4_fightOf_23 (by decide) ?_
      refine r_callVi (nn := 1) (As := [.int 2]) (st := []) dX4_fightOf_27 (tX4_refused hb st h0 2) gX4_fightOf_X4_refused rfl (by decide +kernel) ⟨Nat.le_of_ble_eq_true rfl, Nat.le_of_ble_eq_true rfl⟩ ⟨rfl, rfl⟩ (ov_obj hb _ _) rfl rfl (Nat.le_of_ble_eq_true rfl) ⟨Nat.le_of_ble_eq_true rfl, Nat.le_of_ble_eq_true rfl⟩ rfl (fun r hh hp => ?_)
      obtain ⟨hr9, rfl⟩ := hp
      rw [show (if (2 : Int32) = 0 then (0 : Int32) else 1) = 1 from by decide] at hr9
      subst hr9
      refine r_if_eq (tgt := 35) dX4_fightOf_30 (by decide) (fun z => absurd z (by decide)) (fun _ => ?_)
      refine r_iconst (v := 0) dX4_fightOf_33 (by decide) ?_
      exact kret _ _ _ _ _ _ (Nat.le_refl _) (Nat.le_refl _) dX4_fightOf_34 rfl (⟨by rw [mfightOf, if_pos q1, if_neg (by rw [q2]; decide)] <;> simp [eo] <;> rfl, by rw [mfightOf, if_pos q1, if_neg (by rw [q2]; decide)] <;> simp [eo] <;> rfl⟩)
  · skip
    refine r_if_ne (tgt := 13) dX4_fightOf_6 (by decide) (fun z => absurd z (by decide)) (fun _ => ?_)
    refine r_iconst (v := 1) dX4_fightOf_9 (by decide) ?_
    refine r_goto (tgt := 27) dX4_fightOf_10 (by decide) ?_
    refine r_callVi (nn := 1) (As := [.int 1]) (st := []) dX4_fightOf_27 (tX4_refused hb st h0 1) gX4_fightOf_X4_refused rfl (by decide +kernel) ⟨Nat.le_of_ble_eq_true rfl, Nat.le_of_ble_eq_true rfl⟩ ⟨rfl, rfl⟩ (ov_obj hb _ _) rfl rfl (Nat.le_of_ble_eq_true rfl) ⟨Nat.le_of_ble_eq_true rfl, Nat.le_of_ble_eq_true rfl⟩ rfl (fun r hh hp => ?_)
    obtain ⟨hr9, rfl⟩ := hp
    rw [show (if (1 : Int32) = 0 then (0 : Int32) else 1) = 1 from by decide] at hr9
    subst hr9
    refine r_if_eq (tgt := 35) dX4_fightOf_30 (by decide) (fun z => absurd z (by decide)) (fun _ => ?_)
    refine r_iconst (v := 0) dX4_fightOf_33 (by decide) ?_
    exact kret _ _ _ _ _ _ (Nat.le_refl _) (Nat.le_refl _) dX4_fightOf_34 rfl (⟨by rw [mfightOf, if_neg (by rw [q1]; decide)], by rw [mfightOf, if_neg (by rw [q1]; decide)]⟩)

abbrev rmX4_counted : Room := { frames := 2, cells := 0, slots := 0, locals := 42 }
set_option maxHeartbeats 4000000 in
set_option maxRecDepth 100000 in
theorem tX4_counted {E : kE} {b : Nat → Nat} (hb : binj b) (st : kM) (h0 : kH) (nF nC nE w : Nat) (hwf : mwf st nF nC nE w) (x : Int32) : kCi E yX4_counted wsX4_counted rmX4_counted 0 0 [.ref (b 29), .int x] (ov E b st h0) (fun r h' => r = (mcounted st w x).1 ∧ h' = ov E b (mcounted st w x).2 h0) := by
  obtain ⟨hF, hF20, hC, hC6, hE, hE80, hW, hW3, hpl, hof, hon, hsl⟩ := id hwf
  refine kCi_of (rt := .int) (own := RX4) (cc := cX4_counted) (maxL := 2) (by decide) rfl rfl (Nat.le_of_ble_eq_true rfl) ?_
  intro X _ kret
  refine r_lo (lo' := [(0, .ref (b 29)), (1, .int x)]) [0, 1] rfl ?_
  refine r_aload_n dX4_counted_0 0 rfl ?_
  refine r_iload_n dX4_counted_1 1 rfl ?_
  refine r_callSi (nn := 1) (As := [.int x]) (st := [.ref (b 29)]) dX4_counted_2 (tX4_isSponsor _ x) gX4_counted_X4_isSponsor rfl (by decide +kernel) ⟨Nat.le_of_ble_eq_true rfl, Nat.le_of_ble_eq_true rfl⟩ ⟨rfl, rfl⟩ rfl (Nat.le_of_ble_eq_true rfl) ⟨Nat.le_of_ble_eq_true rfl, Nat.le_of_ble_eq_true rfl⟩ rfl (fun r hh hp => ?_)
  obtain ⟨⟨q1, rfl⟩ | ⟨q1, rfl⟩, rfl⟩ := hp
  · skip
    refine r_if_eq (tgt := 12) dX4_counted_5 (by decide) (fun z => absurd z (by decide)) (fun _ => ?_)
    refine r_iconst (v := 0) dX4_counted_8 (by decide) ?_
    refine r_goto (tgt := 13) dX4_counted_9 (by decide) ?_
    refine r_callVi (nn := 1) (As := [.int 0]) (st := []) dX4_counted_13 (tX4_refused hb st h0 0) gX4_counted_X4_refused rfl (by decide +kernel) ⟨Nat.le_of_ble_eq_true rfl, Nat.le_of_ble_eq_true rfl⟩ ⟨rfl, rfl⟩ (ov_obj hb _ _) rfl rfl (Nat.le_of_ble_eq_true rfl) ⟨Nat.le_of_ble_eq_true rfl, Nat.le_of_ble_eq_true rfl⟩ rfl (fun r hh hp => ?_)
    obtain ⟨hr9, rfl⟩ := hp
    rw [show (if (0 : Int32) = 0 then (0 : Int32) else 1) = 0 from by decide] at hr9
    subst hr9
    refine r_if_eq (tgt := 23) dX4_counted_16 (by decide) (fun _ => ?_) (fun z => absurd z (by decide))
    refine r_aload_n dX4_counted_23 0 rfl ?_
    refine r_iload_n dX4_counted_24 1 rfl ?_
    refine r_callVi (nn := 1) (As := [.int x]) (st := []) dX4_counted_25 (tX4_countedFor hb (ms st 0 0) h0 nF nC nE w hwf x) gX4_counted_X4_countedFor rfl (by decide +kernel) ⟨Nat.le_of_ble_eq_true rfl, Nat.le_of_ble_eq_true rfl⟩ ⟨rfl, rfl⟩ (ov_obj hb _ _) rfl rfl (Nat.le_of_ble_eq_true rfl) ⟨Nat.le_of_ble_eq_true rfl, Nat.le_of_ble_eq_true rfl⟩ rfl (fun r hh hp => ?_)
    obtain ⟨rfl, rfl⟩ := hp
    exact kret _ _ _ _ _ _ (Nat.le_refl _) (Nat.le_refl _) dX4_counted_28 rfl (⟨by rw [mcounted, if_pos q1] <;> rfl, by rw [mcounted, if_pos q1]⟩)
  · skip
    refine r_if_eq (tgt := 12) dX4_counted_5 (by decide) (fun _ => ?_) (fun z => absurd z (by decide))
    refine r_iconst (v := 1) dX4_counted_12 (by decide) ?_
    refine r_callVi (nn := 1) (As := [.int 1]) (st := []) dX4_counted_13 (tX4_refused hb st h0 1) gX4_counted_X4_refused rfl (by decide +kernel) ⟨Nat.le_of_ble_eq_true rfl, Nat.le_of_ble_eq_true rfl⟩ ⟨rfl, rfl⟩ (ov_obj hb _ _) rfl rfl (Nat.le_of_ble_eq_true rfl) ⟨Nat.le_of_ble_eq_true rfl, Nat.le_of_ble_eq_true rfl⟩ rfl (fun r hh hp => ?_)
    obtain ⟨hr9, rfl⟩ := hp
    rw [show (if (1 : Int32) = 0 then (0 : Int32) else 1) = 1 from by decide] at hr9
    subst hr9
    refine r_if_eq (tgt := 23) dX4_counted_16 (by decide) (fun z => absurd z (by decide)) (fun _ => ?_)
    refine r_iconst (v := 0) dX4_counted_19 (by decide) ?_
    refine r_goto (tgt := 28) dX4_counted_20 (by decide) ?_
    exact kret _ _ _ _ _ _ (Nat.le_refl _) (Nat.le_refl _) dX4_counted_28 rfl (⟨by rw [mcounted, if_neg (by rw [q1]; decide)], by rw [mcounted, if_neg (by rw [q1]; decide)]⟩)

abbrev rmX4_countedAnew : Room := { frames := 3, cells := 0, slots := 0, locals := 63 }
set_option maxHeartbeats 4000000 in
set_option maxRecDepth 100000 in
theorem tX4_countedAnew {E : kE} {b : Nat → Nat} (hb : binj b) (st : kM) (h0 : kH) (nF nC nE w : Nat) (hwf : mwf st nF nC nE w) (x : Int32) : kCi E yX4_countedAnew wsX4_countedAnew rmX4_countedAnew 0 0 [.ref (b 29), .int x] (ov E b st h0) (fun r h' => r = (mcounted st w x).1 ∧ h' = ov E b (mcounted st w x).2 h0) := by
  obtain ⟨hF, hF20, hC, hC6, hE, hE80, hW, hW3, hpl, hof, hon, hsl⟩ := id hwf
  refine kCi_of (rt := .int) (own := RX4) (cc := cX4_countedAnew) (maxL := 2) (by decide) rfl rfl (Nat.le_of_ble_eq_true rfl) ?_
  intro X _ kret
  refine r_lo (lo' := [(0, .ref (b 29)), (1, .int x)]) [0, 1] rfl ?_
  refine r_aload_n dX4_countedAnew_0 0 rfl ?_
  refine r_iload_n dX4_countedAnew_1 1 rfl ?_
  refine r_callVi (nn := 1) (As := [.int x]) (st := []) dX4_countedAnew_2 (tX4_counted hb st h0 nF nC nE w hwf x) gX4_countedAnew_X4_counted rfl (by decide +kernel) ⟨Nat.le_of_ble_eq_true rfl, Nat.le_of_ble_eq_true rfl⟩ ⟨rfl, rfl⟩ (ov_obj hb _ _) rfl rfl (Nat.le_of_ble_eq_true rfl) ⟨Nat.le_of_ble_eq_true rfl, Nat.le_of_ble_eq_true rfl⟩ rfl (fun r hh hp => ?_)
  obtain ⟨rfl, rfl⟩ := hp
  exact kret _ _ _ _ _ _ (Nat.le_refl _) (Nat.le_refl _) dX4_countedAnew_5 rfl (⟨rfl, rfl⟩)

abbrev rmX4_owed : Room := { frames := 2, cells := 0, slots := 0, locals := 45 }
set_option maxHeartbeats 4000000 in
set_option maxRecDepth 100000 in
theorem tX4_owed {E : kE} {b : Nat → Nat} (hb : binj b) (st : kM) (h0 : kH) (nF nC nE w : Nat) (hwf : mwf st nF nC nE w) (x : Int32) : kCi E yX4_owed wsX4_owed rmX4_owed 0 0 [.ref (b 29), .int x] (ov E b st h0) (fun r h' => r = (mowedP st w x).1 ∧ h' = ov E b (mowedP st w x).2 h0) := by
  obtain ⟨hF, hF20, hC, hC6, hE, hE80, hW, hW3, hpl, hof, hon, hsl⟩ := id hwf
  refine kCi_of (rt := .int) (own := RX4) (cc := cX4_owed) (maxL := 2) (by decide) rfl rfl (Nat.le_of_ble_eq_true rfl) ?_
  intro X _ kret
  refine r_lo (lo' := [(0, .ref (b 29)), (1, .int x)]) [0, 1] rfl ?_
  refine r_aload_n dX4_owed_0 0 rfl ?_
  refine r_iload_n dX4_owed_1 1 rfl ?_
  refine r_callSi (nn := 1) (As := [.int x]) (st := [.ref (b 29)]) dX4_owed_2 (tX4_isSponsor _ x) gX4_owed_X4_isSponsor rfl (by decide +kernel) ⟨Nat.le_of_ble_eq_true rfl, Nat.le_of_ble_eq_true rfl⟩ ⟨rfl, rfl⟩ rfl (Nat.le_of_ble_eq_true rfl) ⟨Nat.le_of_ble_eq_true rfl, Nat.le_of_ble_eq_true rfl⟩ rfl (fun r hh hp => ?_)
  obtain ⟨⟨q1, rfl⟩ | ⟨q1, rfl⟩, rfl⟩ := hp
  · skip
    obtain ⟨o, ho, rfl⟩ := inr_nat (m := 5) (by decide) q1
    have eo : (nI o).toNatClampNeg = o := nI_clamp (by omega)
    refine r_if_eq (tgt := 12) dX4_owed_5 (by decide) (fun z => absurd z (by decide)) (fun _ => ?_)
    refine r_iconst (v := 0) dX4_owed_8 (by decide) ?_
    refine r_goto (tgt := 13) dX4_owed_9 (by decide) ?_
    refine r_callVi (nn := 1) (As := [.int 0]) (st := []) dX4_owed_13 (tX4_refused hb st h0 0) gX4_owed_X4_refused rfl (by decide +kernel) ⟨Nat.le_of_ble_eq_true rfl, Nat.le_of_ble_eq_true rfl⟩ ⟨rfl, rfl⟩ (ov_obj hb _ _) rfl rfl (Nat.le_of_ble_eq_true rfl) ⟨Nat.le_of_ble_eq_true rfl, Nat.le_of_ble_eq_true rfl⟩ rfl (fun r hh hp => ?_)
    obtain ⟨hr9, rfl⟩ := hp
    rw [show (if (0 : Int32) = 0 then (0 : Int32) else 1) = 0 from by decide] at hr9
    subst hr9
    refine r_if_eq (tgt := 23) dX4_owed_16 (by decide) (fun _ => ?_) (fun z => absurd z (by decide))
    refine r_aload_n dX4_owed_23 0 rfl ?_
    refine r_iload_n dX4_owed_24 1 rfl ?_
    refine r_callVi (nn := 1) (As := [.int (nI o)]) (st := []) dX4_owed_25 (tX4_owedTo hb (ms st 0 0) h0 nF nC nE w hwf o (by omega)) gX4_owed_X4_owedTo rfl (by decide +kernel) ⟨Nat.le_of_ble_eq_true rfl, Nat.le_of_ble_eq_true rfl⟩ ⟨rfl, rfl⟩ (ov_obj hb _ _) rfl rfl (Nat.le_of_ble_eq_true rfl) ⟨Nat.le_of_ble_eq_true rfl, Nat.le_of_ble_eq_true rfl⟩ rfl (fun r hh hp => ?_)
    obtain ⟨rfl, rfl⟩ := hp
    exact kret _ _ _ _ _ _ (Nat.le_refl _) (Nat.le_refl _) dX4_owed_28 rfl (⟨by rw [mowedP, if_pos q1, eo] <;> rfl, by rw [mowedP, if_pos q1]⟩)
  · skip
    refine r_if_eq (tgt := 12) dX4_owed_5 (by decide) (fun _ => ?_) (fun z => absurd z (by decide))
    refine r_iconst (v := 1) dX4_owed_12 (by decide) ?_
    refine r_callVi (nn := 1) (As := [.int 1]) (st := []) dX4_owed_13 (tX4_refused hb st h0 1) gX4_owed_X4_refused rfl (by decide +kernel) ⟨Nat.le_of_ble_eq_true rfl, Nat.le_of_ble_eq_true rfl⟩ ⟨rfl, rfl⟩ (ov_obj hb _ _) rfl rfl (Nat.le_of_ble_eq_true rfl) ⟨Nat.le_of_ble_eq_true rfl, Nat.le_of_ble_eq_true rfl⟩ rfl (fun r hh hp => ?_)
    obtain ⟨hr9, rfl⟩ := hp
    rw [show (if (1 : Int32) = 0 then (0 : Int32) else 1) = 1 from by decide] at hr9
    subst hr9
    refine r_if_eq (tgt := 23) dX4_owed_16 (by decide) (fun z => absurd z (by decide)) (fun _ => ?_)
    refine r_iconst (v := 0) dX4_owed_19 (by decide) ?_
    refine r_goto (tgt := 28) dX4_owed_20 (by decide) ?_
    exact kret _ _ _ _ _ _ (Nat.le_refl _) (Nat.le_refl _) dX4_owed_28 rfl (⟨by rw [mowedP, if_neg (by rw [q1]; decide)], by rw [mowedP, if_neg (by rw [q1]; decide)]⟩)

abbrev rmX4_leader : Room := { frames := 2, cells := 0, slots := 0, locals := 42 }
set_option maxHeartbeats 4000000 in
set_option maxRecDepth 100000 in
theorem lX4_leader_37 {E : kE} {b : Nat → Nat} (hb : binj b) {st : kM} {h0 : kH} (nF nC nE w : Nat) (hwf : mwf st nF nC nE w) (x : Int32) (f : Int32) (kk : Nat) {X : kX} (hx : ∀ v : Int32, v = aheR st nF kk 10 → V E X rmX4_leader cX4_leader 6 wsX4_leader RX4 0 0 (ov E b st h0) [(5, .int (nI 10)), (4, .int v), (0, .ref (b 29)), (1, .int x), (2, .int f), (3, .int (nI kk))] 94 [])
    : ∀ (d i : Nat) (v : Int32), 10 < i + d → i ≤ 10 → v = aheR st nF kk i → V E X rmX4_leader cX4_leader 6 wsX4_leader RX4 0 0 (ov E b st h0) [(5, .int (nI i)), (4, .int v), (0, .ref (b 29)), (1, .int x), (2, .int f), (3, .int (nI kk))] 37 [] := by
  obtain ⟨hF, hF20, hC, hC6, hE, hE80, hW, hW3, hpl, hof, hon, hsl⟩ := id hwf
  intro d
  induction d with
  | zero =>
    intro i v h1 h2
    exact absurd h1 (by omega)
  | succ d ih =>
    intro i v h1 h2 e1
    refine r_iload dX4_leader_37 0 rfl ?_
    refine r_bipush (v := 10) dX4_leader_39 (by decide) ?_
    refine rn_icmp_ge (a := i) (c := 10) (tgt := 94) dX4_leader_41 (by decide) rfl rfl (by omega) (by omega) (fun c1 => ?_) (fun c1 => ?_)
    · skip
      have hNi : 10 = i := by omega
      subst hNi
      exact hx v e1
    · skip
      refine r_iload dX4_leader_44 1 rfl ?_
      refine r_aload_n dX4_leader_46 2 rfl ?_
      refine r_iload dX4_leader_47 0 rfl ?_
      refine r_callVi (nn := 1) (As := [.int (nI i)]) (st := [.int v]) dX4_leader_49 (tX4_wins hb st h0 nF nC nE w hwf (nI i)) gX4_leader_X4_wins rfl (by decide +kernel) ⟨Nat.le_of_ble_eq_true rfl, Nat.le_of_ble_eq_true rfl⟩ ⟨rfl, rfl⟩ (ov_obj hb _ _) rfl rfl (Nat.le_of_ble_eq_true rfl) ⟨Nat.le_of_ble_eq_true rfl, Nat.le_of_ble_eq_true rfl⟩ rfl (fun r hh hp => ?_)
      obtain ⟨rfl, rfl⟩ := hp
      refine r_aload_n dX4_leader_52 2 rfl ?_
      refine r_iload_n dX4_leader_53 5 rfl ?_
      refine r_callVi (nn := 1) (As := [.int (nI kk)]) (st := [.int (winR st (nI i) nF), .int v]) dX4_leader_54 (tX4_wins hb st h0 nF nC nE w hwf (nI kk)) gX4_leader_X4_wins rfl (by decide +kernel) ⟨Nat.le_of_ble_eq_true rfl, Nat.le_of_ble_eq_true rfl⟩ ⟨rfl, rfl⟩ (ov_obj hb _ _) rfl rfl (Nat.le_of_ble_eq_true rfl) ⟨Nat.le_of_ble_eq_true rfl, Nat.le_of_ble_eq_true rfl⟩ rfl (fun r hh hp => ?_)
      obtain ⟨rfl, rfl⟩ := hp
      refine r_icmp_gt (tgt := 80) dX4_leader_57 (by decide) (fun c2 => ?_) (fun c2 => ?_)
      · skip
        refine r_iconst (v := 1) dX4_leader_80 (by decide) ?_
        refine r_goto (tgt := 85) dX4_leader_81 (by decide) ?_
        refine r_iadd dX4_leader_85 ?_
        refine r_istore (lo' := [(4, .int (v + 1)), (5, .int (nI i)), (0, .ref (b 29)), (1, .int x), (2, .int f), (3, .int (nI kk))]) dX4_leader_86 (by decide) rfl ?_
        refine r_iinc (v := nI (i + 1)) (lo' := [(5, .int (nI (i + 1))), (4, .int (v + 1)), (0, .ref (b 29)), (1, .int x), (2, .int f), (3, .int (nI kk))]) dX4_leader_88 1 rfl (nI_1 i) (by decide) rfl ?_
        refine r_goto (tgt := 37) dX4_leader_91 (by decide) ?_
        refine r_lo (lo' := [(5, .int (nI (i + 1))), (4, .int (v + 1)), (0, .ref (b 29)), (1, .int x), (2, .int f), (3, .int (nI kk))]) [0, 1, 2, 3, 4, 5] rfl ?_
        exact ih (i + 1) (v + 1) (by omega) (by omega) (by first | (simp only [aheR, ← e1, if_pos c2, if_true]; done) | (simp only [aheR, ← e1]; simp [c1, c2]))
      · skip
        refine r_aload_n dX4_leader_60 2 rfl ?_
        refine r_iload dX4_leader_61 0 rfl ?_
        refine r_callVi (nn := 1) (As := [.int (nI i)]) (st := [.int v]) dX4_leader_63 (tX4_wins hb st h0 nF nC nE w hwf (nI i)) gX4_leader_X4_wins rfl (by decide +kernel) ⟨Nat.le_of_ble_eq_true rfl, Nat.le_of_ble_eq_true rfl⟩ ⟨rfl, rfl⟩ (ov_obj hb _ _) rfl rfl (Nat.le_of_ble_eq_true rfl) ⟨Nat.le_of_ble_eq_true rfl, Nat.le_of_ble_eq_true rfl⟩ rfl (fun r hh hp => ?_)
        obtain ⟨rfl, rfl⟩ := hp
        refine r_aload_n dX4_leader_66 2 rfl ?_
        refine r_iload_n dX4_leader_67 5 rfl ?_
        refine r_callVi (nn := 1) (As := [.int (nI kk)]) (st := [.int (winR st (nI i) nF), .int v]) dX4_leader_68 (tX4_wins hb st h0 nF nC nE w hwf (nI kk)) gX4_leader_X4_wins rfl (by decide +kernel) ⟨Nat.le_of_ble_eq_true rfl, Nat.le_of_ble_eq_true rfl⟩ ⟨rfl, rfl⟩ (ov_obj hb _ _) rfl rfl (Nat.le_of_ble_eq_true rfl) ⟨Nat.le_of_ble_eq_true rfl, Nat.le_of_ble_eq_true rfl⟩ rfl (fun r hh hp => ?_)
        obtain ⟨rfl, rfl⟩ := hp
        refine r_icmp_ne (tgt := 84) dX4_leader_71 (by decide) (fun c3 => ?_) (fun c3 => ?_)
        · skip
          refine r_iconst (v := 0) dX4_leader_84 (by decide) ?_
          refine r_iadd dX4_leader_85 ?_
          refine r_istore (lo' := [(4, .int (v + 0)), (5, .int (nI i)), (0, .ref (b 29)), (1, .int x), (2, .int f), (3, .int (nI kk))]) dX4_leader_86 (by decide) rfl ?_
          refine r_iinc (v := nI (i + 1)) (lo' := [(5, .int (nI (i + 1))), (4, .int (v + 0)), (0, .ref (b 29)), (1, .int x), (2, .int f), (3, .int (nI kk))]) dX4_leader_88 1 rfl (nI_1 i) (by decide) rfl ?_
          refine r_goto (tgt := 37) dX4_leader_91 (by decide) ?_
          refine r_lo (lo' := [(5, .int (nI (i + 1))), (4, .int (v + 0)), (0, .ref (b 29)), (1, .int x), (2, .int f), (3, .int (nI kk))]) [0, 1, 2, 3, 4, 5] rfl ?_
          exact ih (i + 1) (v + 0) (by omega) (by omega) (by first | (simp only [aheR, ← e1, if_neg c2, if_neg c3, if_true]; done) | (simp only [aheR, ← e1]; simp [c1, c2, c3]))
        · skip
          refine r_iload dX4_leader_74 0 rfl ?_
          refine r_iload_n dX4_leader_76 5 rfl ?_
          refine r_icmp_ge (tgt := 84) dX4_leader_77 (by decide) (fun c4 => ?_) (fun c4 => ?_)
          · skip
            refine r_iconst (v := 0) dX4_leader_84 (by decide) ?_
            refine r_iadd dX4_leader_85 ?_
            refine r_istore (lo' := [(4, .int (v + 0)), (5, .int (nI i)), (0, .ref (b 29)), (1, .int x), (2, .int f), (3, .int (nI kk))]) dX4_leader_86 (by decide) rfl ?_
            refine r_iinc (v := nI (i + 1)) (lo' := [(5, .int (nI (i + 1))), (4, .int (v + 0)), (0, .ref (b 29)), (1, .int x), (2, .int f), (3, .int (nI kk))]) dX4_leader_88 1 rfl (nI_1 i) (by decide) rfl ?_
            refine r_goto (tgt := 37) dX4_leader_91 (by decide) ?_
            refine r_lo (lo' := [(5, .int (nI (i + 1))), (4, .int (v + 0)), (0, .ref (b 29)), (1, .int x), (2, .int f), (3, .int (nI kk))]) [0, 1, 2, 3, 4, 5] rfl ?_
            exact ih (i + 1) (v + 0) (by omega) (by omega) (by first | (simp only [aheR, ← e1, if_neg c2, if_pos c3, if_neg c4, if_true]; done) | (simp only [aheR, ← e1]; simp [c1, c2, c3, c4]))
          · skip
            refine r_iconst (v := 1) dX4_leader_80 (by decide) ?_
            refine r_goto (tgt := 85) dX4_leader_81 (by decide) ?_
            refine r_iadd dX4_leader_85 ?_
            refine r_istore (lo' := [(4, .int (v + 1)), (5, .int (nI i)), (0, .ref (b 29)), (1, .int x), (2, .int f), (3, .int (nI kk))]) dX4_leader_86 (by decide) rfl ?_
            refine r_iinc (v := nI (i + 1)) (lo' := [(5, .int (nI (i + 1))), (4, .int (v + 1)), (0, .ref (b 29)), (1, .int x), (2, .int f), (3, .int (nI kk))]) dX4_leader_88 1 rfl (nI_1 i) (by decide) rfl ?_
            refine r_goto (tgt := 37) dX4_leader_91 (by decide) ?_
            refine r_lo (lo' := [(5, .int (nI (i + 1))), (4, .int (v + 1)), (0, .ref (b 29)), (1, .int x), (2, .int f), (3, .int (nI kk))]) [0, 1, 2, 3, 4, 5] rfl ?_
            exact ih (i + 1) (v + 1) (by omega) (by omega) (by first | (simp only [aheR, ← e1, if_neg c2, if_pos c3, if_pos c4, if_true]; done) | (simp only [aheR, ← e1]; simp [c1, c2, c3, c4]))

set_option maxHeartbeats 4000000 in
set_option maxRecDepth 100000 in
theorem lX4_leader_25 {E : kE} {b : Nat → Nat} (hb : binj b) {st : kM} {h0 : kH} (nF nC nE w : Nat) (hwf : mwf st nF nC nE w) (x : Int32)  {X : kX} (hx : ∀ v : Int32, v = leaR st nF x 10 → V E X rmX4_leader cX4_leader 6 wsX4_leader RX4 0 0 (ov E b st h0) [(3, .int (nI 10)), (2, .int v), (0, .ref (b 29)), (1, .int x)] 112 [])
    : ∀ (d i : Nat) (v : Int32), 10 < i + d → i ≤ 10 → v = leaR st nF x i → V E X rmX4_leader cX4_leader 6 wsX4_leader RX4 0 0 (ov E b st h0) [(3, .int (nI i)), (2, .int v), (0, .ref (b 29)), (1, .int x)] 25 [] := by
  obtain ⟨hF, hF20, hC, hC6, hE, hE80, hW, hW3, hpl, hof, hon, hsl⟩ := id hwf
  intro d
  induction d with
  | zero =>
    intro i v h1 h2
    exact absurd h1 (by omega)
  | succ d ih =>
    intro i v h1 h2 e1
    refine r_iload_n dX4_leader_25 0 rfl ?_
    refine r_bipush (v := 10) dX4_leader_26 (by decide) ?_
    refine rn_icmp_ge (a := i) (c := 10) (tgt := 112) dX4_leader_28 (by decide) rfl rfl (by omega) (by omega) (fun c1 => ?_) (fun c1 => ?_)
    · skip
      have hNi : 10 = i := by omega
      subst hNi
      exact hx v e1
    · skip
      refine r_iconst (v := 0) dX4_leader_31 (by decide) ?_
      refine r_istore (lo' := [(4, .int 0), (3, .int (nI i)), (2, .int v), (0, .ref (b 29)), (1, .int x)]) dX4_leader_32 (by decide) rfl ?_
      refine r_iconst (v := 0) dX4_leader_34 (by decide) ?_
      refine r_istore (lo' := [(5, .int 0), (4, .int 0), (3, .int (nI i)), (2, .int v), (0, .ref (b 29)), (1, .int x)]) dX4_leader_35 (by decide) rfl ?_
      refine r_lo (lo' := [(5, .int 0), (4, .int 0), (0, .ref (b 29)), (1, .int x), (2, .int v), (3, .int (nI i))]) [0, 1, 4, 5, 3, 2] rfl ?_
      refine lX4_leader_37 hb nF nC nE w hwf x v i (fun v2 e2 => ?_) 11 0 _ (by omega) (by omega) rfl
      refine r_iload dX4_leader_94 1 rfl ?_
      refine r_iload_n dX4_leader_96 3 rfl ?_
      refine r_icmp_ne (tgt := 104) dX4_leader_97 (by decide) (fun c2 => ?_) (fun c2 => ?_)
      · skip
        refine r_iload_n dX4_leader_104 4 rfl ?_
        refine r_istore_n (lo' := [(2, .int v), (5, .int (nI 10)), (4, .int v2), (0, .ref (b 29)), (1, .int x), (3, .int (nI i))]) dX4_leader_105 (by decide) rfl ?_
        refine r_iinc (v := nI (i + 1)) (lo' := [(3, .int (nI (i + 1))), (2, .int v), (5, .int (nI 10)), (4, .int v2), (0, .ref (b 29)), (1, .int x)]) dX4_leader_106 5 rfl (nI_1 i) (by decide) rfl ?_
        refine r_goto (tgt := 25) dX4_leader_109 (by decide) ?_
        refine r_lo (lo' := [(3, .int (nI (i + 1))), (2, .int v), (0, .ref (b 29)), (1, .int x)]) [0, 1, 4, 5] rfl ?_
        exact ih (i + 1) v (by omega) (by omega) (by simp only [leaR, ← e1, ← e2, if_neg c2, if_true])
      · skip
        refine r_iload_n dX4_leader_100 5 rfl ?_
        refine r_goto (tgt := 105) dX4_leader_101 (by decide) ?_
        refine r_istore_n (lo' := [(2, .int (nI i)), (5, .int (nI 10)), (4, .int v2), (0, .ref (b 29)), (1, .int x), (3, .int (nI i))]) dX4_leader_105 (by decide) rfl ?_
        refine r_iinc (v := nI (i + 1)) (lo' := [(3, .int (nI (i + 1))), (2, .int (nI i)), (5, .int (nI 10)), (4, .int v2), (0, .ref (b 29)), (1, .int x)]) dX4_leader_106 5 rfl (nI_1 i) (by decide) rfl ?_
        refine r_goto (tgt := 25) dX4_leader_109 (by decide) ?_
        refine r_lo (lo' := [(3, .int (nI (i + 1))), (2, .int (nI i)), (0, .ref (b 29)), (1, .int x)]) [0, 1, 4, 5] rfl ?_
        exact ih (i + 1) (nI i) (by omega) (by omega) (by simp only [leaR, ← e1, ← e2, if_pos c2, if_true])

set_option maxHeartbeats 4000000 in
set_option maxRecDepth 100000 in
theorem tX4_leader {E : kE} {b : Nat → Nat} (hb : binj b) (st : kM) (h0 : kH) (nF nC nE w : Nat) (hwf : mwf st nF nC nE w) (x : Int32) : kCi E yX4_leader wsX4_leader rmX4_leader 0 0 [.ref (b 29), .int x] (ov E b st h0) (fun r h' => r = (mleader st nF x).1 ∧ h' = ov E b (mleader st nF x).2 h0) := by
  obtain ⟨hF, hF20, hC, hC6, hE, hE80, hW, hW3, hpl, hof, hon, hsl⟩ := id hwf
  refine kCi_of (rt := .int) (own := RX4) (cc := cX4_leader) (maxL := 6) (by decide) rfl rfl (Nat.le_of_ble_eq_true rfl) ?_
  intro X _ kret
  refine r_lo (lo' := [(0, .ref (b 29)), (1, .int x)]) [0, 1] rfl ?_
  refine r_aload_n dX4_leader_0 0 rfl ?_
  refine r_iload_n dX4_leader_1 1 rfl ?_
  refine r_callSi (nn := 1) (As := [.int x]) (st := [.ref (b 29)]) dX4_leader_2 (tX4_isPlayer _ x) gX4_leader_X4_isPlayer rfl (by decide +kernel) ⟨Nat.le_of_ble_eq_true rfl, Nat.le_of_ble_eq_true rfl⟩ ⟨rfl, rfl⟩ rfl (Nat.le_of_ble_eq_true rfl) ⟨Nat.le_of_ble_eq_true rfl, Nat.le_of_ble_eq_true rfl⟩ rfl (fun r hh hp => ?_)
  obtain ⟨⟨q1, rfl⟩ | ⟨q1, rfl⟩, rfl⟩ := hp
  · skip
    refine r_if_eq (tgt := 12) dX4_leader_5 (by decide) (fun z => absurd z (by decide)) (fun _ => ?_)
    refine r_iconst (v := 0) dX4_leader_8 (by decide) ?_
    refine r_goto (tgt := 13) dX4_leader_9 (by decide) ?_
    refine r_callVi (nn := 1) (As := [.int 0]) (st := []) dX4_leader_13 (tX4_refused hb st h0 0) gX4_leader_X4_refused rfl (by decide +kernel) ⟨Nat.le_of_ble_eq_true rfl, Nat.le_of_ble_eq_true rfl⟩ ⟨rfl, rfl⟩ (ov_obj hb _ _) rfl rfl (Nat.le_of_ble_eq_true rfl) ⟨Nat.le_of_ble_eq_true rfl, Nat.le_of_ble_eq_true rfl⟩ rfl (fun r hh hp => ?_)
    obtain ⟨hr9, rfl⟩ := hp
    rw [show (if (0 : Int32) = 0 then (0 : Int32) else 1) = 0 from by decide] at hr9
    subst hr9
    refine r_if_eq (tgt := 21) dX4_leader_16 (by decide) (fun _ => ?_) (fun z => absurd z (by decide))
    refine r_iconst (v := 0) dX4_leader_21 (by decide) ?_
    refine r_istore_n (lo' := [(2, .int 0), (0, .ref (b 29)), (1, .int x)]) dX4_leader_22 (by decide) rfl ?_
    refine r_iconst (v := 0) dX4_leader_23 (by decide) ?_
    refine r_istore_n (lo' := [(3, .int 0), (2, .int 0), (0, .ref (b 29)), (1, .int x)]) dX4_leader_24 (by decide) rfl ?_
    refine r_lo (lo' := [(3, .int 0), (2, .int 0), (0, .ref (b 29)), (1, .int x)]) [0, 1, 2, 3] rfl ?_
    refine lX4_leader_25 hb (st := (ms st 0 0)) nF nC nE w hwf x (fun v e1 => ?_) 11 0 _ (by omega) (by omega) rfl
    refine r_iload_n dX4_leader_112 1 rfl ?_
    exact kret _ _ _ _ _ _ (Nat.le_refl _) (Nat.le_refl _) dX4_leader_113 rfl (⟨by rw [mleader, if_pos q1, e1], by rw [mleader, if_pos q1]⟩)
  · skip
    refine r_if_eq (tgt := 12) dX4_leader_5 (by decide) (fun _ => ?_) (fun z => absurd z (by decide))
    refine r_iconst (v := 1) dX4_leader_12 (by decide) ?_
    refine r_callVi (nn := 1) (As := [.int 1]) (st := []) dX4_leader_13 (tX4_refused hb st h0 1) gX4_leader_X4_refused rfl (by decide +kernel) ⟨Nat.le_of_ble_eq_true rfl, Nat.le_of_ble_eq_true rfl⟩ ⟨rfl, rfl⟩ (ov_obj hb _ _) rfl rfl (Nat.le_of_ble_eq_true rfl) ⟨Nat.le_of_ble_eq_true rfl, Nat.le_of_ble_eq_true rfl⟩ rfl (fun r hh hp => ?_)
    obtain ⟨hr9, rfl⟩ := hp
    rw [show (if (1 : Int32) = 0 then (0 : Int32) else 1) = 1 from by decide] at hr9
    subst hr9
    refine r_if_eq (tgt := 21) dX4_leader_16 (by decide) (fun z => absurd z (by decide)) (fun _ => ?_)
    refine r_iconst (v := 0) dX4_leader_19 (by decide) ?_
    exact kret _ _ _ _ _ _ (Nat.le_refl _) (Nat.le_refl _) dX4_leader_20 rfl (⟨by rw [mleader, if_neg (by rw [q1]; decide)], by rw [mleader, if_neg (by rw [q1]; decide)]⟩)

