abbrev rmX4_pass : Room := { frames := 4, cells := 0, slots := 0, locals := 92 }
theorem hinX4_pass : ∀ w ∈ u_ws RX4 TX4 29, w ∈ wsX4_pass := by decide +kernel
theorem fwX4_pass_115 : Cond.fieldLink RX4 115 "CastdeskModel" "now" "I" ∈ wsX4_pass := by decide +kernel
set_option maxHeartbeats 4000000 in
set_option maxRecDepth 100000 in
theorem lX4_pass_43 {E : kE} {b : Nat → Nat} (hb : binj b) {st : kM} {h0 : kH} (nF nC nE w : Nat) (hwf : mwf st nF nC nE w) (x : Int32) (o : Nat) (hwo : w + o ≤ 3000) (ho : o ≤ 200) {X : kX} (hx : V E X rmX4_pass cX4_pass 3 wsX4_pass RX4 0 0 (ov E b (passR st nF nC nE w o) h0) [(2, .int (nI o)), (0, .ref (b 29)), (1, .int (nI o))] 58 [])
    : ∀ (d i : Nat), o < i + d → i ≤ o → V E X rmX4_pass cX4_pass 3 wsX4_pass RX4 0 0 (ov E b (passR st nF nC nE w i) h0) [(2, .int (nI i)), (0, .ref (b 29)), (1, .int (nI o))] 43 [] := by
  obtain ⟨hF, hF20, hC, hC6, hE, hE80, hW, hW3, hpl, hof, hon, hsl⟩ := id hwf
  intro d
  induction d with
  | zero =>
    intro i  h1 h2
    exact absurd h1 (by omega)
  | succ d ih =>
    intro i  h1 h2 
    refine r_iload_n dX4_pass_43 0 rfl ?_
    refine r_iload_n dX4_pass_44 2 rfl ?_
    refine rn_icmp_ge (a := i) (c := o) (tgt := 58) dX4_pass_45 (by decide) rfl rfl (by omega) (by omega) (fun c1 => ?_) (fun c1 => ?_)
    · skip
      have hNi : o = i := by omega
      subst hNi
      exact hx
    · skip
      refine r_aload_n dX4_pass_48 1 rfl ?_
      refine r_callVv (nn := 0) (As := []) (st := []) dX4_pass_49 (tX4_passes hb (passR st nF nC nE w i) h0 nF nC nE (w + i) (passR_wf hwf i (by omega)) (by omega)) gX4_pass_X4_passes rfl (by decide +kernel) ⟨Nat.le_of_ble_eq_true rfl, Nat.le_of_ble_eq_true rfl⟩ ⟨rfl, rfl⟩ (ov_obj hb _ _) rfl rfl (Nat.le_of_ble_eq_true rfl) ⟨Nat.le_of_ble_eq_true rfl, Nat.le_of_ble_eq_true rfl⟩ rfl (fun hh hp => ?_)
      subst hp
      rw [show mpasses (passR st nF nC nE w i) nF nC nE (w + i) = passR st nF nC nE w (i + 1) from rfl]
      refine r_iinc (v := nI (i + 1)) (lo' := [(2, .int (nI (i + 1))), (0, .ref (b 29)), (1, .int (nI o))]) dX4_pass_52 0 rfl (nI_1 i) (by decide) rfl ?_
      refine r_goto (tgt := 43) dX4_pass_55 (by decide) ?_
      refine r_lo (lo' := [(2, .int (nI (i + 1))), (0, .ref (b 29)), (1, .int (nI o))]) [0, 1, 2] rfl ?_
      exact ih (i + 1) (by omega) (by omega)

set_option maxHeartbeats 4000000 in
set_option maxRecDepth 100000 in
theorem tX4_pass {E : kE} {b : Nat → Nat} (hb : binj b) (st : kM) (h0 : kH) (nF nC nE w : Nat) (hwf : mwf st nF nC nE w) (x : Int32) : kCi E yX4_pass wsX4_pass rmX4_pass 0 0 [.ref (b 29), .int x] (ov E b st h0) (fun r h' => r = (mpass st nF nC nE w x).1 ∧ h' = ov E b (mpass st nF nC nE w x).2 h0) := by
  obtain ⟨hF, hF20, hC, hC6, hE, hE80, hW, hW3, hpl, hof, hon, hsl⟩ := id hwf
  refine kCi_of (rt := .int) (own := RX4) (cc := cX4_pass) (maxL := 3) (by decide) rfl rfl (Nat.le_of_ble_eq_true rfl) ?_
  intro X _ kret
  refine r_lo (lo' := [(0, .ref (b 29)), (1, .int x)]) [0, 1] rfl ?_
  refine r_aload_n dX4_pass_0 0 rfl ?_
  refine r_iload_n dX4_pass_1 1 rfl ?_
  refine r_iconst (v := 1) dX4_pass_2 (by decide) ?_
  refine r_sipush (v := 200) dX4_pass_3 (by decide) ?_
  refine r_callSi (nn := 3) (As := [.int x, .int 1, .int 200]) (st := [.ref (b 29)]) dX4_pass_6 (tX4_in _ x 1 200) gX4_pass_X4_in rfl (by decide +kernel) ⟨Nat.le_of_ble_eq_true rfl, Nat.le_of_ble_eq_true rfl⟩ ⟨rfl, rfl⟩ rfl (Nat.le_of_ble_eq_true rfl) ⟨Nat.le_of_ble_eq_true rfl, Nat.le_of_ble_eq_true rfl⟩ rfl (fun r hh hp => ?_)
  obtain ⟨⟨q1, rfl⟩ | ⟨q1, rfl⟩, rfl⟩ := hp
  · skip
    obtain ⟨o, ho, rfl⟩ := inr_low (l := 1) (m := 200) (by decide) (by decide) q1
    have eo : (nI o).toNatClampNeg = o := nI_clamp (by omega)
    refine r_if_ne (tgt := 16) dX4_pass_9 (by decide) (fun _ => ?_) (fun z => absurd z (by decide))
    refine r_aload_n dX4_pass_16 0 rfl ?_
    refine m_geti (v := st 1 0) hb hinX4_pass 1 (by decide) rfl dX4_pass_17 fwX4_pass_115 rfl rfl ?_
    refine r_iload_n dX4_pass_20 1 rfl ?_
    refine r_iadd dX4_pass_21 ?_
    refine r_sipush (v := 3000) dX4_pass_22 (by decide) ?_
    refine r_icmp_le (tgt := 32) dX4_pass_25 (by decide) (fun c2 => ?_) (fun c2 => ?_)
    · skip
      refine r_iconst (v := 0) dX4_pass_32 (by decide) ?_
      refine r_callVi (nn := 1) (As := [.int 0]) (st := []) dX4_pass_33 (tX4_refused hb st h0 0) gX4_pass_X4_refused rfl (by decide +kernel) ⟨Nat.le_of_ble_eq_true rfl, Nat.le_of_ble_eq_true rfl⟩ ⟨rfl, rfl⟩ (ov_obj hb _ _) rfl rfl (Nat.le_of_ble_eq_true rfl) ⟨Nat.le_of_ble_eq_true rfl, Nat.le_of_ble_eq_true rfl⟩ rfl (fun r hh hp => ?_)
      obtain ⟨hr9, rfl⟩ := hp
      rw [show (if (0 : Int32) = 0 then (0 : Int32) else 1) = 0 from by decide] at hr9
      subst hr9
      refine r_if_eq (tgt := 41) dX4_pass_36 (by decide) (fun _ => ?_) (fun z => absurd z (by decide))
      refine r_iconst (v := 0) dX4_pass_41 (by decide) ?_
      refine r_istore_n (lo' := [(2, .int 0), (0, .ref (b 29)), (1, .int (nI o))]) dX4_pass_42 (by decide) rfl ?_
      refine r_lo (lo' := [(2, .int 0), (0, .ref (b 29)), (1, .int (nI o))]) [0, 1, 2] rfl ?_
      have hwo : w + o ≤ 3000 := pass_o hW hW3 (by omega) (by assumption)
      refine lX4_pass_43 hb (st := (ms st 0 0)) nF nC nE w hwf (nI o) o hwo (by omega) ?_ (o + 1) 0 (by omega) (Nat.zero_le _)
      refine r_aload_n dX4_pass_58 1 rfl ?_
      refine m_geti (v := (passR (ms st 0 0) nF nC nE w o) 1 0) hb hinX4_pass 1 (by decide) rfl dX4_pass_59 fwX4_pass_115 rfl rfl ?_
      exact kret _ _ _ _ _ _ (Nat.le_refl _) (Nat.le_refl _) dX4_pass_62 rfl (⟨by rw [mpass, if_pos q1] <;> simp [eo, c2] <;> rfl, by rw [mpass, if_pos q1] <;> simp [eo, c2] <;> rfl⟩)
    · skip
      refine r_iconst (v := 2) dX4_pass_28 (by decide) ?_
      refine r_goto (tgt := 33) dX4_pass_29 (by decide) ?_
      refine r_callVi (nn := 1) (As := [.int 2]) (st := []) dX4_pass_33 (tX4_refused hb st h0 2) gX4_pass_X4_refused rfl (by decide +kernel) ⟨Nat.le_of_ble_eq_true rfl, Nat.le_of_ble_eq_true rfl⟩ ⟨rfl, rfl⟩ (ov_obj hb _ _) rfl rfl (Nat.le_of_ble_eq_true rfl) ⟨Nat.le_of_ble_eq_true rfl, Nat.le_of_ble_eq_true rfl⟩ rfl (fun r hh hp => ?_)
      obtain ⟨hr9, rfl⟩ := hp
      rw [show (if (2 : Int32) = 0 then (0 : Int32) else 1) = 1 from by decide] at hr9
      subst hr9
      refine r_if_eq (tgt := 41) dX4_pass_36 (by decide) (fun z => absurd z (by decide)) (fun _ => ?_)
      refine r_iconst (v := 0) dX4_pass_39 (by decide) ?_
      exact kret _ _ _ _ _ _ (Nat.le_refl _) (Nat.le_refl _) dX4_pass_40 rfl (⟨by rw [mpass, if_pos q1] <;> simp [eo, c2] <;> rfl, by rw [mpass, if_pos q1] <;> simp [eo, c2] <;> rfl⟩)
  · skip
    refine r_if_ne (tgt := 16) dX4_pass_9 (by decide) (fun z => absurd z (by decide)) (fun _ => ?_)
    refine r_iconst (v := 1) dX4_pass_12 (by decide) ?_
    refine r_goto (tgt := 33) dX4_pass_13 (by decide) ?_
    refine r_callVi (nn := 1) (As := [.int 1]) (st := []) dX4_pass_33 (tX4_refused hb st h0 1) gX4_pass_X4_refused rfl (by decide +kernel) ⟨Nat.le_of_ble_eq_true rfl, Nat.le_of_ble_eq_true rfl⟩ ⟨rfl, rfl⟩ (ov_obj hb _ _) rfl rfl (Nat.le_of_ble_eq_true rfl) ⟨Nat.le_of_ble_eq_true rfl, Nat.le_of_ble_eq_true rfl⟩ rfl (fun r hh hp => ?_)
    obtain ⟨hr9, rfl⟩ := hp
    rw [show (if (1 : Int32) = 0 then (0 : Int32) else 1) = 1 from by decide] at hr9
    subst hr9
    refine r_if_eq (tgt := 41) dX4_pass_36 (by decide) (fun z => absurd z (by decide)) (fun _ => ?_)
    refine r_iconst (v := 0) dX4_pass_39 (by decide) ?_
    exact kret _ _ _ _ _ _ (Nat.le_refl _) (Nat.le_refl _) dX4_pass_40 rfl (⟨by rw [mpass, if_neg (by rw [q1]; decide)], by rw [mpass, if_neg (by rw [q1]; decide)]⟩)

abbrev rmX4_blow : Room := { frames := 2, cells := 0, slots := 0, locals := 43 }
theorem hinX4_blow : ∀ w ∈ u_ws RX4 TX4 29, w ∈ wsX4_blow := by decide +kernel
theorem fwX4_blow_20 : Cond.fieldLink RX4 20 "CastdeskModel" "state" "[I" ∈ wsX4_blow := by decide +kernel
theorem fwX4_blow_23 : Cond.fieldLink RX4 23 "CastdeskModel" "first" "[I" ∈ wsX4_blow := by decide +kernel
theorem fwX4_blow_26 : Cond.fieldLink RX4 26 "CastdeskModel" "second" "[I" ∈ wsX4_blow := by decide +kernel
theorem fwX4_blow_59 : Cond.fieldLink RX4 59 "CastdeskModel" "of" "[I" ∈ wsX4_blow := by decide +kernel
theorem fwX4_blow_62 : Cond.fieldLink RX4 62 "CastdeskModel" "by" "[I" ∈ wsX4_blow := by decide +kernel
theorem fwX4_blow_65 : Cond.fieldLink RX4 65 "CastdeskModel" "points" "[I" ∈ wsX4_blow := by decide +kernel
theorem fwX4_blow_68 : Cond.fieldLink RX4 68 "CastdeskModel" "at" "[I" ∈ wsX4_blow := by decide +kernel
theorem fwX4_blow_112 : Cond.fieldLink RX4 112 "CastdeskModel" "entries" "I" ∈ wsX4_blow := by decide +kernel
theorem fwX4_blow_115 : Cond.fieldLink RX4 115 "CastdeskModel" "now" "I" ∈ wsX4_blow := by decide +kernel
set_option maxHeartbeats 4000000 in
set_option maxRecDepth 100000 in
theorem tX4_blow {E : kE} {b : Nat → Nat} (hb : binj b) (st : kM) (h0 : kH) (nF nC nE w : Nat) (hwf : mwf st nF nC nE w) (x y z : Int32) : kCi E yX4_blow wsX4_blow rmX4_blow 0 0 [.ref (b 29), .int x, .int y, .int z] (ov E b st h0) (fun r h' => r = (mblow st nE x y z).1 ∧ h' = ov E b (mblow st nE x y z).2 h0) := by
  obtain ⟨hF, hF20, hC, hC6, hE, hE80, hW, hW3, hpl, hof, hon, hsl⟩ := id hwf
  refine kCi_of (rt := .int) (own := RX4) (cc := cX4_blow) (maxL := 6) (by decide) rfl rfl (Nat.le_of_ble_eq_true rfl) ?_
  intro X _ kret
  refine r_lo (lo' := [(0, .ref (b 29)), (1, .int x), (2, .int y), (3, .int z)]) [0, 1, 2, 3] rfl ?_
  refine r_aload_n dX4_blow_0 0 rfl ?_
  refine r_iload_n dX4_blow_1 1 rfl ?_
  refine r_callVi (nn := 1) (As := [.int x]) (st := []) dX4_blow_2 (tX4_isFight hb st h0 x) gX4_blow_X4_isFight rfl (by decide +kernel) ⟨Nat.le_of_ble_eq_true rfl, Nat.le_of_ble_eq_true rfl⟩ ⟨rfl, rfl⟩ (ov_obj hb _ _) rfl rfl (Nat.le_of_ble_eq_true rfl) ⟨Nat.le_of_ble_eq_true rfl, Nat.le_of_ble_eq_true rfl⟩ rfl (fun r hh hp => ?_)
  obtain ⟨⟨q1, rfl⟩ | ⟨q1, rfl⟩, rfl⟩ := hp
  · skip
    obtain ⟨o, ho, rfl⟩ := inr_pred (m := nF) (by omega) (by rw [← hF]; exact q1)
    have eo : (nI o).toNatClampNeg = o := nI_clamp (by omega)
    refine r_if_eq (tgt := 19) dX4_blow_5 (by decide) (fun z => absurd z (by decide)) (fun _ => ?_)
    refine r_iload_n dX4_blow_8 2 rfl ?_
    refine r_callSi (nn := 1) (As := [.int y]) (st := []) dX4_blow_9 (tX4_isPlayer _ y) gX4_blow_X4_isPlayer rfl (by decide +kernel) ⟨Nat.le_of_ble_eq_true rfl, Nat.le_of_ble_eq_true rfl⟩ ⟨rfl, rfl⟩ rfl (Nat.le_of_ble_eq_true rfl) ⟨Nat.le_of_ble_eq_true rfl, Nat.le_of_ble_eq_true rfl⟩ rfl (fun r hh hp => ?_)
    obtain ⟨⟨q2, rfl⟩ | ⟨q2, rfl⟩, rfl⟩ := hp
    · skip
      refine r_if_eq (tgt := 19) dX4_blow_12 (by decide) (fun z => absurd z (by decide)) (fun _ => ?_)
      refine r_iconst (v := 1) dX4_blow_15 (by decide) ?_
      refine r_goto (tgt := 20) dX4_blow_16 (by decide) ?_
      refine r_istore (lo' := [(4, .int 1), (0, .ref (b 29)), (1, .int (nI o)), (2, .int y), (3, .int z)]) dX4_blow_20 (by decide) rfl ?_
      refine r_iload dX4_blow_22 0 rfl ?_
      refine r_if_eq (tgt := 61) dX4_blow_24 (by decide) (fun z => absurd z (by decide)) (fun _ => ?_)
      refine r_iload_n dX4_blow_27 4 rfl ?_
      refine r_iconst (v := 1) dX4_blow_28 (by decide) ?_
      refine r_bipush (v := 9) dX4_blow_29 (by decide) ?_
      refine r_callSi (nn := 3) (As := [.int z, .int 1, .int 9]) (st := []) dX4_blow_31 (tX4_in _ z 1 9) gX4_blow_X4_in rfl (by decide +kernel) ⟨Nat.le_of_ble_eq_true rfl, Nat.le_of_ble_eq_true rfl⟩ ⟨rfl, rfl⟩ rfl (Nat.le_of_ble_eq_true rfl) ⟨Nat.le_of_ble_eq_true rfl, Nat.le_of_ble_eq_true rfl⟩ rfl (fun r hh hp => ?_)
      obtain ⟨⟨q3, rfl⟩ | ⟨q3, rfl⟩, rfl⟩ := hp
      · skip
        refine r_if_eq (tgt := 61) dX4_blow_34 (by decide) (fun z => absurd z (by decide)) (fun _ => ?_)
        refine r_aload_n dX4_blow_37 1 rfl ?_
        refine m_geta hb hinX4_blow 7 (by decide) rfl dX4_blow_38 fwX4_blow_23 rfl ?_
        refine r_iload_n dX4_blow_41 2 rfl ?_
        refine m_ald (v := st 7 o) hb 7 o (by decide) dX4_blow_42 rfl (by show _ < 20; omega) (by decide) rfl ?_
        refine r_iload_n dX4_blow_43 3 rfl ?_
        refine r_icmp_eq (tgt := 57) dX4_blow_44 (by decide) (fun c4 => ?_) (fun c4 => ?_)
        · skip
          refine r_iconst (v := 1) dX4_blow_57 (by decide) ?_
          refine r_goto (tgt := 62) dX4_blow_58 (by decide) ?_
          refine r_istore (lo' := [(5, .int 1), (4, .int 1), (0, .ref (b 29)), (1, .int (nI o)), (2, .int y), (3, .int z)]) dX4_blow_62 (by decide) rfl ?_
          refine r_aload_n dX4_blow_64 2 rfl ?_
          refine r_iload dX4_blow_65 1 rfl ?_
          refine r_if_ne (tgt := 74) dX4_blow_67 (by decide) (fun _ => ?_) (fun z => absurd z (by decide))
          refine r_iload dX4_blow_74 0 rfl ?_
          refine r_if_ne (tgt := 83) dX4_blow_76 (by decide) (fun _ => ?_) (fun z => absurd z (by decide))
          refine r_aload_n dX4_blow_83 2 rfl ?_
          refine m_geta hb hinX4_blow 6 (by decide) rfl dX4_blow_84 fwX4_blow_20 rfl ?_
          refine r_iload_n dX4_blow_87 3 rfl ?_
          refine m_ald (v := st 6 o) hb 6 o (by decide) dX4_blow_88 rfl (by show _ < 20; omega) (by decide) rfl ?_
          refine r_if_ne (tgt := 101) dX4_blow_89 (by decide) (fun c5 => ?_) (fun c5 => ?_)
          · skip
            refine r_iconst (v := 3) dX4_blow_101 (by decide) ?_
            refine r_goto (tgt := 106) dX4_blow_102 (by decide) ?_
            refine r_callVi (nn := 1) (As := [.int 3]) (st := []) dX4_blow_106 (tX4_refused hb st h0 3) gX4_blow_X4_refused rfl (by decide +kernel) ⟨Nat.le_of_ble_eq_true rfl, Nat.le_of_ble_eq_true rfl⟩ ⟨rfl, rfl⟩ (ov_obj hb _ _) rfl rfl (Nat.le_of_ble_eq_true rfl) ⟨Nat.le_of_ble_eq_true rfl, Nat.le_of_ble_eq_true rfl⟩ rfl (fun r hh hp => ?_)
            obtain ⟨hr9, rfl⟩ := hp
            rw [show (if (3 : Int32) = 0 then (0 : Int32) else 1) = 1 from by decide] at hr9
            subst hr9
            refine r_if_eq (tgt := 114) dX4_blow_109 (by decide) (fun z => absurd z (by decide)) (fun _ => ?_)
            refine r_iconst (v := 0) dX4_blow_112 (by decide) ?_
            exact kret _ _ _ _ _ _ (Nat.le_refl _) (Nat.le_refl _) dX4_blow_113 rfl (⟨by simp [mblow, q1, eo, q2, q3, c4, c5] <;> rfl, by simp [mblow, q1, eo, q2, q3, c4, c5] <;> rfl⟩)
          · skip
            refine r_aload_n dX4_blow_92 2 rfl ?_
            refine m_geti (v := st 20 0) hb hinX4_blow 20 (by decide) rfl dX4_blow_93 fwX4_blow_112 rfl rfl ?_
            refine r_bipush (v := 80) dX4_blow_96 (by decide) ?_
            refine r_icmp_ne (tgt := 105) dX4_blow_98 (by decide) (fun c6 => ?_) (fun c6 => ?_)
            · skip
              refine r_iconst (v := 0) dX4_blow_105 (by decide) ?_
              refine r_callVi (nn := 1) (As := [.int 0]) (st := []) dX4_blow_106 (tX4_refused hb st h0 0) gX4_blow_X4_refused rfl (by decide +kernel) ⟨Nat.le_of_ble_eq_true rfl, Nat.le_of_ble_eq_true rfl⟩ ⟨rfl, rfl⟩ (ov_obj hb _ _) rfl rfl (Nat.le_of_ble_eq_true rfl) ⟨Nat.le_of_ble_eq_true rfl, Nat.le_of_ble_eq_true rfl⟩ rfl (fun r hh hp => ?_)
              obtain ⟨hr9, rfl⟩ := hp
              rw [show (if (0 : Int32) = 0 then (0 : Int32) else 1) = 0 from by decide] at hr9
              subst hr9
              refine r_if_eq (tgt := 114) dX4_blow_109 (by decide) (fun _ => ?_) (fun z => absurd z (by decide))
              refine r_aload_n dX4_blow_114 2 rfl ?_
              refine m_geta hb hinX4_blow 21 (by decide) rfl dX4_blow_115 fwX4_blow_59 rfl ?_
              refine r_aload_n dX4_blow_118 2 rfl ?_
              have hE7 : nE < 80 := n80 hE80 (by rw [← hE]; assumption)
              refine m_geti (v := nI nE) hb hinX4_blow 20 (by decide) rfl dX4_blow_119 fwX4_blow_112 rfl hE ?_
              refine r_iload_n dX4_blow_122 3 rfl ?_
              refine m_ast hb 21 nE (by decide) dX4_blow_123 rfl (by show _ < 80; omega) (by decide) ?_
              refine r_aload_n dX4_blow_124 2 rfl ?_
              refine m_geta hb hinX4_blow 22 (by decide) rfl dX4_blow_125 fwX4_blow_62 rfl ?_
              refine r_aload_n dX4_blow_128 2 rfl ?_
              refine m_geti (v := nI nE) hb hinX4_blow 20 (by decide) rfl dX4_blow_129 fwX4_blow_112 rfl hE ?_
              refine r_iload_n dX4_blow_132 4 rfl ?_
              refine m_ast hb 22 nE (by decide) dX4_blow_133 rfl (by show _ < 80; omega) (by decide) ?_
              refine r_aload_n dX4_blow_134 2 rfl ?_
              refine m_geta hb hinX4_blow 23 (by decide) rfl dX4_blow_135 fwX4_blow_65 rfl ?_
              refine r_aload_n dX4_blow_138 2 rfl ?_
              refine m_geti (v := nI nE) hb hinX4_blow 20 (by decide) rfl dX4_blow_139 fwX4_blow_112 rfl hE ?_
              refine r_iload_n dX4_blow_142 5 rfl ?_
              refine m_ast hb 23 nE (by decide) dX4_blow_143 rfl (by show _ < 80; omega) (by decide) ?_
              refine r_aload_n dX4_blow_144 2 rfl ?_
              refine m_geta hb hinX4_blow 24 (by decide) rfl dX4_blow_145 fwX4_blow_68 rfl ?_
              refine r_aload_n dX4_blow_148 2 rfl ?_
              refine m_geti (v := nI nE) hb hinX4_blow 20 (by decide) rfl dX4_blow_149 fwX4_blow_112 rfl hE ?_
              refine r_aload_n dX4_blow_152 2 rfl ?_
              refine m_geti (v := st 1 0) hb hinX4_blow 1 (by decide) rfl dX4_blow_153 fwX4_blow_115 rfl rfl ?_
              refine m_ast hb 24 nE (by decide) dX4_blow_156 rfl (by show _ < 80; omega) (by decide) ?_
              refine r_aload_n dX4_blow_157 2 rfl ?_
              refine r_dup dX4_blow_158 rfl ?_
              refine m_geti (v := nI nE) hb hinX4_blow 20 (by decide) rfl dX4_blow_159 fwX4_blow_112 rfl hE ?_
              refine r_iconst (v := 1) dX4_blow_162 (by decide) ?_
              refine r_iadd dX4_blow_163 ?_
              rw [show (nI nE) + 1 = nI (nE + 1) from nI_add nE 1]
              refine m_puti hb hinX4_blow 20 (by decide) rfl dX4_blow_164 fwX4_blow_112 rfl rfl rfl ?_
              refine r_aload_n dX4_blow_167 2 rfl ?_
              refine m_geti (v := nI (nE + 1)) hb hinX4_blow 20 (by decide) rfl dX4_blow_168 fwX4_blow_112 rfl rfl ?_
              refine r_iconst (v := 1) dX4_blow_171 (by decide) ?_
              refine r_isub dX4_blow_172 ?_
              rw [show (nI (nE + 1)) - 1 = nI nE from nI_pred nE]
              exact kret _ _ _ _ _ _ (Nat.le_refl _) (Nat.le_refl _) dX4_blow_173 rfl (⟨by simp [mblow, q1, eo, q2, q3, c4, c5, c6] <;> rfl, by simp [mblow, q1, eo, q2, q3, c4, c5, c6] <;> rfl⟩)
            · skip
              refine r_iconst (v := 3) dX4_blow_101 (by decide) ?_
              refine r_goto (tgt := 106) dX4_blow_102 (by decide) ?_
              refine r_callVi (nn := 1) (As := [.int 3]) (st := []) dX4_blow_106 (tX4_refused hb st h0 3) gX4_blow_X4_refused rfl (by decide +kernel) ⟨Nat.le_of_ble_eq_true rfl, Nat.le_of_ble_eq_true rfl⟩ ⟨rfl, rfl⟩ (ov_obj hb _ _) rfl rfl (Nat.le_of_ble_eq_true rfl) ⟨Nat.le_of_ble_eq_true rfl, Nat.le_of_ble_eq_true rfl⟩ rfl (fun r hh hp => ?_)
              obtain ⟨hr9, rfl⟩ := hp
              rw [show (if (3 : Int32) = 0 then (0 : Int32) else 1) = 1 from by decide] at hr9
              subst hr9
              refine r_if_eq (tgt := 114) dX4_blow_109 (by decide) (fun z => absurd z (by decide)) (fun _ => ?_)
              refine r_iconst (v := 0) dX4_blow_112 (by decide) ?_
              exact kret _ _ _ _ _ _ (Nat.le_refl _) (Nat.le_refl _) dX4_blow_113 rfl (⟨by simp [mblow, q1, eo, q2, q3, c4, c5, c6] <;> rfl, by simp [mblow, q1, eo, q2, q3, c4, c5, c6] <;> rfl⟩)
        · skip
          refine r_aload_n dX4_blow_47 1 rfl ?_
          refine m_geta hb hinX4_blow 8 (by decide) rfl dX4_blow_48 fwX4_blow_26 rfl ?_
          refine r_iload_n dX4_blow_51 2 rfl ?_
          refine m_ald (v := st 8 o) hb 8 o (by decide) dX4_blow_52 rfl (by show _ < 20; omega) (by decide) rfl ?_
          refine r_iload_n dX4_blow_53 3 rfl ?_
          refine r_icmp_ne (tgt := 61) dX4_blow_54 (by decide) (fun c7 => ?_) (fun c7 => ?_)
          · skip
            refine r_iconst (v := 0) dX4_blow_61 (by decide) ?_
            refine r_istore (lo' := [(5, .int 0), (4, .int 1), (0, .ref (b 29)), (1, .int (nI o)), (2, .int y), (3, .int z)]) dX4_blow_62 (by decide) rfl ?_
            refine r_aload_n dX4_blow_64 2 rfl ?_
            refine r_iload dX4_blow_65 1 rfl ?_
            refine r_if_ne (tgt := 74) dX4_blow_67 (by decide) (fun _ => ?_) (fun z => absurd z (by decide))
            refine r_iload dX4_blow_74 0 rfl ?_
            refine r_if_ne (tgt := 83) dX4_blow_76 (by decide) (fun z => absurd z (by decide)) (fun _ => ?_)
            refine r_iconst (v := 2) dX4_blow_79 (by decide) ?_
            refine r_goto (tgt := 106) dX4_blow_80 (by decide) ?_
            refine r_callVi (nn := 1) (As := [.int 2]) (st := []) dX4_blow_106 (tX4_refused hb st h0 2) gX4_blow_X4_refused rfl (by decide +kernel) ⟨Nat.le_of_ble_eq_true rfl, Nat.le_of_ble_eq_true rfl⟩ ⟨rfl, rfl⟩ (ov_obj hb _ _) rfl rfl (Nat.le_of_ble_eq_true rfl) ⟨Nat.le_of_ble_eq_true rfl, Nat.le_of_ble_eq_true rfl⟩ rfl (fun r hh hp => ?_)
            obtain ⟨hr9, rfl⟩ := hp
            rw [show (if (2 : Int32) = 0 then (0 : Int32) else 1) = 1 from by decide] at hr9
            subst hr9
            refine r_if_eq (tgt := 114) dX4_blow_109 (by decide) (fun z => absurd z (by decide)) (fun _ => ?_)
            refine r_iconst (v := 0) dX4_blow_112 (by decide) ?_
            exact kret _ _ _ _ _ _ (Nat.le_refl _) (Nat.le_refl _) dX4_blow_113 rfl (⟨by simp [mblow, q1, eo, q2, q3, c4, c7] <;> rfl, by simp [mblow, q1, eo, q2, q3, c4, c7] <;> rfl⟩)
          · skip
            refine r_iconst (v := 1) dX4_blow_57 (by decide) ?_
            refine r_goto (tgt := 62) dX4_blow_58 (by decide) ?_
            refine r_istore (lo' := [(5, .int 1), (4, .int 1), (0, .ref (b 29)), (1, .int (nI o)), (2, .int y), (3, .int z)]) dX4_blow_62 (by decide) rfl ?_
            refine r_aload_n dX4_blow_64 2 rfl ?_
            refine r_iload dX4_blow_65 1 rfl ?_
            refine r_if_ne (tgt := 74) dX4_blow_67 (by decide) (fun _ => ?_) (fun z => absurd z (by decide))
            refine r_iload dX4_blow_74 0 rfl ?_
            refine r_if_ne (tgt := 83) dX4_blow_76 (by decide) (fun _ => ?_) (fun z => absurd z (by decide))
            refine r_aload_n dX4_blow_83 2 rfl ?_
            refine m_geta hb hinX4_blow 6 (by decide) rfl dX4_blow_84 fwX4_blow_20 rfl ?_
            refine r_iload_n dX4_blow_87 3 rfl ?_
            refine m_ald (v := st 6 o) hb 6 o (by decide) dX4_blow_88 rfl (by show _ < 20; omega) (by decide) rfl ?_
            refine r_if_ne (tgt := 101) dX4_blow_89 (by decide) (fun c8 => ?_) (fun c8 => ?_)
            · skip
              refine r_iconst (v := 3) dX4_blow_101 (by decide) ?_
              refine r_goto (tgt := 106) dX4_blow_102 (by decide) ?_
              refine r_callVi (nn := 1) (As := [.int 3]) (st := []) dX4_blow_106 (tX4_refused hb st h0 3) gX4_blow_X4_refused rfl (by decide +kernel) ⟨Nat.le_of_ble_eq_true rfl, Nat.le_of_ble_eq_true rfl⟩ ⟨rfl, rfl⟩ (ov_obj hb _ _) rfl rfl (Nat.le_of_ble_eq_true rfl) ⟨Nat.le_of_ble_eq_true rfl, Nat.le_of_ble_eq_true rfl⟩ rfl (fun r hh hp => ?_)
              obtain ⟨hr9, rfl⟩ := hp
              rw [show (if (3 : Int32) = 0 then (0 : Int32) else 1) = 1 from by decide] at hr9
              subst hr9
              refine r_if_eq (tgt := 114) dX4_blow_109 (by decide) (fun z => absurd z (by decide)) (fun _ => ?_)
              refine r_iconst (v := 0) dX4_blow_112 (by decide) ?_
              exact kret _ _ _ _ _ _ (Nat.le_refl _) (Nat.le_refl _) dX4_blow_113 rfl (⟨by simp [mblow, q1, eo, q2, q3, c4, c7, c8] <;> rfl, by simp [mblow, q1, eo, q2, q3, c4, c7, c8] <;> rfl⟩)
            · skip
              refine r_aload_n dX4_blow_92 2 rfl ?_
              refine m_geti (v := st 20 0) hb hinX4_blow 20 (by decide) rfl dX4_blow_93 fwX4_blow_112 rfl rfl ?_
              refine r_bipush (v := 80) dX4_blow_96 (by decide) ?_
              refine r_icmp_ne (tgt := 105) dX4_blow_98 (by decide) (fun c9 => ?_) (fun c9 => ?_)
              · skip
                refine r_iconst (v := 0) dX4_blow_105 (by decide) ?_
                refine r_callVi (nn := 1) (As := [.int 0]) (st := []) dX4_blow_106 (tX4_refused hb st h0 0) gX4_blow_X4_refused rfl (by decide +kernel) ⟨Nat.le_of_ble_eq_true rfl, Nat.le_of_ble_eq_true rfl⟩ ⟨rfl, rfl⟩ (ov_obj hb _ _) rfl rfl (Nat.le_of_ble_eq_true rfl) ⟨Nat.le_of_ble_eq_true rfl, Nat.le_of_ble_eq_true rfl⟩ rfl (fun r hh hp => ?_)
                obtain ⟨hr9, rfl⟩ := hp
                rw [show (if (0 : Int32) = 0 then (0 : Int32) else 1) = 0 from by decide] at hr9
                subst hr9
                refine r_if_eq (tgt := 114) dX4_blow_109 (by decide) (fun _ => ?_) (fun z => absurd z (by decide))
                refine r_aload_n dX4_blow_114 2 rfl ?_
                refine m_geta hb hinX4_blow 21 (by decide) rfl dX4_blow_115 fwX4_blow_59 rfl ?_
                refine r_aload_n dX4_blow_118 2 rfl ?_
                have hE7 : nE < 80 := n80 hE80 (by rw [← hE]; assumption)
                refine m_geti (v := nI nE) hb hinX4_blow 20 (by decide) rfl dX4_blow_119 fwX4_blow_112 rfl hE ?_
                refine r_iload_n dX4_blow_122 3 rfl ?_
                refine m_ast hb 21 nE (by decide) dX4_blow_123 rfl (by show _ < 80; omega) (by decide) ?_
                refine r_aload_n dX4_blow_124 2 rfl ?_
                refine m_geta hb hinX4_blow 22 (by decide) rfl dX4_blow_125 fwX4_blow_62 rfl ?_
                refine r_aload_n dX4_blow_128 2 rfl ?_
                refine m_geti (v := nI nE) hb hinX4_blow 20 (by decide) rfl dX4_blow_129 fwX4_blow_112 rfl hE ?_
                refine r_iload_n dX4_blow_132 4 rfl ?_
                refine m_ast hb 22 nE (by decide) dX4_blow_133 rfl (by show _ < 80; omega) (by decide) ?_
                refine r_aload_n dX4_blow_134 2 rfl ?_
                refine m_geta hb hinX4_blow 23 (by decide) rfl dX4_blow_135 fwX4_blow_65 rfl ?_
                refine r_aload_n dX4_blow_138 2 rfl ?_
                refine m_geti (v := nI nE) hb hinX4_blow 20 (by decide) rfl dX4_blow_139 fwX4_blow_112 rfl hE ?_
                refine r_iload_n dX4_blow_142 5 rfl ?_
                refine m_ast hb 23 nE (by decide) dX4_blow_143 rfl (by show _ < 80; omega) (by decide) ?_
                refine r_aload_n dX4_blow_144 2 rfl ?_
                refine m_geta hb hinX4_blow 24 (by decide) rfl dX4_blow_145 fwX4_blow_68 rfl ?_
                refine r_aload_n dX4_blow_148 2 rfl ?_
                refine m_geti (v := nI nE) hb hinX4_blow 20 (by decide) rfl dX4_blow_149 fwX4_blow_112 rfl hE ?_
                refine r_aload_n dX4_blow_152 2 rfl ?_
                refine m_geti (v := st 1 0) hb hinX4_blow 1 (by decide) rfl dX4_blow_153 fwX4_blow_115 rfl rfl ?_
                refine m_ast hb 24 nE (by decide) dX4_blow_156 rfl (by show _ < 80; omega) (by decide) ?_
                refine r_aload_n dX4_blow_157 2 rfl ?_
                refine r_dup dX4_blow_158 rfl ?_
                refine m_geti (v := nI nE) hb hinX4_blow 20 (by decide) rfl dX4_blow_159 fwX4_blow_112 rfl hE ?_
                refine r_iconst (v := 1) dX4_blow_162 (by decide) ?_
                refine r_iadd dX4_blow_163 ?_
                rw [show (nI nE) + 1 = nI (nE + 1) from nI_add nE 1]
                refine m_puti hb hinX4_blow 20 (by decide) rfl dX4_blow_164 fwX4_blow_112 rfl rfl rfl ?_
                refine r_aload_n dX4_blow_167 2 rfl ?_
                refine m_geti (v := nI (nE + 1)) hb hinX4_blow 20 (by decide) rfl dX4_blow_168 fwX4_blow_112 rfl rfl ?_
                refine r_iconst (v := 1) dX4_blow_171 (by decide) ?_
                refine r_isub dX4_blow_172 ?_
                rw [show (nI (nE + 1)) - 1 = nI nE from nI_pred nE]
                exact kret _ _ _ _ _ _ (Nat.le_refl _) (Nat.le_refl _) dX4_blow_173 rfl (⟨by simp [mblow, q1, eo, q2, q3, c4, c7, c8, c9] <;> rfl, by simp [mblow, q1, eo, q2, q3, c4, c7, c8, c9] <;> rfl⟩)
              · skip
                refine r_iconst (v := 3) dX4_blow_101 (by decide) ?_
                refine r_goto (tgt := 106) dX4_blow_102 (by decide) ?_
                refine r_callVi (nn := 1) (As := [.int 3]) (st := []) dX4_blow_106 (tX4_refused hb st h0 3) gX4_blow_X4_refused rfl (by decide +kernel) ⟨Nat.le_of_ble_eq_true rfl, Nat.le_of_ble_eq_true rfl⟩ ⟨rfl, rfl⟩ (ov_obj hb _ _) rfl rfl (Nat.le_of_ble_eq_true rfl) ⟨Nat.le_of_ble_eq_true rfl, Nat.le_of_ble_eq_true rfl⟩ rfl (fun r hh hp => ?_)
                obtain ⟨hr9, rfl⟩ := hp
                rw [show (if (3 : Int32) = 0 then (0 : Int32) else 1) = 1 from by decide] at hr9
                subst hr9
                refine r_if_eq (tgt := 114) dX4_blow_109 (by decide) (fun z => absurd z (by decide)) (fun _ => ?_)
                refine r_iconst (v := 0) dX4_blow_112 (by decide) ?_
                exact kret _ _ _ _ _ _ (Nat.le_refl _) (Nat.le_refl _) dX4_blow_113 rfl (⟨by simp [mblow, q1, eo, q2, q3, c4, c7, c8, c9] <;> rfl, by simp [mblow, q1, eo, q2, q3, c4, c7, c8, c9] <;> rfl⟩)
      · skip
        refine r_if_eq (tgt := 61) dX4_blow_34 (by decide) (fun _ => ?_) (fun z => absurd z (by decide))
        refine r_iconst (v := 0) dX4_blow_61 (by decide) ?_
        refine r_istore (lo' := [(5, .int 0), (4, .int 1), (0, .ref (b 29)), (1, .int (nI o)), (2, .int y), (3, .int z)]) dX4_blow_62 (by decide) rfl ?_
        refine r_aload_n dX4_blow_64 2 rfl ?_
        refine r_iload dX4_blow_65 1 rfl ?_
        refine r_if_ne (tgt := 74) dX4_blow_67 (by decide) (fun _ => ?_) (fun z => absurd z (by decide))
        refine r_iload dX4_blow_74 0 rfl ?_
        refine r_if_ne (tgt := 83) dX4_blow_76 (by decide) (fun z => absurd z (by decide)) (fun _ => ?_)
        refine r_iconst (v := 2) dX4_blow_79 (by decide) ?_
        refine r_goto (tgt := 106) dX4_blow_80 (by decide) ?_
        refine r_callVi (nn := 1) (As := [.int 2]) (st := []) dX4_blow_106 (tX4_refused hb st h0 2) gX4_blow_X4_refused rfl (by decide +kernel) ⟨Nat.le_of_ble_eq_true rfl, Nat.le_of_ble_eq_true rfl⟩ ⟨rfl, rfl⟩ (ov_obj hb _ _) rfl rfl (Nat.le_of_ble_eq_true rfl) ⟨Nat.le_of_ble_eq_true rfl, Nat.le_of_ble_eq_true rfl⟩ rfl (fun r hh hp => ?_)
        obtain ⟨hr9, rfl⟩ := hp
        rw [show (if (2 : Int32) = 0 then (0 : Int32) else 1) = 1 from by decide] at hr9
        subst hr9
        refine r_if_eq (tgt := 114) dX4_blow_109 (by decide) (fun z => absurd z (by decide)) (fun _ => ?_)
        refine r_iconst (v := 0) dX4_blow_112 (by decide) ?_
        exact kret _ _ _ _ _ _ (Nat.le_refl _) (Nat.le_refl _) dX4_blow_113 rfl (⟨by simp [mblow, q1, eo, q2, q3] <;> rfl, by simp [mblow, q1, eo, q2, q3] <;> rfl⟩)
    · skip
      refine r_if_eq (tgt := 19) dX4_blow_12 (by decide) (fun _ => ?_) (fun z => absurd z (by decide))
      refine r_iconst (v := 0) dX4_blow_19 (by decide) ?_
      refine r_istore (lo' := [(4, .int 0), (0, .ref (b 29)), (1, .int (nI o)), (2, .int y), (3, .int z)]) dX4_blow_20 (by decide) rfl ?_
      refine r_iload dX4_blow_22 0 rfl ?_
      refine r_if_eq (tgt := 61) dX4_blow_24 (by decide) (fun _ => ?_) (fun z => absurd z (by decide))
      refine r_iconst (v := 0) dX4_blow_61 (by decide) ?_
      refine r_istore (lo' := [(5, .int 0), (4, .int 0), (0, .ref (b 29)), (1, .int (nI o)), (2, .int y), (3, .int z)]) dX4_blow_62 (by decide) rfl ?_
      refine r_aload_n dX4_blow_64 2 rfl ?_
      refine r_iload dX4_blow_65 1 rfl ?_
      refine r_if_ne (tgt := 74) dX4_blow_67 (by decide) (fun z => absurd z (by decide)) (fun _ => ?_)
      refine r_iconst (v := 1) dX4_blow_70 (by decide) ?_
      refine r_goto (tgt := 106) dX4_blow_71 (by decide) ?_
      refine r_callVi (nn := 1) (As := [.int 1]) (st := []) dX4_blow_106 (tX4_refused hb st h0 1) gX4_blow_X4_refused rfl (by decide +kernel) ⟨Nat.le_of_ble_eq_true rfl, Nat.le_of_ble_eq_true rfl⟩ ⟨rfl, rfl⟩ (ov_obj hb _ _) rfl rfl (Nat.le_of_ble_eq_true rfl) ⟨Nat.le_of_ble_eq_true rfl, Nat.le_of_ble_eq_true rfl⟩ rfl (fun r hh hp => ?_)
      obtain ⟨hr9, rfl⟩ := hp
      rw [show (if (1 : Int32) = 0 then (0 : Int32) else 1) = 1 from by decide] at hr9
      subst hr9
      refine r_if_eq (tgt := 114) dX4_blow_109 (by decide) (fun z => absurd z (by decide)) (fun _ => ?_)
      refine r_iconst (v := 0) dX4_blow_112 (by decide) ?_
      exact kret _ _ _ _ _ _ (Nat.le_refl _) (Nat.le_refl _) dX4_blow_113 rfl (⟨by simp [mblow, q1, eo, q2] <;> rfl, by simp [mblow, q1, eo, q2] <;> rfl⟩)
  · skip
    refine r_if_eq (tgt := 19) dX4_blow_5 (by decide) (fun _ => ?_) (fun z => absurd z (by decide))
    refine r_iconst (v := 0) dX4_blow_19 (by decide) ?_
    refine r_istore (lo' := [(4, .int 0), (0, .ref (b 29)), (1, .int x), (2, .int y), (3, .int z)]) dX4_blow_20 (by decide) rfl ?_
    refine r_iload dX4_blow_22 0 rfl ?_
    refine r_if_eq (tgt := 61) dX4_blow_24 (by decide) (fun _ => ?_) (fun z => absurd z (by decide))
    refine r_iconst (v := 0) dX4_blow_61 (by decide) ?_
    refine r_istore (lo' := [(5, .int 0), (4, .int 0), (0, .ref (b 29)), (1, .int x), (2, .int y), (3, .int z)]) dX4_blow_62 (by decide) rfl ?_
    refine r_aload_n dX4_blow_64 2 rfl ?_
    refine r_iload dX4_blow_65 1 rfl ?_
    refine r_if_ne (tgt := 74) dX4_blow_67 (by decide) (fun z => absurd z (by decide)) (fun _ => ?_)
    refine r_iconst (v := 1) dX4_blow_70 (by decide) ?_
    refine r_goto (tgt := 106) dX4_blow_71 (by decide) ?_
    refine r_callVi (nn := 1) (As := [.int 1]) (st := []) dX4_blow_106 (tX4_refused hb st h0 1) gX4_blow_X4_refused rfl (by decide +kernel) ⟨Nat.le_of_ble_eq_true rfl, Nat.le_of_ble_eq_true rfl⟩ ⟨rfl, rfl⟩ (ov_obj hb _ _) rfl rfl (Nat.le_of_ble_eq_true rfl) ⟨Nat.le_of_ble_eq_true rfl, Nat.le_of_ble_eq_true rfl⟩ rfl (fun r hh hp => ?_)
    obtain ⟨hr9, rfl⟩ := hp
    rw [show (if (1 : Int32) = 0 then (0 : Int32) else 1) = 1 from by decide] at hr9
    subst hr9
    refine r_if_eq (tgt := 114) dX4_blow_109 (by decide) (fun z => absurd z (by decide)) (fun _ => ?_)
    refine r_iconst (v := 0) dX4_blow_112 (by decide) ?_
    exact kret _ _ _ _ _ _ (Nat.le_refl _) (Nat.le_refl _) dX4_blow_113 rfl (⟨by simp [mblow, q1] <;> rfl, by simp [mblow, q1] <;> rfl⟩)

abbrev rmX4_isFixed : Room := { frames := 0, cells := 0, slots := 0, locals := 0 }
theorem hinX4_isFixed : ∀ w ∈ u_ws RX4 TX4 29, w ∈ wsX4_isFixed := by decide +kernel
theorem fwX4_isFixed_20 : Cond.fieldLink RX4 20 "CastdeskModel" "state" "[I" ∈ wsX4_isFixed := by decide +kernel
theorem fwX4_isFixed_59 : Cond.fieldLink RX4 59 "CastdeskModel" "of" "[I" ∈ wsX4_isFixed := by decide +kernel
theorem fwX4_isFixed_71 : Cond.fieldLink RX4 71 "CastdeskModel" "isStruck" "[Z" ∈ wsX4_isFixed := by decide +kernel
set_option maxHeartbeats 4000000 in
set_option maxRecDepth 100000 in
theorem tX4_isFixed {E : kE} {b : Nat → Nat} (hb : binj b) (st : kM) (h0 : kH) (nF nC nE w : Nat) (hwf : mwf st nF nC nE w) (x : Int32) (hx0 : ∃ o, o < nE ∧ x = nI o) : kCi E yX4_isFixed wsX4_isFixed rmX4_isFixed 0 0 [.ref (b 29), .int x] (ov E b st h0) (fun r h' => r = mfix st x ∧ h' = ov E b st h0) := by
  obtain ⟨hF, hF20, hC, hC6, hE, hE80, hW, hW3, hpl, hof, hon, hsl⟩ := id hwf
  obtain ⟨o, ho, rfl⟩ := hx0
  have eo : (nI o).toNatClampNeg = o := nI_clamp (by omega)
  refine kCi_of (rt := .boolean) (own := RX4) (cc := cX4_isFixed) (maxL := 2) (by decide) rfl rfl (Nat.le_of_ble_eq_true rfl) ?_
  intro X _ kret
  refine r_lo (lo' := [(0, .ref (b 29)), (1, .int (nI o))]) [0, 1] rfl ?_
  refine r_aload_n dX4_isFixed_0 0 rfl ?_
  refine m_geta hb hinX4_isFixed 25 (by decide) rfl dX4_isFixed_1 fwX4_isFixed_71 rfl ?_
  refine r_iload_n dX4_isFixed_4 1 rfl ?_
  refine m_zald (v := st 25 o) hb 25 o (by decide) dX4_isFixed_5 rfl (by show _ < 80; omega) (by decide) rfl ?_
  refine r_if_ne (tgt := 23) dX4_isFixed_6 (by decide) (fun c1 => ?_) (fun c1 => ?_)
  · skip
    refine r_iconst (v := 1) dX4_isFixed_23 (by decide) ?_
    refine r_goto (tgt := 28) dX4_isFixed_24 (by decide) ?_
    exact kret _ _ _ _ _ _ (Nat.le_refl _) (Nat.le_refl _) dX4_isFixed_28 rfl (⟨by simp [mfix, eo, c1], rfl⟩)
  · skip
    refine r_aload_n dX4_isFixed_9 0 rfl ?_
    refine m_geta hb hinX4_isFixed 6 (by decide) rfl dX4_isFixed_10 fwX4_isFixed_20 rfl ?_
    refine r_aload_n dX4_isFixed_13 0 rfl ?_
    refine m_geta hb hinX4_isFixed 21 (by decide) rfl dX4_isFixed_14 fwX4_isFixed_59 rfl ?_
    refine r_iload_n dX4_isFixed_17 1 rfl ?_
    refine m_ald (v := st 21 o) hb 21 o (by decide) dX4_isFixed_18 rfl (by show _ < 80; omega) (by decide) rfl ?_
    refine m_aldx (v := st 6 (st 21 o).toNatClampNeg) hb 6 (by decide) dX4_isFixed_19 (vp_mono (hof o (by omega)) (by show nF ≤ 20; omega)) rfl ?_
    refine r_if_eq (tgt := 27) dX4_isFixed_20 (by decide) (fun c2 => ?_) (fun c2 => ?_)
    · skip
      refine r_iconst (v := 0) dX4_isFixed_27 (by decide) ?_
      exact kret _ _ _ _ _ _ (Nat.le_refl _) (Nat.le_refl _) dX4_isFixed_28 rfl (⟨by simp [mfix, eo, c1, c2], rfl⟩)
    · skip
      refine r_iconst (v := 1) dX4_isFixed_23 (by decide) ?_
      refine r_goto (tgt := 28) dX4_isFixed_24 (by decide) ?_
      exact kret _ _ _ _ _ _ (Nat.le_refl _) (Nat.le_refl _) dX4_isFixed_28 rfl (⟨by simp [mfix, eo, c1, c2], rfl⟩)

abbrev rmX4_strike : Room := { frames := 2, cells := 0, slots := 0, locals := 43 }
theorem hinX4_strike : ∀ w ∈ u_ws RX4 TX4 29, w ∈ wsX4_strike := by decide +kernel
theorem fwX4_strike_65 : Cond.fieldLink RX4 65 "CastdeskModel" "points" "[I" ∈ wsX4_strike := by decide +kernel
theorem fwX4_strike_71 : Cond.fieldLink RX4 71 "CastdeskModel" "isStruck" "[Z" ∈ wsX4_strike := by decide +kernel
set_option maxHeartbeats 4000000 in
set_option maxRecDepth 100000 in
theorem tX4_strike {E : kE} {b : Nat → Nat} (hb : binj b) (st : kM) (h0 : kH) (nF nC nE w : Nat) (hwf : mwf st nF nC nE w) (x : Int32) : kCi E yX4_strike wsX4_strike rmX4_strike 0 0 [.ref (b 29), .int x] (ov E b st h0) (fun r h' => r = (mstrike st x).1 ∧ h' = ov E b (mstrike st x).2 h0) := by
  obtain ⟨hF, hF20, hC, hC6, hE, hE80, hW, hW3, hpl, hof, hon, hsl⟩ := id hwf
  refine kCi_of (rt := .int) (own := RX4) (cc := cX4_strike) (maxL := 3) (by decide) rfl rfl (Nat.le_of_ble_eq_true rfl) ?_
  intro X _ kret
  refine r_lo (lo' := [(0, .ref (b 29)), (1, .int x)]) [0, 1] rfl ?_
  refine r_aload_n dX4_strike_0 0 rfl ?_
  refine r_iload_n dX4_strike_1 1 rfl ?_
  refine r_callVi (nn := 1) (As := [.int x]) (st := []) dX4_strike_2 (tX4_isEntry hb st h0 x) gX4_strike_X4_isEntry rfl (by decide +kernel) ⟨Nat.le_of_ble_eq_true rfl, Nat.le_of_ble_eq_true rfl⟩ ⟨rfl, rfl⟩ (ov_obj hb _ _) rfl rfl (Nat.le_of_ble_eq_true rfl) ⟨Nat.le_of_ble_eq_true rfl, Nat.le_of_ble_eq_true rfl⟩ rfl (fun r hh hp => ?_)
  obtain ⟨⟨q1, rfl⟩ | ⟨q1, rfl⟩, rfl⟩ := hp
  · skip
    obtain ⟨o, ho, rfl⟩ := inr_pred (m := nE) (by omega) (by rw [← hE]; exact q1)
    have eo : (nI o).toNatClampNeg = o := nI_clamp (by omega)
    refine r_istore_n (lo' := [(2, .int 1), (0, .ref (b 29)), (1, .int (nI o))]) dX4_strike_5 (by decide) rfl ?_
    refine r_aload_n dX4_strike_6 1 rfl ?_
    refine r_iload_n dX4_strike_7 0 rfl ?_
    refine r_if_ne (tgt := 15) dX4_strike_8 (by decide) (fun _ => ?_) (fun z => absurd z (by decide))
    refine r_aload_n dX4_strike_15 1 rfl ?_
    refine r_iload_n dX4_strike_16 2 rfl ?_
    refine r_callVi (nn := 1) (As := [.int (nI o)]) (st := [.ref (b 29)]) dX4_strike_17 (tX4_isFixed hb st h0 nF nC nE w hwf (nI o) ⟨o, by omega, rfl⟩) gX4_strike_X4_isFixed rfl (by decide +kernel) ⟨Nat.le_of_ble_eq_true rfl, Nat.le_of_ble_eq_true rfl⟩ ⟨rfl, rfl⟩ (ov_obj hb _ _) rfl rfl (Nat.le_of_ble_eq_true rfl) ⟨Nat.le_of_ble_eq_true rfl, Nat.le_of_ble_eq_true rfl⟩ rfl (fun r hh hp => ?_)
    obtain ⟨rfl, rfl⟩ := hp
    refine r_if_eq (tgt := 27) dX4_strike_20 (by decide) (fun c2 => ?_) (fun c2 => ?_)
    · skip
      refine r_iconst (v := 0) dX4_strike_27 (by decide) ?_
      refine r_callVi (nn := 1) (As := [.int 0]) (st := []) dX4_strike_28 (tX4_refused hb st h0 0) gX4_strike_X4_refused rfl (by decide +kernel) ⟨Nat.le_of_ble_eq_true rfl, Nat.le_of_ble_eq_true rfl⟩ ⟨rfl, rfl⟩ (ov_obj hb _ _) rfl rfl (Nat.le_of_ble_eq_true rfl) ⟨Nat.le_of_ble_eq_true rfl, Nat.le_of_ble_eq_true rfl⟩ rfl (fun r hh hp => ?_)
      obtain ⟨hr9, rfl⟩ := hp
      rw [show (if (0 : Int32) = 0 then (0 : Int32) else 1) = 0 from by decide] at hr9
      subst hr9
      refine r_if_eq (tgt := 36) dX4_strike_31 (by decide) (fun _ => ?_) (fun z => absurd z (by decide))
      refine r_aload_n dX4_strike_36 1 rfl ?_
      refine m_geta hb hinX4_strike 25 (by decide) rfl dX4_strike_37 fwX4_strike_71 rfl ?_
      refine r_iload_n dX4_strike_40 2 rfl ?_
      refine r_iconst (v := 1) dX4_strike_41 (by decide) ?_
      refine m_zast hb 25 o (by decide) rfl dX4_strike_42 rfl (by show _ < 80; omega) (by decide) ?_
      refine r_aload_n dX4_strike_43 1 rfl ?_
      refine m_geta hb hinX4_strike 23 (by decide) rfl dX4_strike_44 fwX4_strike_65 rfl ?_
      refine r_iload_n dX4_strike_47 2 rfl ?_
      refine m_ald (v := st 23 o) hb 23 o (by decide) dX4_strike_48 rfl (by show _ < 80; omega) (by decide) rfl ?_
      exact kret _ _ _ _ _ _ (Nat.le_refl _) (Nat.le_refl _) dX4_strike_49 rfl (⟨by rw [mstrike, if_pos q1] <;> simp [eo, c2] <;> rfl, by rw [mstrike, if_pos q1] <;> simp [eo, c2] <;> rfl⟩)
    · skip
      refine r_iconst (v := 2) dX4_strike_23 (by decide) ?_
      refine r_goto (tgt := 28) dX4_strike_24 (by decide) ?_
      refine r_callVi (nn := 1) (As := [.int 2]) (st := []) dX4_strike_28 (tX4_refused hb st h0 2) gX4_strike_X4_refused rfl (by decide +kernel) ⟨Nat.le_of_ble_eq_true rfl, Nat.le_of_ble_eq_true rfl⟩ ⟨rfl, rfl⟩ (ov_obj hb _ _) rfl rfl (Nat.le_of_ble_eq_true rfl) ⟨Nat.le_of_ble_eq_true rfl, Nat.le_of_ble_eq_true rfl⟩ rfl (fun r hh hp => ?_)
      obtain ⟨hr9, rfl⟩ := hp
      rw [show (if (2 : Int32) = 0 then (0 : Int32) else 1) = 1 from by decide] at hr9
      subst hr9
      refine r_if_eq (tgt := 36) dX4_strike_31 (by decide) (fun z => absurd z (by decide)) (fun _ => ?_)
      refine r_iconst (v := 0) dX4_strike_34 (by decide) ?_
      exact kret _ _ _ _ _ _ (Nat.le_refl _) (Nat.le_refl _) dX4_strike_35 rfl (⟨by rw [mstrike, if_pos q1] <;> simp [eo, c2] <;> rfl, by rw [mstrike, if_pos q1] <;> simp [eo, c2] <;> rfl⟩)
  · skip
    refine r_istore_n (lo' := [(2, .int 0), (0, .ref (b 29)), (1, .int x)]) dX4_strike_5 (by decide) rfl ?_
    refine r_aload_n dX4_strike_6 1 rfl ?_
    refine r_iload_n dX4_strike_7 0 rfl ?_
    refine r_if_ne (tgt := 15) dX4_strike_8 (by decide) (fun z => absurd z (by decide)) (fun _ => ?_)
    refine r_iconst (v := 1) dX4_strike_11 (by decide) ?_
    refine r_goto (tgt := 28) dX4_strike_12 (by decide) ?_
    refine r_callVi (nn := 1) (As := [.int 1]) (st := []) dX4_strike_28 (tX4_refused hb st h0 1) gX4_strike_X4_refused rfl (by decide +kernel) ⟨Nat.le_of_ble_eq_true rfl, Nat.le_of_ble_eq_true rfl⟩ ⟨rfl, rfl⟩ (ov_obj hb _ _) rfl rfl (Nat.le_of_ble_eq_true rfl) ⟨Nat.le_of_ble_eq_true rfl, Nat.le_of_ble_eq_true rfl⟩ rfl (fun r hh hp => ?_)
    obtain ⟨hr9, rfl⟩ := hp
    rw [show (if (1 : Int32) = 0 then (0 : Int32) else 1) = 1 from by decide] at hr9
    subst hr9
    refine r_if_eq (tgt := 36) dX4_strike_31 (by decide) (fun z => absurd z (by decide)) (fun _ => ?_)
    refine r_iconst (v := 0) dX4_strike_34 (by decide) ?_
    exact kret _ _ _ _ _ _ (Nat.le_refl _) (Nat.le_refl _) dX4_strike_35 rfl (⟨by rw [mstrike, if_neg (by rw [q1]; decide)], by rw [mstrike, if_neg (by rw [q1]; decide)]⟩)

abbrev rmX4_mend : Room := { frames := 2, cells := 0, slots := 0, locals := 43 }
theorem hinX4_mend : ∀ w ∈ u_ws RX4 TX4 29, w ∈ wsX4_mend := by decide +kernel
theorem fwX4_mend_65 : Cond.fieldLink RX4 65 "CastdeskModel" "points" "[I" ∈ wsX4_mend := by decide +kernel
set_option maxHeartbeats 4000000 in
set_option maxRecDepth 100000 in
theorem tX4_mend {E : kE} {b : Nat → Nat} (hb : binj b) (st : kM) (h0 : kH) (nF nC nE w : Nat) (hwf : mwf st nF nC nE w) (x y : Int32) : kCi E yX4_mend wsX4_mend rmX4_mend 0 0 [.ref (b 29), .int x, .int y] (ov E b st h0) (fun r h' => r = (mmend st x y).1 ∧ h' = ov E b (mmend st x y).2 h0) := by
  obtain ⟨hF, hF20, hC, hC6, hE, hE80, hW, hW3, hpl, hof, hon, hsl⟩ := id hwf
  refine kCi_of (rt := .int) (own := RX4) (cc := cX4_mend) (maxL := 5) (by decide) rfl rfl (Nat.le_of_ble_eq_true rfl) ?_
  intro X _ kret
  refine r_lo (lo' := [(0, .ref (b 29)), (1, .int x), (2, .int y)]) [0, 1, 2] rfl ?_
  refine r_aload_n dX4_mend_0 0 rfl ?_
  refine r_iload_n dX4_mend_1 1 rfl ?_
  refine r_callVi (nn := 1) (As := [.int x]) (st := []) dX4_mend_2 (tX4_isEntry hb st h0 x) gX4_mend_X4_isEntry rfl (by decide +kernel) ⟨Nat.le_of_ble_eq_true rfl, Nat.le_of_ble_eq_true rfl⟩ ⟨rfl, rfl⟩ (ov_obj hb _ _) rfl rfl (Nat.le_of_ble_eq_true rfl) ⟨Nat.le_of_ble_eq_true rfl, Nat.le_of_ble_eq_true rfl⟩ rfl (fun r hh hp => ?_)
  obtain ⟨⟨q1, rfl⟩ | ⟨q1, rfl⟩, rfl⟩ := hp
  · skip
    obtain ⟨o, ho, rfl⟩ := inr_pred (m := nE) (by omega) (by rw [← hE]; exact q1)
    have eo : (nI o).toNatClampNeg = o := nI_clamp (by omega)
    refine r_istore_n (lo' := [(3, .int 1), (0, .ref (b 29)), (1, .int (nI o)), (2, .int y)]) dX4_mend_5 (by decide) rfl ?_
    refine r_aload_n dX4_mend_6 1 rfl ?_
    refine r_iload_n dX4_mend_7 0 rfl ?_
    refine r_if_ne (tgt := 15) dX4_mend_8 (by decide) (fun _ => ?_) (fun z => absurd z (by decide))
    refine r_iload_n dX4_mend_15 3 rfl ?_
    refine r_iconst (v := 1) dX4_mend_16 (by decide) ?_
    refine r_bipush (v := 9) dX4_mend_17 (by decide) ?_
    refine r_callSi (nn := 3) (As := [.int y, .int 1, .int 9]) (st := [.ref (b 29)]) dX4_mend_19 (tX4_in _ y 1 9) gX4_mend_X4_in rfl (by decide +kernel) ⟨Nat.le_of_ble_eq_true rfl, Nat.le_of_ble_eq_true rfl⟩ ⟨rfl, rfl⟩ rfl (Nat.le_of_ble_eq_true rfl) ⟨Nat.le_of_ble_eq_true rfl, Nat.le_of_ble_eq_true rfl⟩ rfl (fun r hh hp => ?_)
    obtain ⟨⟨q2, rfl⟩ | ⟨q2, rfl⟩, rfl⟩ := hp
    · skip
      refine r_if_ne (tgt := 29) dX4_mend_22 (by decide) (fun _ => ?_) (fun z => absurd z (by decide))
      refine r_aload_n dX4_mend_29 1 rfl ?_
      refine r_iload_n dX4_mend_30 2 rfl ?_
      refine r_callVi (nn := 1) (As := [.int (nI o)]) (st := [.ref (b 29)]) dX4_mend_31 (tX4_isFixed hb st h0 nF nC nE w hwf (nI o) ⟨o, by omega, rfl⟩) gX4_mend_X4_isFixed rfl (by decide +kernel) ⟨Nat.le_of_ble_eq_true rfl, Nat.le_of_ble_eq_true rfl⟩ ⟨rfl, rfl⟩ (ov_obj hb _ _) rfl rfl (Nat.le_of_ble_eq_true rfl) ⟨Nat.le_of_ble_eq_true rfl, Nat.le_of_ble_eq_true rfl⟩ rfl (fun r hh hp => ?_)
      obtain ⟨rfl, rfl⟩ := hp
      refine r_if_eq (tgt := 41) dX4_mend_34 (by decide) (fun c3 => ?_) (fun c3 => ?_)
      · skip
        refine r_iconst (v := 0) dX4_mend_41 (by decide) ?_
        refine r_callVi (nn := 1) (As := [.int 0]) (st := []) dX4_mend_42 (tX4_refused hb st h0 0) gX4_mend_X4_refused rfl (by decide +kernel) ⟨Nat.le_of_ble_eq_true rfl, Nat.le_of_ble_eq_true rfl⟩ ⟨rfl, rfl⟩ (ov_obj hb _ _) rfl rfl (Nat.le_of_ble_eq_true rfl) ⟨Nat.le_of_ble_eq_true rfl, Nat.le_of_ble_eq_true rfl⟩ rfl (fun r hh hp => ?_)
        obtain ⟨hr9, rfl⟩ := hp
        rw [show (if (0 : Int32) = 0 then (0 : Int32) else 1) = 0 from by decide] at hr9
        subst hr9
        refine r_if_eq (tgt := 50) dX4_mend_45 (by decide) (fun _ => ?_) (fun z => absurd z (by decide))
        refine r_aload_n dX4_mend_50 1 rfl ?_
        refine m_geta hb hinX4_mend 23 (by decide) rfl dX4_mend_51 fwX4_mend_65 rfl ?_
        refine r_iload_n dX4_mend_54 2 rfl ?_
        refine m_ald (v := st 23 o) hb 23 o (by decide) dX4_mend_55 rfl (by show _ < 80; omega) (by decide) rfl ?_
        refine r_istore (lo' := [(4, .int (st 23 o)), (3, .int 1), (0, .ref (b 29)), (1, .int (nI o)), (2, .int y)]) dX4_mend_56 (by decide) rfl ?_
        refine r_aload_n dX4_mend_58 2 rfl ?_
        refine m_geta hb hinX4_mend 23 (by decide) rfl dX4_mend_59 fwX4_mend_65 rfl ?_
        refine r_iload_n dX4_mend_62 3 rfl ?_
        refine r_iload_n dX4_mend_63 4 rfl ?_
        refine m_ast hb 23 o (by decide) dX4_mend_64 rfl (by show _ < 80; omega) (by decide) ?_
        refine r_iload dX4_mend_65 0 rfl ?_
        exact kret _ _ _ _ _ _ (Nat.le_refl _) (Nat.le_refl _) dX4_mend_67 rfl (⟨by rw [mmend, if_pos q1] <;> simp [eo, q2, c3] <;> rfl, by rw [mmend, if_pos q1] <;> simp [eo, q2, c3] <;> rfl⟩)
      · skip
        refine r_iconst (v := 3) dX4_mend_37 (by decide) ?_
        refine r_goto (tgt := 42) dX4_mend_38 (by decide) ?_
        refine r_callVi (nn := 1) (As := [.int 3]) (st := []) dX4_mend_42 (tX4_refused hb st h0 3) gX4_mend_X4_refused rfl (by decide +kernel) ⟨Nat.le_of_ble_eq_true rfl, Nat.le_of_ble_eq_true rfl⟩ ⟨rfl, rfl⟩ (ov_obj hb _ _) rfl rfl (Nat.le_of_ble_eq_true rfl) ⟨Nat.le_of_ble_eq_true rfl, Nat.le_of_ble_eq_true rfl⟩ rfl (fun r hh hp => ?_)
        obtain ⟨hr9, rfl⟩ := hp
        rw [show (if (3 : Int32) = 0 then (0 : Int32) else 1) = 1 from by decide] at hr9
        subst hr9
        refine r_if_eq (tgt := 50) dX4_mend_45 (by decide) (fun z => absurd z (by decide)) (fun _ => ?_)
        refine r_iconst (v := 0) dX4_mend_48 (by decide) ?_
        exact kret _ _ _ _ _ _ (Nat.le_refl _) (Nat.le_refl _) dX4_mend_49 rfl (⟨by rw [mmend, if_pos q1] <;> simp [eo, q2, c3] <;> rfl, by rw [mmend, if_pos q1] <;> simp [eo, q2, c3] <;> rfl⟩)
    · skip
      refine r_if_ne (tgt := 29) dX4_mend_22 (by decide) (fun z => absurd z (by decide)) (fun _ => ?_)
      refine r_iconst (v := 2) dX4_mend_25 (by decide) ?_
      refine r_goto (tgt := 42) dX4_mend_26 (by decide) ?_
      refine r_callVi (nn := 1) (As := [.int 2]) (st := []) dX4_mend_42 (tX4_refused hb st h0 2) gX4_mend_X4_refused rfl (by decide +kernel) ⟨Nat.le_of_ble_eq_true rfl, Nat.le_of_ble_eq_true rfl⟩ ⟨rfl, rfl⟩ (ov_obj hb _ _) rfl rfl (Nat.le_of_ble_eq_true rfl) ⟨Nat.le_of_ble_eq_true rfl, Nat.le_of_ble_eq_true rfl⟩ rfl (fun r hh hp => ?_)
      obtain ⟨hr9, rfl⟩ := hp
      rw [show (if (2 : Int32) = 0 then (0 : Int32) else 1) = 1 from by decide] at hr9
      subst hr9
      refine r_if_eq (tgt := 50) dX4_mend_45 (by decide) (fun z => absurd z (by decide)) (fun _ => ?_)
      refine r_iconst (v := 0) dX4_mend_48 (by decide) ?_
      exact kret _ _ _ _ _ _ (Nat.le_refl _) (Nat.le_refl _) dX4_mend_49 rfl (⟨by rw [mmend, if_pos q1] <;> simp [eo, q2] <;> rfl, by rw [mmend, if_pos q1] <;> simp [eo, q2] <;> rfl⟩)
  · skip
    refine r_istore_n (lo' := [(3, .int 0), (0, .ref (b 29)), (1, .int x), (2, .int y)]) dX4_mend_5 (by decide) rfl ?_
    refine r_aload_n dX4_mend_6 1 rfl ?_
    refine r_iload_n dX4_mend_7 0 rfl ?_
    refine r_if_ne (tgt := 15) dX4_mend_8 (by decide) (fun z => absurd z (by decide)) (fun _ => ?_)
    refine r_iconst (v := 1) dX4_mend_11 (by decide) ?_
    refine r_goto (tgt := 42) dX4_mend_12 (by decide) ?_
    refine r_callVi (nn := 1) (As := [.int 1]) (st := []) dX4_mend_42 (tX4_refused hb st h0 1) gX4_mend_X4_refused rfl (by decide +kernel) ⟨Nat.le_of_ble_eq_true rfl, Nat.le_of_ble_eq_true rfl⟩ ⟨rfl, rfl⟩ (ov_obj hb _ _) rfl rfl (Nat.le_of_ble_eq_true rfl) ⟨Nat.le_of_ble_eq_true rfl, Nat.le_of_ble_eq_true rfl⟩ rfl (fun r hh hp => ?_)
    obtain ⟨hr9, rfl⟩ := hp
    rw [show (if (1 : Int32) = 0 then (0 : Int32) else 1) = 1 from by decide] at hr9
    subst hr9
    refine r_if_eq (tgt := 50) dX4_mend_45 (by decide) (fun z => absurd z (by decide)) (fun _ => ?_)
    refine r_iconst (v := 0) dX4_mend_48 (by decide) ?_
    exact kret _ _ _ _ _ _ (Nat.le_refl _) (Nat.le_refl _) dX4_mend_49 rfl (⟨by rw [mmend, if_neg (by rw [q1]; decide)], by rw [mmend, if_neg (by rw [q1]; decide)]⟩)

abbrev rmX4_promise : Room := { frames := 2, cells := 0, slots := 0, locals := 42 }
theorem hinX4_promise : ∀ w ∈ u_ws RX4 TX4 29, w ∈ wsX4_promise := by decide +kernel
theorem fwX4_promise_75 : Cond.fieldLink RX4 75 "CastdeskModel" "promises" "[I" ∈ wsX4_promise := by decide +kernel
set_option maxHeartbeats 4000000 in
set_option maxRecDepth 100000 in
theorem tX4_promise {E : kE} {b : Nat → Nat} (hb : binj b) (st : kM) (h0 : kH) (x y : Int32) : kCi E yX4_promise wsX4_promise rmX4_promise 0 0 [.ref (b 29), .int x, .int y] (ov E b st h0) (fun r h' => r = (mpromise st x y).1 ∧ h' = ov E b (mpromise st x y).2 h0) := by
  refine kCi_of (rt := .int) (own := RX4) (cc := cX4_promise) (maxL := 4) (by decide) rfl rfl (Nat.le_of_ble_eq_true rfl) ?_
  intro X _ kret
  refine r_lo (lo' := [(0, .ref (b 29)), (1, .int x), (2, .int y)]) [0, 1, 2] rfl ?_
  refine r_aload_n dX4_promise_0 0 rfl ?_
  refine r_iload_n dX4_promise_1 1 rfl ?_
  refine r_callSi (nn := 1) (As := [.int x]) (st := [.ref (b 29)]) dX4_promise_2 (tX4_isSponsor _ x) gX4_promise_X4_isSponsor rfl (by decide +kernel) ⟨Nat.le_of_ble_eq_true rfl, Nat.le_of_ble_eq_true rfl⟩ ⟨rfl, rfl⟩ rfl (Nat.le_of_ble_eq_true rfl) ⟨Nat.le_of_ble_eq_true rfl, Nat.le_of_ble_eq_true rfl⟩ rfl (fun r hh hp => ?_)
  obtain ⟨⟨q1, rfl⟩ | ⟨q1, rfl⟩, rfl⟩ := hp
  · skip
    obtain ⟨o, ho, rfl⟩ := inr_nat (m := 5) (by decide) q1
    have eo : (nI o).toNatClampNeg = o := nI_clamp (by omega)
    refine r_if_ne (tgt := 12) dX4_promise_5 (by decide) (fun _ => ?_) (fun z => absurd z (by decide))
    refine r_iload_n dX4_promise_12 2 rfl ?_
    refine r_iconst (v := 0) dX4_promise_13 (by decide) ?_
    refine r_sipush (v := 1000) dX4_promise_14 (by decide) ?_
    refine r_callSi (nn := 3) (As := [.int y, .int 0, .int 1000]) (st := [.ref (b 29)]) dX4_promise_17 (tX4_in _ y 0 1000) gX4_promise_X4_in rfl (by decide +kernel) ⟨Nat.le_of_ble_eq_true rfl, Nat.le_of_ble_eq_true rfl⟩ ⟨rfl, rfl⟩ rfl (Nat.le_of_ble_eq_true rfl) ⟨Nat.le_of_ble_eq_true rfl, Nat.le_of_ble_eq_true rfl⟩ rfl (fun r hh hp => ?_)
    obtain ⟨⟨q2, rfl⟩ | ⟨q2, rfl⟩, rfl⟩ := hp
    · skip
      refine r_if_ne (tgt := 27) dX4_promise_20 (by decide) (fun _ => ?_) (fun z => absurd z (by decide))
      refine r_iconst (v := 0) dX4_promise_27 (by decide) ?_
      refine r_callVi (nn := 1) (As := [.int 0]) (st := []) dX4_promise_28 (tX4_refused hb st h0 0) gX4_promise_X4_refused rfl (by decide +kernel) ⟨Nat.le_of_ble_eq_true rfl, Nat.le_of_ble_eq_true rfl⟩ ⟨rfl, rfl⟩ (ov_obj hb _ _) rfl rfl (Nat.le_of_ble_eq_true rfl) ⟨Nat.le_of_ble_eq_true rfl, Nat.le_of_ble_eq_true rfl⟩ rfl (fun r hh hp => ?_)
      obtain ⟨hr9, rfl⟩ := hp
      rw [show (if (0 : Int32) = 0 then (0 : Int32) else 1) = 0 from by decide] at hr9
      subst hr9
      refine r_if_eq (tgt := 36) dX4_promise_31 (by decide) (fun _ => ?_) (fun z => absurd z (by decide))
      refine r_aload_n dX4_promise_36 0 rfl ?_
      refine m_geta hb hinX4_promise 26 (by decide) rfl dX4_promise_37 fwX4_promise_75 rfl ?_
      refine r_iload_n dX4_promise_40 1 rfl ?_
      refine m_ald (v := st 26 o) hb 26 o (by decide) dX4_promise_41 rfl (by show _ < 6; omega) (by decide) rfl ?_
      refine r_istore_n (lo' := [(3, .int (st 26 o)), (0, .ref (b 29)), (1, .int (nI o)), (2, .int y)]) dX4_promise_42 (by decide) rfl ?_
      refine r_aload_n dX4_promise_43 1 rfl ?_
      refine m_geta hb hinX4_promise 26 (by decide) rfl dX4_promise_44 fwX4_promise_75 rfl ?_
      refine r_iload_n dX4_promise_47 2 rfl ?_
      refine r_iload_n dX4_promise_48 3 rfl ?_
      refine m_ast hb 26 o (by decide) dX4_promise_49 rfl (by show _ < 6; omega) (by decide) ?_
      refine r_iload_n dX4_promise_50 0 rfl ?_
      exact kret _ _ _ _ _ _ (Nat.le_refl _) (Nat.le_refl _) dX4_promise_51 rfl (⟨by rw [mpromise, if_pos q1] <;> simp [eo, q2] <;> rfl, by rw [mpromise, if_pos q1] <;> simp [eo, q2] <;> rfl⟩)
    · skip
      refine r_if_ne (tgt := 27) dX4_promise_20 (by decide) (fun z => absurd z (by decide)) (fun _ => ?_)
      refine r_iconst (v := 2) dX4_promise_23 (by decide) ?_
      refine r_goto (tgt := 28) dX4_promise_24 (by decide) ?_
      refine r_callVi (nn := 1) (As := [.int 2]) (st := []) dX4_promise_28 (tX4_refused hb st h0 2) gX4_promise_X4_refused rfl (by decide +kernel) ⟨Nat.le_of_ble_eq_true rfl, Nat.le_of_ble_eq_true rfl⟩ ⟨rfl, rfl⟩ (ov_obj hb _ _) rfl rfl (Nat.le_of_ble_eq_true rfl) ⟨Nat.le_of_ble_eq_true rfl, Nat.le_of_ble_eq_true rfl⟩ rfl (fun r hh hp => ?_)
      obtain ⟨hr9, rfl⟩ := hp
      rw [show (if (2 : Int32) = 0 then (0 : Int32) else 1) = 1 from by decide] at hr9
      subst hr9
      refine r_if_eq (tgt := 36) dX4_promise_31 (by decide) (fun z => absurd z (by decide)) (fun _ => ?_)
      refine r_iconst (v := 0) dX4_promise_34 (by decide) ?_
      exact kret _ _ _ _ _ _ (Nat.le_refl _) (Nat.le_refl _) dX4_promise_35 rfl (⟨by rw [mpromise, if_pos q1] <;> simp [eo, q2] <;> rfl, by rw [mpromise, if_pos q1] <;> simp [eo, q2] <;> rfl⟩)
  · skip
    refine r_if_ne (tgt := 12) dX4_promise_5 (by decide) (fun z => absurd z (by decide)) (fun _ => ?_)
    refine r_iconst (v := 1) dX4_promise_8 (by decide) ?_
    refine r_goto (tgt := 28) dX4_promise_9 (by decide) ?_
    refine r_callVi (nn := 1) (As := [.int 1]) (st := []) dX4_promise_28 (tX4_refused hb st h0 1) gX4_promise_X4_refused rfl (by decide +kernel) ⟨Nat.le_of_ble_eq_true rfl, Nat.le_of_ble_eq_true rfl⟩ ⟨rfl, rfl⟩ (ov_obj hb _ _) rfl rfl (Nat.le_of_ble_eq_true rfl) ⟨Nat.le_of_ble_eq_true rfl, Nat.le_of_ble_eq_true rfl⟩ rfl (fun r hh hp => ?_)
    obtain ⟨hr9, rfl⟩ := hp
    rw [show (if (1 : Int32) = 0 then (0 : Int32) else 1) = 1 from by decide] at hr9
    subst hr9
    refine r_if_eq (tgt := 36) dX4_promise_31 (by decide) (fun z => absurd z (by decide)) (fun _ => ?_)
    refine r_iconst (v := 0) dX4_promise_34 (by decide) ?_
    exact kret _ _ _ _ _ _ (Nat.le_refl _) (Nat.le_refl _) dX4_promise_35 rfl (⟨by rw [mpromise, if_neg (by rw [q1]; decide)], by rw [mpromise, if_neg (by rw [q1]; decide)]⟩)

abbrev rmX4_slot : Room := { frames := 2, cells := 0, slots := 0, locals := 42 }
theorem hinX4_slot : ∀ w ∈ u_ws RX4 TX4 29, w ∈ wsX4_slot := by decide +kernel
theorem fwX4_slot_78 : Cond.fieldLink RX4 78 "CastdeskModel" "hasSlot" "[Z" ∈ wsX4_slot := by decide +kernel
theorem fwX4_slot_153 : Cond.fieldLink RX4 153 "CastdeskModel" "slots" "I" ∈ wsX4_slot := by decide +kernel
set_option maxHeartbeats 4000000 in
set_option maxRecDepth 100000 in
theorem tX4_slot {E : kE} {b : Nat → Nat} (hb : binj b) (st : kM) (h0 : kH) (x y : Int32) : kCi E yX4_slot wsX4_slot rmX4_slot 0 0 [.ref (b 29), .int x, .int y] (ov E b st h0) (fun r h' => r = (mslot st x y).1 ∧ h' = ov E b (mslot st x y).2 h0) := by
  refine kCi_of (rt := .int) (own := RX4) (cc := cX4_slot) (maxL := 4) (by decide) rfl rfl (Nat.le_of_ble_eq_true rfl) ?_
  intro X _ kret
  refine r_lo (lo' := [(0, .ref (b 29)), (1, .int x), (2, .int y)]) [0, 1, 2] rfl ?_
  refine r_iload_n dX4_slot_0 1 rfl ?_
  refine r_callSi (nn := 1) (As := [.int x]) (st := []) dX4_slot_1 (tX4_isSponsor _ x) gX4_slot_X4_isSponsor rfl (by decide +kernel) ⟨Nat.le_of_ble_eq_true rfl, Nat.le_of_ble_eq_true rfl⟩ ⟨rfl, rfl⟩ rfl (Nat.le_of_ble_eq_true rfl) ⟨Nat.le_of_ble_eq_true rfl, Nat.le_of_ble_eq_true rfl⟩ rfl (fun r hh hp => ?_)
  obtain ⟨⟨q1, rfl⟩ | ⟨q1, rfl⟩, rfl⟩ := hp
  · skip
    obtain ⟨o, ho, rfl⟩ := inr_nat (m := 5) (by decide) q1
    have eo : (nI o).toNatClampNeg = o := nI_clamp (by omega)
    refine r_if_eq (tgt := 18) dX4_slot_4 (by decide) (fun z => absurd z (by decide)) (fun _ => ?_)
    refine r_iload_n dX4_slot_7 2 rfl ?_
    refine r_callSi (nn := 1) (As := [.int y]) (st := []) dX4_slot_8 (tX4_isPlayer _ y) gX4_slot_X4_isPlayer rfl (by decide +kernel) ⟨Nat.le_of_ble_eq_true rfl, Nat.le_of_ble_eq_true rfl⟩ ⟨rfl, rfl⟩ rfl (Nat.le_of_ble_eq_true rfl) ⟨Nat.le_of_ble_eq_true rfl, Nat.le_of_ble_eq_true rfl⟩ rfl (fun r hh hp => ?_)
    obtain ⟨⟨q2, rfl⟩ | ⟨q2, rfl⟩, rfl⟩ := hp
    · skip
      obtain ⟨u, hu, rfl⟩ := inr_nat (m := 9) (by decide) q2
      have eu : (nI u).toNatClampNeg = u := nI_clamp (by omega)
      refine r_if_eq (tgt := 18) dX4_slot_11 (by decide) (fun z => absurd z (by decide)) (fun _ => ?_)
      refine r_iconst (v := 1) dX4_slot_14 (by decide) ?_
      refine r_goto (tgt := 19) dX4_slot_15 (by decide) ?_
      refine r_istore_n (lo' := [(3, .int 1), (0, .ref (b 29)), (1, .int (nI o)), (2, .int (nI u))]) dX4_slot_19 (by decide) rfl ?_
      refine r_aload_n dX4_slot_20 1 rfl ?_
      refine r_iload_n dX4_slot_21 0 rfl ?_
      refine r_if_ne (tgt := 29) dX4_slot_22 (by decide) (fun _ => ?_) (fun z => absurd z (by decide))
      refine r_aload_n dX4_slot_29 1 rfl ?_
      refine m_geti (v := st 28 0) hb hinX4_slot 28 (by decide) rfl dX4_slot_30 fwX4_slot_153 rfl rfl ?_
      refine r_bipush (v := 12) dX4_slot_33 (by decide) ?_
      refine r_icmp_eq (tgt := 52) dX4_slot_35 (by decide) (fun c3 => ?_) (fun c3 => ?_)
      · skip
        refine r_iconst (v := 2) dX4_slot_52 (by decide) ?_
        refine r_goto (tgt := 57) dX4_slot_53 (by decide) ?_
        refine r_callVi (nn := 1) (As := [.int 2]) (st := []) dX4_slot_57 (tX4_refused hb st h0 2) gX4_slot_X4_refused rfl (by decide +kernel) ⟨Nat.le_of_ble_eq_true rfl, Nat.le_of_ble_eq_true rfl⟩ ⟨rfl, rfl⟩ (ov_obj hb _ _) rfl rfl (Nat.le_of_ble_eq_true rfl) ⟨Nat.le_of_ble_eq_true rfl, Nat.le_of_ble_eq_true rfl⟩ rfl (fun r hh hp => ?_)
        obtain ⟨hr9, rfl⟩ := hp
        rw [show (if (2 : Int32) = 0 then (0 : Int32) else 1) = 1 from by decide] at hr9
        subst hr9
        refine r_if_eq (tgt := 65) dX4_slot_60 (by decide) (fun z => absurd z (by decide)) (fun _ => ?_)
        refine r_iconst (v := 0) dX4_slot_63 (by decide) ?_
        exact kret _ _ _ _ _ _ (Nat.le_refl _) (Nat.le_refl _) dX4_slot_64 rfl (⟨by simp [mslot, q1, eo, q2, eu, c3] <;> rfl, by simp [mslot, q1, eo, q2, eu, c3] <;> rfl⟩)
      · skip
        refine r_aload_n dX4_slot_38 1 rfl ?_
        refine m_geta hb hinX4_slot 27 (by decide) rfl dX4_slot_39 fwX4_slot_78 rfl ?_
        refine r_bipush (v := 10) dX4_slot_42 (by decide) ?_
        refine r_iload_n dX4_slot_44 2 rfl ?_
        refine r_imul dX4_slot_45 ?_
        rw [show (10 : Int32) * (nI o) = nI (10 * o) from pk_mul 10 o]
        refine r_iload_n dX4_slot_46 3 rfl ?_
        refine r_iadd dX4_slot_47 ?_
        rw [show (nI (10 * o)) + (nI u) = nI ((10 * o) + u) from nI_add (10 * o) u]
        refine m_zald (v := st 27 ((10 * o) + u)) hb 27 ((10 * o) + u) (by decide) dX4_slot_48 rfl (by show _ < 60; omega) (by decide) rfl ?_
        refine r_if_eq (tgt := 56) dX4_slot_49 (by decide) (fun c4 => ?_) (fun c4 => ?_)
        · skip
          refine r_iconst (v := 0) dX4_slot_56 (by decide) ?_
          refine r_callVi (nn := 1) (As := [.int 0]) (st := []) dX4_slot_57 (tX4_refused hb st h0 0) gX4_slot_X4_refused rfl (by decide +kernel) ⟨Nat.le_of_ble_eq_true rfl, Nat.le_of_ble_eq_true rfl⟩ ⟨rfl, rfl⟩ (ov_obj hb _ _) rfl rfl (Nat.le_of_ble_eq_true rfl) ⟨Nat.le_of_ble_eq_true rfl, Nat.le_of_ble_eq_true rfl⟩ rfl (fun r hh hp => ?_)
          obtain ⟨hr9, rfl⟩ := hp
          rw [show (if (0 : Int32) = 0 then (0 : Int32) else 1) = 0 from by decide] at hr9
          subst hr9
          refine r_if_eq (tgt := 65) dX4_slot_60 (by decide) (fun _ => ?_) (fun z => absurd z (by decide))
          refine r_aload_n dX4_slot_65 1 rfl ?_
          refine m_geta hb hinX4_slot 27 (by decide) rfl dX4_slot_66 fwX4_slot_78 rfl ?_
          refine r_bipush (v := 10) dX4_slot_69 (by decide) ?_
          refine r_iload_n dX4_slot_71 2 rfl ?_
          refine r_imul dX4_slot_72 ?_
          rw [show (10 : Int32) * (nI o) = nI (10 * o) from pk_mul 10 o]
          refine r_iload_n dX4_slot_73 3 rfl ?_
          refine r_iadd dX4_slot_74 ?_
          rw [show (nI (10 * o)) + (nI u) = nI ((10 * o) + u) from nI_add (10 * o) u]
          refine r_iconst (v := 1) dX4_slot_75 (by decide) ?_
          refine m_zast hb 27 ((10 * o) + u) (by decide) rfl dX4_slot_76 rfl (by show _ < 60; omega) (by decide) ?_
          refine r_aload_n dX4_slot_77 1 rfl ?_
          refine r_dup dX4_slot_78 rfl ?_
          refine m_geti (v := st 28 0) hb hinX4_slot 28 (by decide) rfl dX4_slot_79 fwX4_slot_153 rfl rfl ?_
          refine r_iconst (v := 1) dX4_slot_82 (by decide) ?_
          refine r_iadd dX4_slot_83 ?_
          refine m_puti hb hinX4_slot 28 (by decide) rfl dX4_slot_84 fwX4_slot_153 rfl rfl rfl ?_
          refine r_aload_n dX4_slot_87 1 rfl ?_
          refine m_geti (v := (st 28 0) + 1) hb hinX4_slot 28 (by decide) rfl dX4_slot_88 fwX4_slot_153 rfl rfl ?_
          exact kret _ _ _ _ _ _ (Nat.le_refl _) (Nat.le_refl _) dX4_slot_91 rfl (⟨by simp [mslot, q1, eo, q2, eu, c3, c4] <;> rfl, by simp [mslot, q1, eo, q2, eu, c3, c4] <;> rfl⟩)
        · skip
          refine r_iconst (v := 2) dX4_slot_52 (by decide) ?_
          refine r_goto (tgt := 57) dX4_slot_53 (by decide) ?_
          refine r_callVi (nn := 1) (As := [.int 2]) (st := []) dX4_slot_57 (tX4_refused hb st h0 2) gX4_slot_X4_refused rfl (by decide +kernel) ⟨Nat.le_of_ble_eq_true rfl, Nat.le_of_ble_eq_true rfl⟩ ⟨rfl, rfl⟩ (ov_obj hb _ _) rfl rfl (Nat.le_of_ble_eq_true rfl) ⟨Nat.le_of_ble_eq_true rfl, Nat.le_of_ble_eq_true rfl⟩ rfl (fun r hh hp => ?_)
          obtain ⟨hr9, rfl⟩ := hp
          rw [show (if (2 : Int32) = 0 then (0 : Int32) else 1) = 1 from by decide] at hr9
          subst hr9
          refine r_if_eq (tgt := 65) dX4_slot_60 (by decide) (fun z => absurd z (by decide)) (fun _ => ?_)
          refine r_iconst (v := 0) dX4_slot_63 (by decide) ?_
          exact kret _ _ _ _ _ _ (Nat.le_refl _) (Nat.le_refl _) dX4_slot_64 rfl (⟨by simp [mslot, q1, eo, q2, eu, c3, c4] <;> rfl, by simp [mslot, q1, eo, q2, eu, c3, c4] <;> rfl⟩)
    · skip
      refine r_if_eq (tgt := 18) dX4_slot_11 (by decide) (fun _ => ?_) (fun z => absurd z (by decide))
      refine r_iconst (v := 0) dX4_slot_18 (by decide) ?_
      refine r_istore_n (lo' := [(3, .int 0), (0, .ref (b 29)), (1, .int (nI o)), (2, .int y)]) dX4_slot_19 (by decide) rfl ?_
      refine r_aload_n dX4_slot_20 1 rfl ?_
      refine r_iload_n dX4_slot_21 0 rfl ?_
      refine r_if_ne (tgt := 29) dX4_slot_22 (by decide) (fun z => absurd z (by decide)) (fun _ => ?_)
      refine r_iconst (v := 1) dX4_slot_25 (by decide) ?_
      refine r_goto (tgt := 57) dX4_slot_26 (by decide) ?_
      refine r_callVi (nn := 1) (As := [.int 1]) (st := []) dX4_slot_57 (tX4_refused hb st h0 1) gX4_slot_X4_refused rfl (by decide +kernel) ⟨Nat.le_of_ble_eq_true rfl, Nat.le_of_ble_eq_true rfl⟩ ⟨rfl, rfl⟩ (ov_obj hb _ _) rfl rfl (Nat.le_of_ble_eq_true rfl) ⟨Nat.le_of_ble_eq_true rfl, Nat.le_of_ble_eq_true rfl⟩ rfl (fun r hh hp => ?_)
      obtain ⟨hr9, rfl⟩ := hp
      rw [show (if (1 : Int32) = 0 then (0 : Int32) else 1) = 1 from by decide] at hr9
      subst hr9
      refine r_if_eq (tgt := 65) dX4_slot_60 (by decide) (fun z => absurd z (by decide)) (fun _ => ?_)
      refine r_iconst (v := 0) dX4_slot_63 (by decide) ?_
      exact kret _ _ _ _ _ _ (Nat.le_refl _) (Nat.le_refl _) dX4_slot_64 rfl (⟨by simp [mslot, q1, eo, q2] <;> rfl, by simp [mslot, q1, eo, q2] <;> rfl⟩)
  · skip
    refine r_if_eq (tgt := 18) dX4_slot_4 (by decide) (fun _ => ?_) (fun z => absurd z (by decide))
    refine r_iconst (v := 0) dX4_slot_18 (by decide) ?_
    refine r_istore_n (lo' := [(3, .int 0), (0, .ref (b 29)), (1, .int x), (2, .int y)]) dX4_slot_19 (by decide) rfl ?_
    refine r_aload_n dX4_slot_20 1 rfl ?_
    refine r_iload_n dX4_slot_21 0 rfl ?_
    refine r_if_ne (tgt := 29) dX4_slot_22 (by decide) (fun z => absurd z (by decide)) (fun _ => ?_)
    refine r_iconst (v := 1) dX4_slot_25 (by decide) ?_
    refine r_goto (tgt := 57) dX4_slot_26 (by decide) ?_
    refine r_callVi (nn := 1) (As := [.int 1]) (st := []) dX4_slot_57 (tX4_refused hb st h0 1) gX4_slot_X4_refused rfl (by decide +kernel) ⟨Nat.le_of_ble_eq_true rfl, Nat.le_of_ble_eq_true rfl⟩ ⟨rfl, rfl⟩ (ov_obj hb _ _) rfl rfl (Nat.le_of_ble_eq_true rfl) ⟨Nat.le_of_ble_eq_true rfl, Nat.le_of_ble_eq_true rfl⟩ rfl (fun r hh hp => ?_)
    obtain ⟨hr9, rfl⟩ := hp
    rw [show (if (1 : Int32) = 0 then (0 : Int32) else 1) = 1 from by decide] at hr9
    subst hr9
    refine r_if_eq (tgt := 65) dX4_slot_60 (by decide) (fun z => absurd z (by decide)) (fun _ => ?_)
    refine r_iconst (v := 0) dX4_slot_63 (by decide) ?_
    exact kret _ _ _ _ _ _ (Nat.le_refl _) (Nat.le_refl _) dX4_slot_64 rfl (⟨by simp [mslot, q1] <;> rfl, by simp [mslot, q1] <;> rfl⟩)

abbrev rmX4_shown : Room := { frames := 1, cells := 0, slots := 0, locals := 22 }
theorem hinX4_shown : ∀ w ∈ u_ws RX4 TX4 29, w ∈ wsX4_shown := by decide +kernel
theorem fwX4_shown_50 : Cond.fieldLink RX4 50 "CastdeskModel" "fightIn" "[I" ∈ wsX4_shown := by decide +kernel
theorem fwX4_shown_53 : Cond.fieldLink RX4 53 "CastdeskModel" "cameraIn" "[I" ∈ wsX4_shown := by decide +kernel
theorem fwX4_shown_56 : Cond.fieldLink RX4 56 "CastdeskModel" "sponsorIn" "[I" ∈ wsX4_shown := by decide +kernel
theorem fwX4_shown_115 : Cond.fieldLink RX4 115 "CastdeskModel" "now" "I" ∈ wsX4_shown := by decide +kernel
set_option maxHeartbeats 4000000 in
set_option maxRecDepth 100000 in
theorem tX4_shown {E : kE} {b : Nat → Nat} (hb : binj b) (st : kM) (h0 : kH) (nF nC nE w : Nat) (hwf : mwf st nF nC nE w) (x y : Int32) : kCi E yX4_shown wsX4_shown rmX4_shown 0 0 [.ref (b 29), .int x, .int y] (ov E b st h0) (fun r h' => r = (mshown st x y).1 ∧ h' = ov E b (mshown st x y).2 h0) := by
  obtain ⟨hF, hF20, hC, hC6, hE, hE80, hW, hW3, hpl, hof, hon, hsl⟩ := id hwf
  refine kCi_of (rt := .int) (own := RX4) (cc := cX4_shown) (maxL := 3) (by decide) rfl rfl (Nat.le_of_ble_eq_true rfl) ?_
  intro X _ kret
  refine r_lo (lo' := [(0, .ref (b 29)), (1, .int x), (2, .int y)]) [0, 1, 2] rfl ?_
  refine r_aload_n dX4_shown_0 0 rfl ?_
  refine r_iload_n dX4_shown_1 1 rfl ?_
  refine r_iconst (v := 0) dX4_shown_2 (by decide) ?_
  refine r_aload_n dX4_shown_3 0 rfl ?_
  refine m_geti (v := st 1 0) hb hinX4_shown 1 (by decide) rfl dX4_shown_4 fwX4_shown_115 rfl rfl ?_
  refine r_iconst (v := 1) dX4_shown_7 (by decide) ?_
  refine r_isub dX4_shown_8 ?_
  refine r_callSi (nn := 3) (As := [.int x, .int 0, .int ((st 1 0) - 1)]) (st := [.ref (b 29)]) dX4_shown_9 (tX4_in _ x 0 ((st 1 0) - 1)) gX4_shown_X4_in rfl (by decide +kernel) ⟨Nat.le_of_ble_eq_true rfl, Nat.le_of_ble_eq_true rfl⟩ ⟨rfl, rfl⟩ rfl (Nat.le_of_ble_eq_true rfl) ⟨Nat.le_of_ble_eq_true rfl, Nat.le_of_ble_eq_true rfl⟩ rfl (fun r hh hp => ?_)
  obtain ⟨⟨q1, rfl⟩ | ⟨q1, rfl⟩, rfl⟩ := hp
  · skip
    obtain ⟨o, ho, rfl⟩ := inr_pred (m := w) (by omega) (by rw [← hW]; exact q1)
    have eo : (nI o).toNatClampNeg = o := nI_clamp (by omega)
    refine r_if_ne (tgt := 19) dX4_shown_12 (by decide) (fun _ => ?_) (fun z => absurd z (by decide))
    refine r_iload_n dX4_shown_19 2 rfl ?_
    refine r_iconst (v := 0) dX4_shown_20 (by decide) ?_
    refine r_iconst (v := 2) dX4_shown_21 (by decide) ?_
    refine r_callSi (nn := 3) (As := [.int y, .int 0, .int 2]) (st := [.ref (b 29)]) dX4_shown_22 (tX4_in _ y 0 2) gX4_shown_X4_in rfl (by decide +kernel) ⟨Nat.le_of_ble_eq_true rfl, Nat.le_of_ble_eq_true rfl⟩ ⟨rfl, rfl⟩ rfl (Nat.le_of_ble_eq_true rfl) ⟨Nat.le_of_ble_eq_true rfl, Nat.le_of_ble_eq_true rfl⟩ rfl (fun r hh hp => ?_)
    obtain ⟨⟨q3, rfl⟩ | ⟨q3, rfl⟩, rfl⟩ := hp
    · skip
      refine r_if_ne (tgt := 32) dX4_shown_25 (by decide) (fun _ => ?_) (fun z => absurd z (by decide))
      refine r_iconst (v := 0) dX4_shown_32 (by decide) ?_
      refine r_callVi (nn := 1) (As := [.int 0]) (st := []) dX4_shown_33 (tX4_refused hb st h0 0) gX4_shown_X4_refused rfl (by decide +kernel) ⟨Nat.le_of_ble_eq_true rfl, Nat.le_of_ble_eq_true rfl⟩ ⟨rfl, rfl⟩ (ov_obj hb _ _) rfl rfl (Nat.le_of_ble_eq_true rfl) ⟨Nat.le_of_ble_eq_true rfl, Nat.le_of_ble_eq_true rfl⟩ rfl (fun r hh hp => ?_)
      obtain ⟨hr9, rfl⟩ := hp
      rw [show (if (0 : Int32) = 0 then (0 : Int32) else 1) = 0 from by decide] at hr9
      subst hr9
      refine r_if_eq (tgt := 41) dX4_shown_36 (by decide) (fun _ => ?_) (fun z => absurd z (by decide))
      refine r_iload_n dX4_shown_41 2 rfl ?_
      refine r_if_ne (tgt := 54) dX4_shown_42 (by decide) (fun c4 => ?_) (fun c4 => ?_)
      · skip
        refine r_iload_n dX4_shown_54 2 rfl ?_
        refine r_iconst (v := 1) dX4_shown_55 (by decide) ?_
        refine r_icmp_ne (tgt := 68) dX4_shown_56 (by decide) (fun c5 => ?_) (fun c5 => ?_)
        · skip
          refine r_aload_n dX4_shown_68 0 rfl ?_
          refine m_geta hb hinX4_shown 19 (by decide) rfl dX4_shown_69 fwX4_shown_56 rfl ?_
          refine r_iload_n dX4_shown_72 1 rfl ?_
          refine m_ald (v := st 19 o) hb 19 o (by decide) dX4_shown_73 rfl (by show _ < 3000; omega) (by decide) rfl ?_
          exact kret _ _ _ _ _ _ (Nat.le_refl _) (Nat.le_refl _) dX4_shown_74 rfl (⟨by rw [mshown, if_pos q1] <;> simp [eo, q3, c4, c5] <;> rfl, by rw [mshown, if_pos q1] <;> simp [eo, q3, c4, c5] <;> rfl⟩)
        · skip
          refine r_aload_n dX4_shown_59 0 rfl ?_
          refine m_geta hb hinX4_shown 18 (by decide) rfl dX4_shown_60 fwX4_shown_53 rfl ?_
          refine r_iload_n dX4_shown_63 1 rfl ?_
          refine m_ald (v := st 18 o) hb 18 o (by decide) dX4_shown_64 rfl (by show _ < 3000; omega) (by decide) rfl ?_
          refine r_goto (tgt := 74) dX4_shown_65 (by decide) ?_
          exact kret _ _ _ _ _ _ (Nat.le_refl _) (Nat.le_refl _) dX4_shown_74 rfl (⟨by rw [mshown, if_pos q1] <;> simp [eo, q3, c4, c5] <;> rfl, by rw [mshown, if_pos q1] <;> simp [eo, q3, c4, c5] <;> rfl⟩)
      · skip
        refine r_aload_n dX4_shown_45 0 rfl ?_
        refine m_geta hb hinX4_shown 17 (by decide) rfl dX4_shown_46 fwX4_shown_50 rfl ?_
        refine r_iload_n dX4_shown_49 1 rfl ?_
        refine m_ald (v := st 17 o) hb 17 o (by decide) dX4_shown_50 rfl (by show _ < 3000; omega) (by decide) rfl ?_
        refine r_goto (tgt := 74) dX4_shown_51 (by decide) ?_
        exact kret _ _ _ _ _ _ (Nat.le_refl _) (Nat.le_refl _) dX4_shown_74 rfl (⟨by rw [mshown, if_pos q1] <;> simp [eo, q3, c4] <;> rfl, by rw [mshown, if_pos q1] <;> simp [eo, q3, c4] <;> rfl⟩)
    · skip
      refine r_if_ne (tgt := 32) dX4_shown_25 (by decide) (fun z => absurd z (by decide)) (fun _ => ?_)
      refine r_iconst (v := 2) dX4_shown_28 (by decide) ?_
      refine r_goto (tgt := 33) dX4_shown_29 (by decide) ?_
      refine r_callVi (nn := 1) (As := [.int 2]) (st := []) dX4_shown_33 (tX4_refused hb st h0 2) gX4_shown_X4_refused rfl (by decide +kernel) ⟨Nat.le_of_ble_eq_true rfl, Nat.le_of_ble_eq_true rfl⟩ ⟨rfl, rfl⟩ (ov_obj hb _ _) rfl rfl (Nat.le_of_ble_eq_true rfl) ⟨Nat.le_of_ble_eq_true rfl, Nat.le_of_ble_eq_true rfl⟩ rfl (fun r hh hp => ?_)
      obtain ⟨hr9, rfl⟩ := hp
      rw [show (if (2 : Int32) = 0 then (0 : Int32) else 1) = 1 from by decide] at hr9
      subst hr9
      refine r_if_eq (tgt := 41) dX4_shown_36 (by decide) (fun z => absurd z (by decide)) (fun _ => ?_)
      refine r_iconst (v := 0) dX4_shown_39 (by decide) ?_
      exact kret _ _ _ _ _ _ (Nat.le_refl _) (Nat.le_refl _) dX4_shown_40 rfl (⟨by rw [mshown, if_pos q1] <;> simp [eo, q3] <;> rfl, by rw [mshown, if_pos q1] <;> simp [eo, q3] <;> rfl⟩)
  · skip
    refine r_if_ne (tgt := 19) dX4_shown_12 (by decide) (fun z => absurd z (by decide)) (fun _ => ?_)
    refine r_iconst (v := 1) dX4_shown_15 (by decide) ?_
    refine r_goto (tgt := 33) dX4_shown_16 (by decide) ?_
    refine r_callVi (nn := 1) (As := [.int 1]) (st := []) dX4_shown_33 (tX4_refused hb st h0 1) gX4_shown_X4_refused rfl (by decide +kernel) ⟨Nat.le_of_ble_eq_true rfl, Nat.le_of_ble_eq_true rfl⟩ ⟨rfl, rfl⟩ (ov_obj hb _ _) rfl rfl (Nat.le_of_ble_eq_true rfl) ⟨Nat.le_of_ble_eq_true rfl, Nat.le_of_ble_eq_true rfl⟩ rfl (fun r hh hp => ?_)
    obtain ⟨hr9, rfl⟩ := hp
    rw [show (if (1 : Int32) = 0 then (0 : Int32) else 1) = 1 from by decide] at hr9
    subst hr9
    refine r_if_eq (tgt := 41) dX4_shown_36 (by decide) (fun z => absurd z (by decide)) (fun _ => ?_)
    refine r_iconst (v := 0) dX4_shown_39 (by decide) ?_
    exact kret _ _ _ _ _ _ (Nat.le_refl _) (Nat.le_refl _) dX4_shown_40 rfl (⟨by rw [mshown, if_neg (by rw [q1]; decide)], by rw [mshown, if_neg (by rw [q1]; decide)]⟩)

abbrev rmX4_cameraOf : Room := { frames := 1, cells := 0, slots := 0, locals := 22 }
theorem hinX4_cameraOf : ∀ w ∈ u_ws RX4 TX4 29, w ∈ wsX4_cameraOf := by decide +kernel
theorem fwX4_cameraOf_38 : Cond.fieldLink RX4 38 "CastdeskModel" "inRow" "[I" ∈ wsX4_cameraOf := by decide +kernel
theorem fwX4_cameraOf_41 : Cond.fieldLink RX4 41 "CastdeskModel" "off" "[I" ∈ wsX4_cameraOf := by decide +kernel
theorem fwX4_cameraOf_118 : Cond.fieldLink RX4 118 "CastdeskModel" "cameras" "I" ∈ wsX4_cameraOf := by decide +kernel
set_option maxHeartbeats 4000000 in
set_option maxRecDepth 100000 in
theorem tX4_cameraOf {E : kE} {b : Nat → Nat} (hb : binj b) (st : kM) (h0 : kH) (nF nC nE w : Nat) (hwf : mwf st nF nC nE w) (x y : Int32) : kCi E yX4_cameraOf wsX4_cameraOf rmX4_cameraOf 0 0 [.ref (b 29), .int x, .int y] (ov E b st h0) (fun r h' => r = (mcameraOf st x y).1 ∧ h' = ov E b (mcameraOf st x y).2 h0) := by
  obtain ⟨hF, hF20, hC, hC6, hE, hE80, hW, hW3, hpl, hof, hon, hsl⟩ := id hwf
  refine kCi_of (rt := .int) (own := RX4) (cc := cX4_cameraOf) (maxL := 3) (by decide) rfl rfl (Nat.le_of_ble_eq_true rfl) ?_
  intro X _ kret
  refine r_lo (lo' := [(0, .ref (b 29)), (1, .int x), (2, .int y)]) [0, 1, 2] rfl ?_
  refine r_aload_n dX4_cameraOf_0 0 rfl ?_
  refine r_iload_n dX4_cameraOf_1 1 rfl ?_
  refine r_iconst (v := 0) dX4_cameraOf_2 (by decide) ?_
  refine r_aload_n dX4_cameraOf_3 0 rfl ?_
  refine m_geti (v := st 10 0) hb hinX4_cameraOf 10 (by decide) rfl dX4_cameraOf_4 fwX4_cameraOf_118 rfl rfl ?_
  refine r_iconst (v := 1) dX4_cameraOf_7 (by decide) ?_
  refine r_isub dX4_cameraOf_8 ?_
  refine r_callSi (nn := 3) (As := [.int x, .int 0, .int ((st 10 0) - 1)]) (st := [.ref (b 29)]) dX4_cameraOf_9 (tX4_in _ x 0 ((st 10 0) - 1)) gX4_cameraOf_X4_in rfl (by decide +kernel) ⟨Nat.le_of_ble_eq_true rfl, Nat.le_of_ble_eq_true rfl⟩ ⟨rfl, rfl⟩ rfl (Nat.le_of_ble_eq_true rfl) ⟨Nat.le_of_ble_eq_true rfl, Nat.le_of_ble_eq_true rfl⟩ rfl (fun r hh hp => ?_)
  obtain ⟨⟨q1, rfl⟩ | ⟨q1, rfl⟩, rfl⟩ := hp
  · skip
    obtain ⟨o, ho, rfl⟩ := inr_pred (m := nC) (by omega) (by rw [← hC]; exact q1)
    have eo : (nI o).toNatClampNeg = o := nI_clamp (by omega)
    refine r_if_ne (tgt := 19) dX4_cameraOf_12 (by decide) (fun _ => ?_) (fun z => absurd z (by decide))
    refine r_iload_n dX4_cameraOf_19 2 rfl ?_
    refine r_iconst (v := 0) dX4_cameraOf_20 (by decide) ?_
    refine r_iconst (v := 1) dX4_cameraOf_21 (by decide) ?_
    refine r_callSi (nn := 3) (As := [.int y, .int 0, .int 1]) (st := [.ref (b 29)]) dX4_cameraOf_22 (tX4_in _ y 0 1) gX4_cameraOf_X4_in rfl (by decide +kernel) ⟨Nat.le_of_ble_eq_true rfl, Nat.le_of_ble_eq_true rfl⟩ ⟨rfl, rfl⟩ rfl (Nat.le_of_ble_eq_true rfl) ⟨Nat.le_of_ble_eq_true rfl, Nat.le_of_ble_eq_true rfl⟩ rfl (fun r hh hp => ?_)
    obtain ⟨⟨q3, rfl⟩ | ⟨q3, rfl⟩, rfl⟩ := hp
    · skip
      refine r_if_ne (tgt := 32) dX4_cameraOf_25 (by decide) (fun _ => ?_) (fun z => absurd z (by decide))
      refine r_iconst (v := 0) dX4_cameraOf_32 (by decide) ?_
      refine r_callVi (nn := 1) (As := [.int 0]) (st := []) dX4_cameraOf_33 (tX4_refused hb st h0 0) gX4_cameraOf_X4_refused rfl (by decide +kernel) ⟨Nat.le_of_ble_eq_true rfl, Nat.le_of_ble_eq_true rfl⟩ ⟨rfl, rfl⟩ (ov_obj hb _ _) rfl rfl (Nat.le_of_ble_eq_true rfl) ⟨Nat.le_of_ble_eq_true rfl, Nat.le_of_ble_eq_true rfl⟩ rfl (fun r hh hp => ?_)
      obtain ⟨hr9, rfl⟩ := hp
      rw [show (if (0 : Int32) = 0 then (0 : Int32) else 1) = 0 from by decide] at hr9
      subst hr9
      refine r_if_eq (tgt := 41) dX4_cameraOf_36 (by decide) (fun _ => ?_) (fun z => absurd z (by decide))
      refine r_iload_n dX4_cameraOf_41 2 rfl ?_
      refine r_if_ne (tgt := 54) dX4_cameraOf_42 (by decide) (fun c4 => ?_) (fun c4 => ?_)
      · skip
        refine r_aload_n dX4_cameraOf_54 0 rfl ?_
        refine m_geta hb hinX4_cameraOf 14 (by decide) rfl dX4_cameraOf_55 fwX4_cameraOf_41 rfl ?_
        refine r_iload_n dX4_cameraOf_58 1 rfl ?_
        refine m_ald (v := st 14 o) hb 14 o (by decide) dX4_cameraOf_59 rfl (by show _ < 6; omega) (by decide) rfl ?_
        exact kret _ _ _ _ _ _ (Nat.le_refl _) (Nat.le_refl _) dX4_cameraOf_60 rfl (⟨by rw [mcameraOf, if_pos q1] <;> simp [eo, q3, c4] <;> rfl, by rw [mcameraOf, if_pos q1] <;> simp [eo, q3, c4] <;> rfl⟩)
      · skip
        refine r_aload_n dX4_cameraOf_45 0 rfl ?_
        refine m_geta hb hinX4_cameraOf 13 (by decide) rfl dX4_cameraOf_46 fwX4_cameraOf_38 rfl ?_
        refine r_iload_n dX4_cameraOf_49 1 rfl ?_
        refine m_ald (v := st 13 o) hb 13 o (by decide) dX4_cameraOf_50 rfl (by show _ < 6; omega) (by decide) rfl ?_
        refine r_goto (tgt := 60) dX4_cameraOf_51 (by decide) ?_
        exact kret _ _ _ _ _ _ (Nat.le_refl _) (Nat.le_refl _) dX4_cameraOf_60 rfl (⟨by rw [mcameraOf, if_pos q1] <;> simp [eo, q3, c4] <;> rfl, by rw [mcameraOf, if_pos q1] <;> simp [eo, q3, c4] <;> rfl⟩)
    · skip
      refine r_if_ne (tgt := 32) dX4_cameraOf_25 (by decide) (fun z => absurd z (by decide)) (fun _ => ?_)
      refine r_iconst (v := 2) dX4_cameraOf_28 (by decide) ?_
      refine r_goto (tgt := 33) dX4_cameraOf_29 (by decide) ?_
      refine r_callVi (nn := 1) (As := [.int 2]) (st := []) dX4_cameraOf_33 (tX4_refused hb st h0 2) gX4_cameraOf_X4_refused rfl (by decide +kernel) ⟨Nat.le_of_ble_eq_true rfl, Nat.le_of_ble_eq_true rfl⟩ ⟨rfl, rfl⟩ (ov_obj hb _ _) rfl rfl (Nat.le_of_ble_eq_true rfl) ⟨Nat.le_of_ble_eq_true rfl, Nat.le_of_ble_eq_true rfl⟩ rfl (fun r hh hp => ?_)
      obtain ⟨hr9, rfl⟩ := hp
      rw [show (if (2 : Int32) = 0 then (0 : Int32) else 1) = 1 from by decide] at hr9
      subst hr9
      refine r_if_eq (tgt := 41) dX4_cameraOf_36 (by decide) (fun z => absurd z (by decide)) (fun _ => ?_)
      refine r_iconst (v := 0) dX4_cameraOf_39 (by decide) ?_
      exact kret _ _ _ _ _ _ (Nat.le_refl _) (Nat.le_refl _) dX4_cameraOf_40 rfl (⟨by rw [mcameraOf, if_pos q1] <;> simp [eo, q3] <;> rfl, by rw [mcameraOf, if_pos q1] <;> simp [eo, q3] <;> rfl⟩)
  · skip
    refine r_if_ne (tgt := 19) dX4_cameraOf_12 (by decide) (fun z => absurd z (by decide)) (fun _ => ?_)
    refine r_iconst (v := 1) dX4_cameraOf_15 (by decide) ?_
    refine r_goto (tgt := 33) dX4_cameraOf_16 (by decide) ?_
    refine r_callVi (nn := 1) (As := [.int 1]) (st := []) dX4_cameraOf_33 (tX4_refused hb st h0 1) gX4_cameraOf_X4_refused rfl (by decide +kernel) ⟨Nat.le_of_ble_eq_true rfl, Nat.le_of_ble_eq_true rfl⟩ ⟨rfl, rfl⟩ (ov_obj hb _ _) rfl rfl (Nat.le_of_ble_eq_true rfl) ⟨Nat.le_of_ble_eq_true rfl, Nat.le_of_ble_eq_true rfl⟩ rfl (fun r hh hp => ?_)
    obtain ⟨hr9, rfl⟩ := hp
    rw [show (if (1 : Int32) = 0 then (0 : Int32) else 1) = 1 from by decide] at hr9
    subst hr9
    refine r_if_eq (tgt := 41) dX4_cameraOf_36 (by decide) (fun z => absurd z (by decide)) (fun _ => ?_)
    refine r_iconst (v := 0) dX4_cameraOf_39 (by decide) ?_
    exact kret _ _ _ _ _ _ (Nat.le_refl _) (Nat.le_refl _) dX4_cameraOf_40 rfl (⟨by rw [mcameraOf, if_neg (by rw [q1]; decide)], by rw [mcameraOf, if_neg (by rw [q1]; decide)]⟩)

abbrev rmX4_points : Room := { frames := 2, cells := 0, slots := 0, locals := 43 }
set_option maxHeartbeats 4000000 in
set_option maxRecDepth 100000 in
theorem tX4_points {E : kE} {b : Nat → Nat} (hb : binj b) (st : kM) (h0 : kH) (nF nC nE w : Nat) (hwf : mwf st nF nC nE w) (x y : Int32) : kCi E yX4_points wsX4_points rmX4_points 0 0 [.ref (b 29), .int x, .int y] (ov E b st h0) (fun r h' => r = (mpoints st nE x y 3000).1 ∧ h' = ov E b (mpoints st nE x y 3000).2 h0) := by
  obtain ⟨hF, hF20, hC, hC6, hE, hE80, hW, hW3, hpl, hof, hon, hsl⟩ := id hwf
  refine kCi_of (rt := .int) (own := RX4) (cc := cX4_points) (maxL := 3) (by decide) rfl rfl (Nat.le_of_ble_eq_true rfl) ?_
  intro X _ kret
  refine r_lo (lo' := [(0, .ref (b 29)), (1, .int x), (2, .int y)]) [0, 1, 2] rfl ?_
  refine r_aload_n dX4_points_0 0 rfl ?_
  refine r_aload_n dX4_points_1 0 rfl ?_
  refine r_iload_n dX4_points_2 1 rfl ?_
  refine r_callVi (nn := 1) (As := [.int x]) (st := [.ref (b 29)]) dX4_points_3 (tX4_isFight hb st h0 x) gX4_points_X4_isFight rfl (by decide +kernel) ⟨Nat.le_of_ble_eq_true rfl, Nat.le_of_ble_eq_true rfl⟩ ⟨rfl, rfl⟩ (ov_obj hb _ _) rfl rfl (Nat.le_of_ble_eq_true rfl) ⟨Nat.le_of_ble_eq_true rfl, Nat.le_of_ble_eq_true rfl⟩ rfl (fun r hh hp => ?_)
  obtain ⟨⟨q1, rfl⟩ | ⟨q1, rfl⟩, rfl⟩ := hp
  · skip
    obtain ⟨o, ho, rfl⟩ := inr_pred (m := nF) (by omega) (by rw [← hF]; exact q1)
    have eo : (nI o).toNatClampNeg = o := nI_clamp (by omega)
    refine r_if_eq (tgt := 20) dX4_points_6 (by decide) (fun z => absurd z (by decide)) (fun _ => ?_)
    refine r_iload_n dX4_points_9 2 rfl ?_
    refine r_callSi (nn := 1) (As := [.int y]) (st := [.ref (b 29)]) dX4_points_10 (tX4_isPlayer _ y) gX4_points_X4_isPlayer rfl (by decide +kernel) ⟨Nat.le_of_ble_eq_true rfl, Nat.le_of_ble_eq_true rfl⟩ ⟨rfl, rfl⟩ rfl (Nat.le_of_ble_eq_true rfl) ⟨Nat.le_of_ble_eq_true rfl, Nat.le_of_ble_eq_true rfl⟩ rfl (fun r hh hp => ?_)
    obtain ⟨⟨q2, rfl⟩ | ⟨q2, rfl⟩, rfl⟩ := hp
    · skip
      refine r_if_eq (tgt := 20) dX4_points_13 (by decide) (fun z => absurd z (by decide)) (fun _ => ?_)
      refine r_iconst (v := 0) dX4_points_16 (by decide) ?_
      refine r_goto (tgt := 21) dX4_points_17 (by decide) ?_
      refine r_callVi (nn := 1) (As := [.int 0]) (st := []) dX4_points_21 (tX4_refused hb st h0 0) gX4_points_X4_refused rfl (by decide +kernel) ⟨Nat.le_of_ble_eq_true rfl, Nat.le_of_ble_eq_true rfl⟩ ⟨rfl, rfl⟩ (ov_obj hb _ _) rfl rfl (Nat.le_of_ble_eq_true rfl) ⟨Nat.le_of_ble_eq_true rfl, Nat.le_of_ble_eq_true rfl⟩ rfl (fun r hh hp => ?_)
      obtain ⟨hr9, rfl⟩ := hp
      rw [show (if (0 : Int32) = 0 then (0 : Int32) else 1) = 0 from by decide] at hr9
      subst hr9
      refine r_if_eq (tgt := 31) dX4_points_24 (by decide) (fun _ => ?_) (fun z => absurd z (by decide))
      refine r_aload_n dX4_points_31 0 rfl ?_
      refine r_iload_n dX4_points_32 1 rfl ?_
      refine r_iload_n dX4_points_33 2 rfl ?_
      refine r_sipush (v := 3000) dX4_points_34 (by decide) ?_
      refine r_callVi (nn := 3) (As := [.int (nI o), .int y, .int 3000]) (st := []) dX4_points_37 (tX4_pointsOf hb (ms st 0 0) h0 nF nC nE w hwf (nI o) y 3000) gX4_points_X4_pointsOf rfl (by decide +kernel) ⟨Nat.le_of_ble_eq_true rfl, Nat.le_of_ble_eq_true rfl⟩ ⟨rfl, rfl⟩ (ov_obj hb _ _) rfl rfl (Nat.le_of_ble_eq_true rfl) ⟨Nat.le_of_ble_eq_true rfl, Nat.le_of_ble_eq_true rfl⟩ rfl (fun r hh hp => ?_)
      obtain ⟨rfl, rfl⟩ := hp
      exact kret _ _ _ _ _ _ (Nat.le_refl _) (Nat.le_refl _) dX4_points_40 rfl (⟨by simp [mpoints, q1, eo, q2] <;> rfl, by simp [mpoints, q1, eo, q2] <;> rfl⟩)
    · skip
      refine r_if_eq (tgt := 20) dX4_points_13 (by decide) (fun _ => ?_) (fun z => absurd z (by decide))
      refine r_iconst (v := 1) dX4_points_20 (by decide) ?_
      refine r_callVi (nn := 1) (As := [.int 1]) (st := []) dX4_points_21 (tX4_refused hb st h0 1) gX4_points_X4_refused rfl (by decide +kernel) ⟨Nat.le_of_ble_eq_true rfl, Nat.le_of_ble_eq_true rfl⟩ ⟨rfl, rfl⟩ (ov_obj hb _ _) rfl rfl (Nat.le_of_ble_eq_true rfl) ⟨Nat.le_of_ble_eq_true rfl, Nat.le_of_ble_eq_true rfl⟩ rfl (fun r hh hp => ?_)
      obtain ⟨hr9, rfl⟩ := hp
      rw [show (if (1 : Int32) = 0 then (0 : Int32) else 1) = 1 from by decide] at hr9
      subst hr9
      refine r_if_eq (tgt := 31) dX4_points_24 (by decide) (fun z => absurd z (by decide)) (fun _ => ?_)
      refine r_iconst (v := 0) dX4_points_27 (by decide) ?_
      refine r_goto (tgt := 40) dX4_points_28 (by decide) ?_
      exact kret _ _ _ _ _ _ (Nat.le_refl _) (Nat.le_refl _) dX4_points_40 rfl (⟨by simp [mpoints, q1, eo, q2] <;> rfl, by simp [mpoints, q1, eo, q2] <;> rfl⟩)
  · skip
    refine r_if_eq (tgt := 20) dX4_points_6 (by decide) (fun _ => ?_) (fun z => absurd z (by decide))
    refine r_iconst (v := 1) dX4_points_20 (by decide) ?_
    refine r_callVi (nn := 1) (As := [.int 1]) (st := []) dX4_points_21 (tX4_refused hb st h0 1) gX4_points_X4_refused rfl (by decide +kernel) ⟨Nat.le_of_ble_eq_true rfl, Nat.le_of_ble_eq_true rfl⟩ ⟨rfl, rfl⟩ (ov_obj hb _ _) rfl rfl (Nat.le_of_ble_eq_true rfl) ⟨Nat.le_of_ble_eq_true rfl, Nat.le_of_ble_eq_true rfl⟩ rfl (fun r hh hp => ?_)
    obtain ⟨hr9, rfl⟩ := hp
    rw [show (if (1 : Int32) = 0 then (0 : Int32) else 1) = 1 from by decide] at hr9
    subst hr9
    refine r_if_eq (tgt := 31) dX4_points_24 (by decide) (fun z => absurd z (by decide)) (fun _ => ?_)
    refine r_iconst (v := 0) dX4_points_27 (by decide) ?_
    refine r_goto (tgt := 40) dX4_points_28 (by decide) ?_
    exact kret _ _ _ _ _ _ (Nat.le_refl _) (Nat.le_refl _) dX4_points_40 rfl (⟨by simp [mpoints, q1] <;> rfl, by simp [mpoints, q1] <;> rfl⟩)

abbrev rmX4_overlay : Room := { frames := 2, cells := 0, slots := 0, locals := 43 }
theorem hinX4_overlay : ∀ w ∈ u_ws RX4 TX4 29, w ∈ wsX4_overlay := by decide +kernel
theorem fwX4_overlay_13 : Cond.fieldLink RX4 13 "CastdeskModel" "seen" "I" ∈ wsX4_overlay := by decide +kernel
set_option maxHeartbeats 4000000 in
set_option maxRecDepth 100000 in
theorem tX4_overlay {E : kE} {b : Nat → Nat} (hb : binj b) (st : kM) (h0 : kH) (nF nC nE w : Nat) (hwf : mwf st nF nC nE w) (x y : Int32) : kCi E yX4_overlay wsX4_overlay rmX4_overlay 0 0 [.ref (b 29), .int x, .int y] (ov E b st h0) (fun r h' => r = (mpoints st nE x y (st 3 0)).1 ∧ h' = ov E b (mpoints st nE x y (st 3 0)).2 h0) := by
  obtain ⟨hF, hF20, hC, hC6, hE, hE80, hW, hW3, hpl, hof, hon, hsl⟩ := id hwf
  refine kCi_of (rt := .int) (own := RX4) (cc := cX4_overlay) (maxL := 3) (by decide) rfl rfl (Nat.le_of_ble_eq_true rfl) ?_
  intro X _ kret
  refine r_lo (lo' := [(0, .ref (b 29)), (1, .int x), (2, .int y)]) [0, 1, 2] rfl ?_
  refine r_aload_n dX4_overlay_0 0 rfl ?_
  refine r_aload_n dX4_overlay_1 0 rfl ?_
  refine r_iload_n dX4_overlay_2 1 rfl ?_
  refine r_callVi (nn := 1) (As := [.int x]) (st := [.ref (b 29)]) dX4_overlay_3 (tX4_isFight hb st h0 x) gX4_overlay_X4_isFight rfl (by decide +kernel) ⟨Nat.le_of_ble_eq_true rfl, Nat.le_of_ble_eq_true rfl⟩ ⟨rfl, rfl⟩ (ov_obj hb _ _) rfl rfl (Nat.le_of_ble_eq_true rfl) ⟨Nat.le_of_ble_eq_true rfl, Nat.le_of_ble_eq_true rfl⟩ rfl (fun r hh hp => ?_)
  obtain ⟨⟨q1, rfl⟩ | ⟨q1, rfl⟩, rfl⟩ := hp
  · skip
    obtain ⟨o, ho, rfl⟩ := inr_pred (m := nF) (by omega) (by rw [← hF]; exact q1)
    have eo : (nI o).toNatClampNeg = o := nI_clamp (by omega)
    refine r_if_eq (tgt := 20) dX4_overlay_6 (by decide) (fun z => absurd z (by decide)) (fun _ => ?_)
    refine r_iload_n dX4_overlay_9 2 rfl ?_
    refine r_callSi (nn := 1) (As := [.int y]) (st := [.ref (b 29)]) dX4_overlay_10 (tX4_isPlayer _ y) gX4_overlay_X4_isPlayer rfl (by decide +kernel) ⟨Nat.le_of_ble_eq_true rfl, Nat.le_of_ble_eq_true rfl⟩ ⟨rfl, rfl⟩ rfl (Nat.le_of_ble_eq_true rfl) ⟨Nat.le_of_ble_eq_true rfl, Nat.le_of_ble_eq_true rfl⟩ rfl (fun r hh hp => ?_)
    obtain ⟨⟨q2, rfl⟩ | ⟨q2, rfl⟩, rfl⟩ := hp
    · skip
      refine r_if_eq (tgt := 20) dX4_overlay_13 (by decide) (fun z => absurd z (by decide)) (fun _ => ?_)
      refine r_iconst (v := 0) dX4_overlay_16 (by decide) ?_
      refine r_goto (tgt := 21) dX4_overlay_17 (by decide) ?_
      refine r_callVi (nn := 1) (As := [.int 0]) (st := []) dX4_overlay_21 (tX4_refused hb st h0 0) gX4_overlay_X4_refused rfl (by decide +kernel) ⟨Nat.le_of_ble_eq_true rfl, Nat.le_of_ble_eq_true rfl⟩ ⟨rfl, rfl⟩ (ov_obj hb _ _) rfl rfl (Nat.le_of_ble_eq_true rfl) ⟨Nat.le_of_ble_eq_true rfl, Nat.le_of_ble_eq_true rfl⟩ rfl (fun r hh hp => ?_)
      obtain ⟨hr9, rfl⟩ := hp
      rw [show (if (0 : Int32) = 0 then (0 : Int32) else 1) = 0 from by decide] at hr9
      subst hr9
      refine r_if_eq (tgt := 31) dX4_overlay_24 (by decide) (fun _ => ?_) (fun z => absurd z (by decide))
      refine r_aload_n dX4_overlay_31 0 rfl ?_
      refine r_iload_n dX4_overlay_32 1 rfl ?_
      refine r_iload_n dX4_overlay_33 2 rfl ?_
      refine r_aload_n dX4_overlay_34 0 rfl ?_
      refine m_geti (v := st 3 0) hb hinX4_overlay 3 (by decide) rfl dX4_overlay_35 fwX4_overlay_13 rfl rfl ?_
      refine r_callVi (nn := 3) (As := [.int (nI o), .int y, .int (st 3 0)]) (st := []) dX4_overlay_38 (tX4_pointsOf hb (ms st 0 0) h0 nF nC nE w hwf (nI o) y (st 3 0)) gX4_overlay_X4_pointsOf rfl (by decide +kernel) ⟨Nat.le_of_ble_eq_true rfl, Nat.le_of_ble_eq_true rfl⟩ ⟨rfl, rfl⟩ (ov_obj hb _ _) rfl rfl (Nat.le_of_ble_eq_true rfl) ⟨Nat.le_of_ble_eq_true rfl, Nat.le_of_ble_eq_true rfl⟩ rfl (fun r hh hp => ?_)
      obtain ⟨rfl, rfl⟩ := hp
      exact kret _ _ _ _ _ _ (Nat.le_refl _) (Nat.le_refl _) dX4_overlay_41 rfl (⟨by simp [mpoints, q1, eo, q2] <;> rfl, by simp [mpoints, q1, eo, q2] <;> rfl⟩)
    · skip
      refine r_if_eq (tgt := 20) dX4_overlay_13 (by decide) (fun _ => ?_) (fun z => absurd z (by decide))
      refine r_iconst (v := 1) dX4_overlay_20 (by decide) ?_
      refine r_callVi (nn := 1) (As := [.int 1]) (st := []) dX4_overlay_21 (tX4_refused hb st h0 1) gX4_overlay_X4_refused rfl (by decide +kernel) ⟨Nat.le_of_ble_eq_true rfl, Nat.le_of_ble_eq_true rfl⟩ ⟨rfl, rfl⟩ (ov_obj hb _ _) rfl rfl (Nat.le_of_ble_eq_true rfl) ⟨Nat.le_of_ble_eq_true rfl, Nat.le_of_ble_eq_true rfl⟩ rfl (fun r hh hp => ?_)
      obtain ⟨hr9, rfl⟩ := hp
      rw [show (if (1 : Int32) = 0 then (0 : Int32) else 1) = 1 from by decide] at hr9
      subst hr9
      refine r_if_eq (tgt := 31) dX4_overlay_24 (by decide) (fun z => absurd z (by decide)) (fun _ => ?_)
      refine r_iconst (v := 0) dX4_overlay_27 (by decide) ?_
      refine r_goto (tgt := 41) dX4_overlay_28 (by decide) ?_
      exact kret _ _ _ _ _ _ (Nat.le_refl _) (Nat.le_refl _) dX4_overlay_41 rfl (⟨by simp [mpoints, q1, eo, q2] <;> rfl, by simp [mpoints, q1, eo, q2] <;> rfl⟩)
  · skip
    refine r_if_eq (tgt := 20) dX4_overlay_6 (by decide) (fun _ => ?_) (fun z => absurd z (by decide))
    refine r_iconst (v := 1) dX4_overlay_20 (by decide) ?_
    refine r_callVi (nn := 1) (As := [.int 1]) (st := []) dX4_overlay_21 (tX4_refused hb st h0 1) gX4_overlay_X4_refused rfl (by decide +kernel) ⟨Nat.le_of_ble_eq_true rfl, Nat.le_of_ble_eq_true rfl⟩ ⟨rfl, rfl⟩ (ov_obj hb _ _) rfl rfl (Nat.le_of_ble_eq_true rfl) ⟨Nat.le_of_ble_eq_true rfl, Nat.le_of_ble_eq_true rfl⟩ rfl (fun r hh hp => ?_)
    obtain ⟨hr9, rfl⟩ := hp
    rw [show (if (1 : Int32) = 0 then (0 : Int32) else 1) = 1 from by decide] at hr9
    subst hr9
    refine r_if_eq (tgt := 31) dX4_overlay_24 (by decide) (fun z => absurd z (by decide)) (fun _ => ?_)
    refine r_iconst (v := 0) dX4_overlay_27 (by decide) ?_
    refine r_goto (tgt := 41) dX4_overlay_28 (by decide) ?_
    exact kret _ _ _ _ _ _ (Nat.le_refl _) (Nat.le_refl _) dX4_overlay_41 rfl (⟨by simp [mpoints, q1] <;> rfl, by simp [mpoints, q1] <;> rfl⟩)

