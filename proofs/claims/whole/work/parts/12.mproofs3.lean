abbrev rmX4_hottest : Room := { frames := 1, cells := 0, slots := 0, locals := 25 }
theorem hinX4_hottest : ∀ w ∈ u_ws RX4 TX4 29, w ∈ wsX4_hottest := by decide +kernel
theorem fwX4_hottest_20 : Cond.fieldLink RX4 20 "CastdeskModel" "state" "[I" ∈ wsX4_hottest := by decide +kernel
theorem fwX4_hottest_47 : Cond.fieldLink RX4 47 "CastdeskModel" "before" "I" ∈ wsX4_hottest := by decide +kernel
theorem fwX4_hottest_88 : Cond.fieldLink RX4 88 "CastdeskModel" "fights" "I" ∈ wsX4_hottest := by decide +kernel
set_option maxHeartbeats 4000000 in
set_option maxRecDepth 100000 in
theorem lX4_hottest_4 {E : kE} {b : Nat → Nat} (hb : binj b) {st : kM} {h0 : kH} (nF nC nE w : Nat) (hwf : mwf st nF nC nE w)  {X : kX} (hx : ∀ v : Int32, v = hotR st nE nF → V E X rmX4_hottest cX4_hottest 4 wsX4_hottest RX4 0 0 (ov E b st h0) [(2, .int (nI nF)), (1, .int v), (0, .ref (b 29))] 82 [])
    : ∀ (d i : Nat) (v : Int32), nF < i + d → i ≤ nF → v = hotR st nE i → V E X rmX4_hottest cX4_hottest 4 wsX4_hottest RX4 0 0 (ov E b st h0) [(2, .int (nI i)), (1, .int v), (0, .ref (b 29))] 4 [] := by
  obtain ⟨hF, hF20, hC, hC6, hE, hE80, hW, hW3, hpl, hof, hon, hsl⟩ := id hwf
  intro d
  induction d with
  | zero =>
    intro i v h1 h2
    exact absurd h1 (by omega)
  | succ d ih =>
    intro i v h1 h2 e1
    refine r_iload_n dX4_hottest_4 0 rfl ?_
    refine r_aload_n dX4_hottest_5 2 rfl ?_
    refine m_geti (v := st 5 0) hb hinX4_hottest 5 (by decide) rfl dX4_hottest_6 fwX4_hottest_88 rfl rfl ?_
    refine rn_icmp_ge (a := i) (c := nF) (tgt := 82) dX4_hottest_9 (by decide) rfl hF (by omega) (by omega) (fun c1 => ?_) (fun c1 => ?_)
    · skip
      have hNi : nF = i := by omega
      subst hNi
      exact hx v e1
    · skip
      refine r_aload_n dX4_hottest_12 2 rfl ?_
      refine m_geta hb hinX4_hottest 6 (by decide) rfl dX4_hottest_13 fwX4_hottest_20 rfl ?_
      refine r_iload_n dX4_hottest_16 0 rfl ?_
      refine m_ald (v := st 6 i) hb 6 i (by decide) dX4_hottest_17 rfl (by show _ < 20; omega) (by decide) rfl ?_
      refine r_if_ne (tgt := 76) dX4_hottest_18 (by decide) (fun c2 => ?_) (fun c2 => ?_)
      · skip
        refine r_iinc (v := nI (i + 1)) (lo' := [(2, .int (nI (i + 1))), (1, .int v), (0, .ref (b 29))]) dX4_hottest_76 0 rfl (nI_1 i) (by decide) rfl ?_
        refine r_goto (tgt := 4) dX4_hottest_79 (by decide) ?_
        refine r_lo (lo' := [(2, .int (nI (i + 1))), (1, .int v), (0, .ref (b 29))]) [0, 1, 2] rfl ?_
        exact ih (i + 1) v (by omega) (by omega) (by first | (simp only [hotR, ← e1, if_neg c2, if_true]; done) | (simp only [hotR, ← e1]; simp [c1, c2]))
      · skip
        refine r_iload_n dX4_hottest_21 1 rfl ?_
        refine r_iconst (v := (-1)) dX4_hottest_22 (by decide) ?_
        refine r_icmp_eq (tgt := 60) dX4_hottest_23 (by decide) (fun c3 => ?_) (fun c3 => ?_)
        · skip
          refine r_iconst (v := 1) dX4_hottest_60 (by decide) ?_
          refine r_goto (tgt := 65) dX4_hottest_61 (by decide) ?_
          refine r_istore_n (lo' := [(3, .int 1), (2, .int (nI i)), (1, .int v), (0, .ref (b 29))]) dX4_hottest_65 (by decide) rfl ?_
          refine r_iload_n dX4_hottest_66 0 rfl ?_
          refine r_if_eq (tgt := 74) dX4_hottest_67 (by decide) (fun z => absurd z (by decide)) (fun _ => ?_)
          refine r_iload_n dX4_hottest_70 1 rfl ?_
          refine r_goto (tgt := 75) dX4_hottest_71 (by decide) ?_
          refine r_istore_n (lo' := [(1, .int (nI i)), (3, .int 1), (2, .int (nI i)), (0, .ref (b 29))]) dX4_hottest_75 (by decide) rfl ?_
          refine r_iinc (v := nI (i + 1)) (lo' := [(2, .int (nI (i + 1))), (1, .int (nI i)), (3, .int 1), (0, .ref (b 29))]) dX4_hottest_76 2 rfl (nI_1 i) (by decide) rfl ?_
          refine r_goto (tgt := 4) dX4_hottest_79 (by decide) ?_
          refine r_lo (lo' := [(2, .int (nI (i + 1))), (1, .int (nI i)), (0, .ref (b 29))]) [0, 1, 3] rfl ?_
          exact ih (i + 1) (nI i) (by omega) (by omega) (by first | (simp only [hotR, ← e1, if_pos c2, if_pos c3, if_true]; done) | (simp only [hotR, ← e1]; simp [c1, c2, c3]))
        · skip
          refine r_aload_n dX4_hottest_26 2 rfl ?_
          refine r_iload_n dX4_hottest_27 0 rfl ?_
          refine r_callVi (nn := 1) (As := [.int (nI i)]) (st := []) dX4_hottest_28 (tX4_heat hb st h0 nF nC nE w hwf (nI i) ⟨i, by omega, rfl⟩) gX4_hottest_X4_heat rfl (by decide +kernel) ⟨Nat.le_of_ble_eq_true rfl, Nat.le_of_ble_eq_true rfl⟩ ⟨rfl, rfl⟩ (ov_obj hb _ _) rfl rfl (Nat.le_of_ble_eq_true rfl) ⟨Nat.le_of_ble_eq_true rfl, Nat.le_of_ble_eq_true rfl⟩ rfl (fun r hh hp => ?_)
          obtain ⟨rfl, rfl⟩ := hp
          refine r_aload_n dX4_hottest_31 2 rfl ?_
          refine r_iload_n dX4_hottest_32 1 rfl ?_
          refine r_callVi (nn := 1) (As := [.int v]) (st := [.int (mheat st nE (nI i))]) dX4_hottest_33 (tX4_heat hb st h0 nF nC nE w hwf v (hot_in e1 h2 (by assumption))) gX4_hottest_X4_heat rfl (by decide +kernel) ⟨Nat.le_of_ble_eq_true rfl, Nat.le_of_ble_eq_true rfl⟩ ⟨rfl, rfl⟩ (ov_obj hb _ _) rfl rfl (Nat.le_of_ble_eq_true rfl) ⟨Nat.le_of_ble_eq_true rfl, Nat.le_of_ble_eq_true rfl⟩ rfl (fun r hh hp => ?_)
          obtain ⟨rfl, rfl⟩ := hp
          refine r_icmp_gt (tgt := 60) dX4_hottest_36 (by decide) (fun c4 => ?_) (fun c4 => ?_)
          · skip
            refine r_iconst (v := 1) dX4_hottest_60 (by decide) ?_
            refine r_goto (tgt := 65) dX4_hottest_61 (by decide) ?_
            refine r_istore_n (lo' := [(3, .int 1), (2, .int (nI i)), (1, .int v), (0, .ref (b 29))]) dX4_hottest_65 (by decide) rfl ?_
            refine r_iload_n dX4_hottest_66 0 rfl ?_
            refine r_if_eq (tgt := 74) dX4_hottest_67 (by decide) (fun z => absurd z (by decide)) (fun _ => ?_)
            refine r_iload_n dX4_hottest_70 1 rfl ?_
            refine r_goto (tgt := 75) dX4_hottest_71 (by decide) ?_
            refine r_istore_n (lo' := [(1, .int (nI i)), (3, .int 1), (2, .int (nI i)), (0, .ref (b 29))]) dX4_hottest_75 (by decide) rfl ?_
            refine r_iinc (v := nI (i + 1)) (lo' := [(2, .int (nI (i + 1))), (1, .int (nI i)), (3, .int 1), (0, .ref (b 29))]) dX4_hottest_76 2 rfl (nI_1 i) (by decide) rfl ?_
            refine r_goto (tgt := 4) dX4_hottest_79 (by decide) ?_
            refine r_lo (lo' := [(2, .int (nI (i + 1))), (1, .int (nI i)), (0, .ref (b 29))]) [0, 1, 3] rfl ?_
            exact ih (i + 1) (nI i) (by omega) (by omega) (by first | (simp only [hotR, ← e1, if_pos c2, if_neg c3, if_pos c4, if_true]; done) | (simp only [hotR, ← e1]; simp [c1, c2, c3, c4]))
          · skip
            refine r_aload_n dX4_hottest_39 2 rfl ?_
            refine r_iload_n dX4_hottest_40 0 rfl ?_
            refine r_callVi (nn := 1) (As := [.int (nI i)]) (st := []) dX4_hottest_41 (tX4_heat hb st h0 nF nC nE w hwf (nI i) ⟨i, by omega, rfl⟩) gX4_hottest_X4_heat rfl (by decide +kernel) ⟨Nat.le_of_ble_eq_true rfl, Nat.le_of_ble_eq_true rfl⟩ ⟨rfl, rfl⟩ (ov_obj hb _ _) rfl rfl (Nat.le_of_ble_eq_true rfl) ⟨Nat.le_of_ble_eq_true rfl, Nat.le_of_ble_eq_true rfl⟩ rfl (fun r hh hp => ?_)
            obtain ⟨rfl, rfl⟩ := hp
            refine r_aload_n dX4_hottest_44 2 rfl ?_
            refine r_iload_n dX4_hottest_45 1 rfl ?_
            refine r_callVi (nn := 1) (As := [.int v]) (st := [.int (mheat st nE (nI i))]) dX4_hottest_46 (tX4_heat hb st h0 nF nC nE w hwf v (hot_in e1 h2 (by assumption))) gX4_hottest_X4_heat rfl (by decide +kernel) ⟨Nat.le_of_ble_eq_true rfl, Nat.le_of_ble_eq_true rfl⟩ ⟨rfl, rfl⟩ (ov_obj hb _ _) rfl rfl (Nat.le_of_ble_eq_true rfl) ⟨Nat.le_of_ble_eq_true rfl, Nat.le_of_ble_eq_true rfl⟩ rfl (fun r hh hp => ?_)
            obtain ⟨rfl, rfl⟩ := hp
            refine r_icmp_ne (tgt := 64) dX4_hottest_49 (by decide) (fun c5 => ?_) (fun c5 => ?_)
            · skip
              refine r_iconst (v := 0) dX4_hottest_64 (by decide) ?_
              refine r_istore_n (lo' := [(3, .int 0), (2, .int (nI i)), (1, .int v), (0, .ref (b 29))]) dX4_hottest_65 (by decide) rfl ?_
              refine r_iload_n dX4_hottest_66 0 rfl ?_
              refine r_if_eq (tgt := 74) dX4_hottest_67 (by decide) (fun _ => ?_) (fun z => absurd z (by decide))
              refine r_iload_n dX4_hottest_74 2 rfl ?_
              refine r_istore_n (lo' := [(1, .int v), (3, .int 0), (2, .int (nI i)), (0, .ref (b 29))]) dX4_hottest_75 (by decide) rfl ?_
              refine r_iinc (v := nI (i + 1)) (lo' := [(2, .int (nI (i + 1))), (1, .int v), (3, .int 0), (0, .ref (b 29))]) dX4_hottest_76 2 rfl (nI_1 i) (by decide) rfl ?_
              refine r_goto (tgt := 4) dX4_hottest_79 (by decide) ?_
              refine r_lo (lo' := [(2, .int (nI (i + 1))), (1, .int v), (0, .ref (b 29))]) [0, 1, 3] rfl ?_
              exact ih (i + 1) v (by omega) (by omega) (by first | (simp only [hotR, ← e1, if_pos c2, if_neg c3, if_neg c4, if_neg c5, if_true]; done) | (simp only [hotR, ← e1]; simp [c1, c2, c3, c4, c5]))
            · skip
              refine r_iload_n dX4_hottest_52 0 rfl ?_
              refine r_aload_n dX4_hottest_53 2 rfl ?_
              refine m_geti (v := st 16 0) hb hinX4_hottest 16 (by decide) rfl dX4_hottest_54 fwX4_hottest_47 rfl rfl ?_
              refine r_icmp_ne (tgt := 64) dX4_hottest_57 (by decide) (fun c6 => ?_) (fun c6 => ?_)
              · skip
                refine r_iconst (v := 0) dX4_hottest_64 (by decide) ?_
                refine r_istore_n (lo' := [(3, .int 0), (2, .int (nI i)), (1, .int v), (0, .ref (b 29))]) dX4_hottest_65 (by decide) rfl ?_
                refine r_iload_n dX4_hottest_66 0 rfl ?_
                refine r_if_eq (tgt := 74) dX4_hottest_67 (by decide) (fun _ => ?_) (fun z => absurd z (by decide))
                refine r_iload_n dX4_hottest_74 2 rfl ?_
                refine r_istore_n (lo' := [(1, .int v), (3, .int 0), (2, .int (nI i)), (0, .ref (b 29))]) dX4_hottest_75 (by decide) rfl ?_
                refine r_iinc (v := nI (i + 1)) (lo' := [(2, .int (nI (i + 1))), (1, .int v), (3, .int 0), (0, .ref (b 29))]) dX4_hottest_76 2 rfl (nI_1 i) (by decide) rfl ?_
                refine r_goto (tgt := 4) dX4_hottest_79 (by decide) ?_
                refine r_lo (lo' := [(2, .int (nI (i + 1))), (1, .int v), (0, .ref (b 29))]) [0, 1, 3] rfl ?_
                exact ih (i + 1) v (by omega) (by omega) (by first | (simp only [hotR, ← e1, if_pos c2, if_neg c3, if_neg c4, if_pos c5, if_neg c6, if_true]; done) | (simp only [hotR, ← e1]; simp [c1, c2, c3, c4, c5, c6]))
              · skip
                refine r_iconst (v := 1) dX4_hottest_60 (by decide) ?_
                refine r_goto (tgt := 65) dX4_hottest_61 (by decide) ?_
                refine r_istore_n (lo' := [(3, .int 1), (2, .int (nI i)), (1, .int v), (0, .ref (b 29))]) dX4_hottest_65 (by decide) rfl ?_
                refine r_iload_n dX4_hottest_66 0 rfl ?_
                refine r_if_eq (tgt := 74) dX4_hottest_67 (by decide) (fun z => absurd z (by decide)) (fun _ => ?_)
                refine r_iload_n dX4_hottest_70 1 rfl ?_
                refine r_goto (tgt := 75) dX4_hottest_71 (by decide) ?_
                refine r_istore_n (lo' := [(1, .int (nI i)), (3, .int 1), (2, .int (nI i)), (0, .ref (b 29))]) dX4_hottest_75 (by decide) rfl ?_
                refine r_iinc (v := nI (i + 1)) (lo' := [(2, .int (nI (i + 1))), (1, .int (nI i)), (3, .int 1), (0, .ref (b 29))]) dX4_hottest_76 2 rfl (nI_1 i) (by decide) rfl ?_
                refine r_goto (tgt := 4) dX4_hottest_79 (by decide) ?_
                refine r_lo (lo' := [(2, .int (nI (i + 1))), (1, .int (nI i)), (0, .ref (b 29))]) [0, 1, 3] rfl ?_
                exact ih (i + 1) (nI i) (by omega) (by omega) (by first | (simp only [hotR, ← e1, if_pos c2, if_neg c3, if_neg c4, if_pos c5, if_pos c6, if_true]; done) | (simp only [hotR, ← e1]; simp [c1, c2, c3, c4, c5, c6]))

set_option maxHeartbeats 4000000 in
set_option maxRecDepth 100000 in
theorem tX4_hottest {E : kE} {b : Nat → Nat} (hb : binj b) (st : kM) (h0 : kH) (nF nC nE w : Nat) (hwf : mwf st nF nC nE w) : kCi E yX4_hottest wsX4_hottest rmX4_hottest 0 0 [.ref (b 29)] (ov E b st h0) (fun r h' => r = hotR st nE nF ∧ h' = ov E b st h0) := by
  obtain ⟨hF, hF20, hC, hC6, hE, hE80, hW, hW3, hpl, hof, hon, hsl⟩ := id hwf
  refine kCi_of (rt := .int) (own := RX4) (cc := cX4_hottest) (maxL := 4) (by decide) rfl rfl (Nat.le_of_ble_eq_true rfl) ?_
  intro X _ kret
  refine r_lo (lo' := [(0, .ref (b 29))]) [0] rfl ?_
  refine r_iconst (v := (-1)) dX4_hottest_0 (by decide) ?_
  refine r_istore_n (lo' := [(1, .int (-1)), (0, .ref (b 29))]) dX4_hottest_1 (by decide) rfl ?_
  refine r_iconst (v := 0) dX4_hottest_2 (by decide) ?_
  refine r_istore_n (lo' := [(2, .int 0), (1, .int (-1)), (0, .ref (b 29))]) dX4_hottest_3 (by decide) rfl ?_
  refine r_lo (lo' := [(2, .int 0), (1, .int (-1)), (0, .ref (b 29))]) [0, 1, 2] rfl ?_
  refine lX4_hottest_4 hb nF nC nE w hwf (fun v e1 => ?_) (nF + 1) 0 _ (by omega) (Nat.zero_le _) rfl
  refine r_iload_n dX4_hottest_82 1 rfl ?_
  exact kret _ _ _ _ _ _ (Nat.le_refl _) (Nat.le_refl _) dX4_hottest_83 rfl (⟨e1, rfl⟩)

abbrev rmX4_chosen : Room := { frames := 0, cells := 0, slots := 0, locals := 0 }
theorem hinX4_chosen : ∀ w ∈ u_ws RX4 TX4 29, w ∈ wsX4_chosen := by decide +kernel
theorem fwX4_chosen_41 : Cond.fieldLink RX4 41 "CastdeskModel" "off" "[I" ∈ wsX4_chosen := by decide +kernel
theorem fwX4_chosen_44 : Cond.fieldLink RX4 44 "CastdeskModel" "onAir" "I" ∈ wsX4_chosen := by decide +kernel
theorem fwX4_chosen_118 : Cond.fieldLink RX4 118 "CastdeskModel" "cameras" "I" ∈ wsX4_chosen := by decide +kernel
set_option maxHeartbeats 4000000 in
set_option maxRecDepth 100000 in
theorem lX4_chosen_34 {E : kE} {b : Nat → Nat} (hb : binj b) {st : kM} {h0 : kH} (nF nC nE w : Nat) (hwf : mwf st nF nC nE w)  {X : kX} (hx : ∀ x v : Int32, v = choR st nC nC → V E X rmX4_chosen cX4_chosen 3 wsX4_chosen RX4 0 0 (ov E b st h0) [(2, .int x), (1, .int v), (0, .ref (b 29))] 59 [])
    : ∀ (d i : Nat) (x v : Int32), nC < i + d → i ≤ nC → x = nI (nC - i) - 1 → v = choR st nC i → V E X rmX4_chosen cX4_chosen 3 wsX4_chosen RX4 0 0 (ov E b st h0) [(2, .int x), (1, .int v), (0, .ref (b 29))] 34 [] := by
  obtain ⟨hF, hF20, hC, hC6, hE, hE80, hW, hW3, hpl, hof, hon, hsl⟩ := id hwf
  intro d
  induction d with
  | zero =>
    intro i x v h1 h2
    exact absurd h1 (by omega)
  | succ d ih =>
    intro i x v h1 h2 e0 e1
    refine r_iload_n dX4_chosen_34 0 rfl ?_
    refine r_if_lt (tgt := 59) dX4_chosen_35 (by decide) (fun c1 => ?_) (fun c1 => ?_)
    · skip
      have hNi : i = nC := (cho_c hC6 h2).mp (by rw [← e0]; assumption)
      subst hNi
      exact hx _ v e1
    · skip
      have hlt : i < nC := by have z := mt (cho_c hC6 h2).mpr (by rw [← e0]; assumption); omega
      rw [cho_x hlt] at e0
      subst e0
      refine r_aload_n dX4_chosen_38 2 rfl ?_
      refine m_geta hb hinX4_chosen 14 (by decide) rfl dX4_chosen_39 fwX4_chosen_41 rfl ?_
      refine r_iload_n dX4_chosen_42 0 rfl ?_
      refine m_ald (v := st 14 (nC - (i + 1))) hb 14 (nC - (i + 1)) (by decide) dX4_chosen_43 rfl (by show _ < 6; omega) (by decide) rfl ?_
      refine r_if_ne (tgt := 51) dX4_chosen_44 (by decide) (fun c2 => ?_) (fun c2 => ?_)
      · skip
        refine r_iload_n dX4_chosen_51 1 rfl ?_
        refine r_istore_n (lo' := [(1, .int v), (2, .int (nI (nC - (i + 1)))), (0, .ref (b 29))]) dX4_chosen_52 (by decide) rfl ?_
        refine r_iinc (v := (nI (nC - (i + 1))) + (-1)) (lo' := [(2, .int ((nI (nC - (i + 1))) + (-1))), (1, .int v), (0, .ref (b 29))]) dX4_chosen_53 1 rfl rfl (by decide) rfl ?_
        refine r_goto (tgt := 34) dX4_chosen_56 (by decide) ?_
        refine r_lo (lo' := [(2, .int ((nI (nC - (i + 1))) + (-1))), (1, .int v), (0, .ref (b 29))]) [0, 1, 2] rfl ?_
        exact ih (i + 1) ((nI (nC - (i + 1))) + (-1)) v (by omega) hlt (by rw [Int32.sub_eq_add_neg]) (by simp only [choR, ← e1]; simp [c2])
      · skip
        refine r_iload_n dX4_chosen_47 0 rfl ?_
        refine r_goto (tgt := 52) dX4_chosen_48 (by decide) ?_
        refine r_istore_n (lo' := [(1, .int (nI (nC - (i + 1)))), (2, .int (nI (nC - (i + 1)))), (0, .ref (b 29))]) dX4_chosen_52 (by decide) rfl ?_
        refine r_iinc (v := (nI (nC - (i + 1))) + (-1)) (lo' := [(2, .int ((nI (nC - (i + 1))) + (-1))), (1, .int (nI (nC - (i + 1)))), (0, .ref (b 29))]) dX4_chosen_53 1 rfl rfl (by decide) rfl ?_
        refine r_goto (tgt := 34) dX4_chosen_56 (by decide) ?_
        refine r_lo (lo' := [(2, .int ((nI (nC - (i + 1))) + (-1))), (1, .int (nI (nC - (i + 1)))), (0, .ref (b 29))]) [0, 1, 2] rfl ?_
        exact ih (i + 1) ((nI (nC - (i + 1))) + (-1)) (nI (nC - (i + 1))) (by omega) hlt (by rw [Int32.sub_eq_add_neg]) (by simp only [choR, ← e1]; simp [c2])

set_option maxHeartbeats 4000000 in
set_option maxRecDepth 100000 in
theorem tX4_chosen {E : kE} {b : Nat → Nat} (hb : binj b) (st : kM) (h0 : kH) (nF nC nE w : Nat) (hwf : mwf st nF nC nE w) : kCi E yX4_chosen wsX4_chosen rmX4_chosen 0 0 [.ref (b 29)] (ov E b st h0) (fun r h' => r = mcho st nC ∧ h' = ov E b st h0) := by
  obtain ⟨hF, hF20, hC, hC6, hE, hE80, hW, hW3, hpl, hof, hon, hsl⟩ := id hwf
  refine kCi_of (rt := .int) (own := RX4) (cc := cX4_chosen) (maxL := 3) (by decide) rfl rfl (Nat.le_of_ble_eq_true rfl) ?_
  intro X _ kret
  refine r_lo (lo' := [(0, .ref (b 29))]) [0] rfl ?_
  refine r_aload_n dX4_chosen_0 0 rfl ?_
  refine m_geti (v := st 15 0) hb hinX4_chosen 15 (by decide) rfl dX4_chosen_1 fwX4_chosen_44 rfl rfl ?_
  refine r_iconst (v := (-1)) dX4_chosen_4 (by decide) ?_
  refine r_icmp_eq (tgt := 25) dX4_chosen_5 (by decide) (fun c1 => ?_) (fun c1 => ?_)
  · skip
    refine r_iconst (v := (-1)) dX4_chosen_25 (by decide) ?_
    refine r_istore_n (lo' := [(1, .int (-1)), (0, .ref (b 29))]) dX4_chosen_26 (by decide) rfl ?_
    refine r_aload_n dX4_chosen_27 1 rfl ?_
    refine m_geti (v := st 10 0) hb hinX4_chosen 10 (by decide) rfl dX4_chosen_28 fwX4_chosen_118 rfl rfl ?_
    refine r_iconst (v := 1) dX4_chosen_31 (by decide) ?_
    refine r_isub dX4_chosen_32 ?_
    refine r_istore_n (lo' := [(2, .int ((st 10 0) - 1)), (1, .int (-1)), (0, .ref (b 29))]) dX4_chosen_33 (by decide) rfl ?_
    refine r_lo (lo' := [(2, .int ((st 10 0) - 1)), (1, .int (-1)), (0, .ref (b 29))]) [0, 1, 2] rfl ?_
    refine lX4_chosen_34 hb nF nC nE w hwf (fun x v e1 => ?_) (nC + 1) 0 _ _ (by omega) (Nat.zero_le _) (by rw [Nat.sub_zero, hC]) rfl
    refine r_iload_n dX4_chosen_59 1 rfl ?_
    exact kret _ _ _ _ _ _ (Nat.le_refl _) (Nat.le_refl _) dX4_chosen_60 rfl (⟨by simp [mcho, c1, e1], rfl⟩)
  · skip
    refine r_aload_n dX4_chosen_8 0 rfl ?_
    refine m_geta hb hinX4_chosen 14 (by decide) rfl dX4_chosen_9 fwX4_chosen_41 rfl ?_
    refine r_aload_n dX4_chosen_12 0 rfl ?_
    refine m_geti (v := st 15 0) hb hinX4_chosen 15 (by decide) rfl dX4_chosen_13 fwX4_chosen_44 rfl rfl ?_
    refine m_aldx (v := st 14 (st 15 0).toNatClampNeg) hb 14 (by decide) dX4_chosen_16 (on_vp hon hC6 (by assumption)) rfl ?_
    refine r_if_ne (tgt := 25) dX4_chosen_17 (by decide) (fun c2 => ?_) (fun c2 => ?_)
    · skip
      refine r_iconst (v := (-1)) dX4_chosen_25 (by decide) ?_
      refine r_istore_n (lo' := [(1, .int (-1)), (0, .ref (b 29))]) dX4_chosen_26 (by decide) rfl ?_
      refine r_aload_n dX4_chosen_27 1 rfl ?_
      refine m_geti (v := st 10 0) hb hinX4_chosen 10 (by decide) rfl dX4_chosen_28 fwX4_chosen_118 rfl rfl ?_
      refine r_iconst (v := 1) dX4_chosen_31 (by decide) ?_
      refine r_isub dX4_chosen_32 ?_
      refine r_istore_n (lo' := [(2, .int ((st 10 0) - 1)), (1, .int (-1)), (0, .ref (b 29))]) dX4_chosen_33 (by decide) rfl ?_
      refine r_lo (lo' := [(2, .int ((st 10 0) - 1)), (1, .int (-1)), (0, .ref (b 29))]) [0, 1, 2] rfl ?_
      refine lX4_chosen_34 hb nF nC nE w hwf (fun x v e1 => ?_) (nC + 1) 0 _ _ (by omega) (Nat.zero_le _) (by rw [Nat.sub_zero, hC]) rfl
      refine r_iload_n dX4_chosen_59 1 rfl ?_
      exact kret _ _ _ _ _ _ (Nat.le_refl _) (Nat.le_refl _) dX4_chosen_60 rfl (⟨by simp [mcho, c1, c2, e1], rfl⟩)
    · skip
      refine r_aload_n dX4_chosen_20 0 rfl ?_
      refine m_geti (v := st 15 0) hb hinX4_chosen 15 (by decide) rfl dX4_chosen_21 fwX4_chosen_44 rfl rfl ?_
      exact kret _ _ _ _ _ _ (Nat.le_refl _) (Nat.le_refl _) dX4_chosen_24 rfl (⟨by simp [mcho, c1, c2], rfl⟩)

set_option maxHeartbeats 4000000 in
set_option maxRecDepth 100000 in
theorem owed_in {E : kE} {b : Nat → Nat} (hb : binj b) {st : kM} (h0 : kH) {nF nC nE w : Nat} (hwf : mwf st nF nC nE w) {v : Int32} (h : ∃ j, j < 6 ∧ v = nI j) : kCi E yX4_owedTo wsX4_owedTo rmX4_owedTo 0 0 [.ref (b 29), .int v] (ov E b st h0) (fun r h' => r = mowed st w v.toNatClampNeg ∧ h' = ov E b st h0) := by
  obtain ⟨j, hj, rfl⟩ := h
  rw [nI_clamp (by omega)]
  exact tX4_owedTo hb st h0 nF nC nE w hwf j hj

abbrev rmX4_sponsorFor : Room := { frames := 2, cells := 0, slots := 0, locals := 45 }
theorem hinX4_sponsorFor : ∀ w ∈ u_ws RX4 TX4 29, w ∈ wsX4_sponsorFor := by decide +kernel
theorem fwX4_sponsorFor_23 : Cond.fieldLink RX4 23 "CastdeskModel" "first" "[I" ∈ wsX4_sponsorFor := by decide +kernel
theorem fwX4_sponsorFor_26 : Cond.fieldLink RX4 26 "CastdeskModel" "second" "[I" ∈ wsX4_sponsorFor := by decide +kernel
theorem fwX4_sponsorFor_78 : Cond.fieldLink RX4 78 "CastdeskModel" "hasSlot" "[Z" ∈ wsX4_sponsorFor := by decide +kernel
set_option maxHeartbeats 4000000 in
set_option maxRecDepth 100000 in
theorem lX4_sponsorFor_4 {E : kE} {b : Nat → Nat} (hb : binj b) {st : kM} {h0 : kH} (nF nC nE w : Nat) (hwf : mwf st nF nC nE w) (x : Int32) (hx0 : ∃ o, o < nF ∧ x = nI o) (o p1 p2 : Nat) (ho : o < nF) (hx1 : x = nI o) (hp1 : st 7 o = nI p1) (hp2 : st 8 o = nI p2) (hp19 : p1 < 10) (hp29 : p2 < 10) {X : kX} (hx : ∀ v : Int32, v = spoR st w p1 p2 6 → V E X rmX4_sponsorFor cX4_sponsorFor 5 wsX4_sponsorFor RX4 0 0 (ov E b st h0) [(3, .int (nI 6)), (2, .int v), (0, .ref (b 29)), (1, .int (nI o))] 94 [])
    : ∀ (d i : Nat) (v : Int32), 6 < i + d → i ≤ 6 → v = spoR st w p1 p2 i → V E X rmX4_sponsorFor cX4_sponsorFor 5 wsX4_sponsorFor RX4 0 0 (ov E b st h0) [(3, .int (nI i)), (2, .int v), (0, .ref (b 29)), (1, .int (nI o))] 4 [] := by
  obtain ⟨hF, hF20, hC, hC6, hE, hE80, hW, hW3, hpl, hof, hon, hsl⟩ := id hwf
  intro d
  induction d with
  | zero =>
    intro i v h1 h2
    exact absurd h1 (by omega)
  | succ d ih =>
    intro i v h1 h2 e1
    refine r_iload_n dX4_sponsorFor_4 0 rfl ?_
    refine r_bipush (v := 6) dX4_sponsorFor_5 (by decide) ?_
    refine rn_icmp_ge (a := i) (c := 6) (tgt := 94) dX4_sponsorFor_7 (by decide) rfl rfl (by omega) (by omega) (fun c1 => ?_) (fun c1 => ?_)
    · skip
      have hNi : 6 = i := by omega
      subst hNi
      exact hx v e1
    · skip
      refine r_aload_n dX4_sponsorFor_10 2 rfl ?_
      refine m_geta hb hinX4_sponsorFor 27 (by decide) rfl dX4_sponsorFor_11 fwX4_sponsorFor_78 rfl ?_
      refine r_bipush (v := 10) dX4_sponsorFor_14 (by decide) ?_
      refine r_iload_n dX4_sponsorFor_16 0 rfl ?_
      refine r_imul dX4_sponsorFor_17 ?_
      refine r_aload_n dX4_sponsorFor_18 2 rfl ?_
      refine m_geta hb hinX4_sponsorFor 7 (by decide) rfl dX4_sponsorFor_19 fwX4_sponsorFor_23 rfl ?_
      refine r_iload_n dX4_sponsorFor_22 3 rfl ?_
      refine m_ald (v := st 7 o) hb 7 o (by decide) dX4_sponsorFor_23 rfl (by show _ < 20; omega) (by decide) rfl ?_
      refine r_iadd dX4_sponsorFor_24 ?_
      rw [show (10 * (nI i)) + (st 7 o) = nI (10 * i + p1) from sp_ix hp1]
      refine m_zald (v := st 27 (10 * i + p1)) hb 27 (10 * i + p1) (by decide) dX4_sponsorFor_25 rfl (by show _ < 60; omega) (by decide) rfl ?_
      refine r_if_ne (tgt := 48) dX4_sponsorFor_26 (by decide) (fun c2 => ?_) (fun c2 => ?_)
      · skip
        refine r_iconst (v := 1) dX4_sponsorFor_48 (by decide) ?_
        refine r_goto (tgt := 53) dX4_sponsorFor_49 (by decide) ?_
        refine r_istore (lo' := [(4, .int 1), (3, .int (nI i)), (2, .int v), (0, .ref (b 29)), (1, .int (nI o))]) dX4_sponsorFor_53 (by decide) rfl ?_
        refine r_iload dX4_sponsorFor_55 0 rfl ?_
        refine r_if_eq (tgt := 86) dX4_sponsorFor_57 (by decide) (fun z => absurd z (by decide)) (fun _ => ?_)
        refine r_aload_n dX4_sponsorFor_60 3 rfl ?_
        refine r_iload_n dX4_sponsorFor_61 1 rfl ?_
        refine r_callVi (nn := 1) (As := [.int (nI i)]) (st := []) dX4_sponsorFor_62 (tX4_owedTo hb st h0 nF nC nE w hwf i (by omega)) gX4_sponsorFor_X4_owedTo rfl (by decide +kernel) ⟨Nat.le_of_ble_eq_true rfl, Nat.le_of_ble_eq_true rfl⟩ ⟨rfl, rfl⟩ (ov_obj hb _ _) rfl rfl (Nat.le_of_ble_eq_true rfl) ⟨Nat.le_of_ble_eq_true rfl, Nat.le_of_ble_eq_true rfl⟩ rfl (fun r hh hp => ?_)
        obtain ⟨rfl, rfl⟩ := hp
        refine r_iload_n dX4_sponsorFor_65 2 rfl ?_
        refine r_iconst (v := (-1)) dX4_sponsorFor_66 (by decide) ?_
        refine r_icmp_ne (tgt := 74) dX4_sponsorFor_67 (by decide) (fun c3 => ?_) (fun c3 => ?_)
        · skip
          refine r_aload_n dX4_sponsorFor_74 3 rfl ?_
          refine r_iload_n dX4_sponsorFor_75 2 rfl ?_
          refine r_callVi (nn := 1) (As := [.int v]) (st := [.int (mowed st w i)]) dX4_sponsorFor_76 (owed_in hb h0 hwf (spo_in e1 h2 (by assumption))) gX4_sponsorFor_X4_owedTo rfl (by decide +kernel) ⟨Nat.le_of_ble_eq_true rfl, Nat.le_of_ble_eq_true rfl⟩ ⟨rfl, rfl⟩ (ov_obj hb _ _) rfl rfl (Nat.le_of_ble_eq_true rfl) ⟨Nat.le_of_ble_eq_true rfl, Nat.le_of_ble_eq_true rfl⟩ rfl (fun r hh hp => ?_)
          obtain ⟨rfl, rfl⟩ := hp
          refine r_icmp_le (tgt := 86) dX4_sponsorFor_79 (by decide) (fun c4 => ?_) (fun c4 => ?_)
          · skip
            refine r_iload_n dX4_sponsorFor_86 2 rfl ?_
            refine r_istore_n (lo' := [(2, .int v), (4, .int 1), (3, .int (nI i)), (0, .ref (b 29)), (1, .int (nI o))]) dX4_sponsorFor_87 (by decide) rfl ?_
            refine r_iinc (v := nI (i + 1)) (lo' := [(3, .int (nI (i + 1))), (2, .int v), (4, .int 1), (0, .ref (b 29)), (1, .int (nI o))]) dX4_sponsorFor_88 2 rfl (nI_1 i) (by decide) rfl ?_
            refine r_goto (tgt := 4) dX4_sponsorFor_91 (by decide) ?_
            refine r_lo (lo' := [(3, .int (nI (i + 1))), (2, .int v), (0, .ref (b 29)), (1, .int (nI o))]) [0, 1, 3, 4] rfl ?_
            exact ih (i + 1) v (by omega) (by omega) (by first | (simp only [spoR, ← e1, if_neg c2, if_neg c3, if_neg c4, if_true]; done) | (simp only [spoR, ← e1]; simp [c1, c2, c3, c4]))
          · skip
            refine r_iload_n dX4_sponsorFor_82 1 rfl ?_
            refine r_goto (tgt := 87) dX4_sponsorFor_83 (by decide) ?_
            refine r_istore_n (lo' := [(2, .int (nI i)), (4, .int 1), (3, .int (nI i)), (0, .ref (b 29)), (1, .int (nI o))]) dX4_sponsorFor_87 (by decide) rfl ?_
            refine r_iinc (v := nI (i + 1)) (lo' := [(3, .int (nI (i + 1))), (2, .int (nI i)), (4, .int 1), (0, .ref (b 29)), (1, .int (nI o))]) dX4_sponsorFor_88 2 rfl (nI_1 i) (by decide) rfl ?_
            refine r_goto (tgt := 4) dX4_sponsorFor_91 (by decide) ?_
            refine r_lo (lo' := [(3, .int (nI (i + 1))), (2, .int (nI i)), (0, .ref (b 29)), (1, .int (nI o))]) [0, 1, 3, 4] rfl ?_
            exact ih (i + 1) (nI i) (by omega) (by omega) (by first | (simp only [spoR, ← e1, if_neg c2, if_neg c3, if_pos c4, if_true]; done) | (simp only [spoR, ← e1]; simp [c1, c2, c3, c4]))
        · skip
          refine r_iconst (v := 0) dX4_sponsorFor_70 (by decide) ?_
          refine r_goto (tgt := 79) dX4_sponsorFor_71 (by decide) ?_
          refine r_icmp_le (tgt := 86) dX4_sponsorFor_79 (by decide) (fun c5 => ?_) (fun c5 => ?_)
          · skip
            refine r_iload_n dX4_sponsorFor_86 2 rfl ?_
            refine r_istore_n (lo' := [(2, .int v), (4, .int 1), (3, .int (nI i)), (0, .ref (b 29)), (1, .int (nI o))]) dX4_sponsorFor_87 (by decide) rfl ?_
            refine r_iinc (v := nI (i + 1)) (lo' := [(3, .int (nI (i + 1))), (2, .int v), (4, .int 1), (0, .ref (b 29)), (1, .int (nI o))]) dX4_sponsorFor_88 2 rfl (nI_1 i) (by decide) rfl ?_
            refine r_goto (tgt := 4) dX4_sponsorFor_91 (by decide) ?_
            refine r_lo (lo' := [(3, .int (nI (i + 1))), (2, .int v), (0, .ref (b 29)), (1, .int (nI o))]) [0, 1, 3, 4] rfl ?_
            exact ih (i + 1) v (by omega) (by omega) (by first | (simp only [spoR, ← e1, if_neg c2, if_pos c3, if_neg c5, if_true]; done) | (simp only [spoR, ← e1]; simp [c1, c2, c3, c5]))
          · skip
            refine r_iload_n dX4_sponsorFor_82 1 rfl ?_
            refine r_goto (tgt := 87) dX4_sponsorFor_83 (by decide) ?_
            refine r_istore_n (lo' := [(2, .int (nI i)), (4, .int 1), (3, .int (nI i)), (0, .ref (b 29)), (1, .int (nI o))]) dX4_sponsorFor_87 (by decide) rfl ?_
            refine r_iinc (v := nI (i + 1)) (lo' := [(3, .int (nI (i + 1))), (2, .int (nI i)), (4, .int 1), (0, .ref (b 29)), (1, .int (nI o))]) dX4_sponsorFor_88 2 rfl (nI_1 i) (by decide) rfl ?_
            refine r_goto (tgt := 4) dX4_sponsorFor_91 (by decide) ?_
            refine r_lo (lo' := [(3, .int (nI (i + 1))), (2, .int (nI i)), (0, .ref (b 29)), (1, .int (nI o))]) [0, 1, 3, 4] rfl ?_
            exact ih (i + 1) (nI i) (by omega) (by omega) (by first | (simp only [spoR, ← e1, if_neg c2, if_pos c3, if_pos c5, if_true]; done) | (simp only [spoR, ← e1]; simp [c1, c2, c3, c5]))
      · skip
        refine r_aload_n dX4_sponsorFor_29 2 rfl ?_
        refine m_geta hb hinX4_sponsorFor 27 (by decide) rfl dX4_sponsorFor_30 fwX4_sponsorFor_78 rfl ?_
        refine r_bipush (v := 10) dX4_sponsorFor_33 (by decide) ?_
        refine r_iload_n dX4_sponsorFor_35 0 rfl ?_
        refine r_imul dX4_sponsorFor_36 ?_
        refine r_aload_n dX4_sponsorFor_37 2 rfl ?_
        refine m_geta hb hinX4_sponsorFor 8 (by decide) rfl dX4_sponsorFor_38 fwX4_sponsorFor_26 rfl ?_
        refine r_iload_n dX4_sponsorFor_41 3 rfl ?_
        refine m_ald (v := st 8 o) hb 8 o (by decide) dX4_sponsorFor_42 rfl (by show _ < 20; omega) (by decide) rfl ?_
        refine r_iadd dX4_sponsorFor_43 ?_
        rw [show (10 * (nI i)) + (st 8 o) = nI (10 * i + p2) from sp_ix hp2]
        refine m_zald (v := st 27 (10 * i + p2)) hb 27 (10 * i + p2) (by decide) dX4_sponsorFor_44 rfl (by show _ < 60; omega) (by decide) rfl ?_
        refine r_if_eq (tgt := 52) dX4_sponsorFor_45 (by decide) (fun c6 => ?_) (fun c6 => ?_)
        · skip
          refine r_iconst (v := 0) dX4_sponsorFor_52 (by decide) ?_
          refine r_istore (lo' := [(4, .int 0), (3, .int (nI i)), (2, .int v), (0, .ref (b 29)), (1, .int (nI o))]) dX4_sponsorFor_53 (by decide) rfl ?_
          refine r_iload dX4_sponsorFor_55 0 rfl ?_
          refine r_if_eq (tgt := 86) dX4_sponsorFor_57 (by decide) (fun _ => ?_) (fun z => absurd z (by decide))
          refine r_iload_n dX4_sponsorFor_86 2 rfl ?_
          refine r_istore_n (lo' := [(2, .int v), (4, .int 0), (3, .int (nI i)), (0, .ref (b 29)), (1, .int (nI o))]) dX4_sponsorFor_87 (by decide) rfl ?_
          refine r_iinc (v := nI (i + 1)) (lo' := [(3, .int (nI (i + 1))), (2, .int v), (4, .int 0), (0, .ref (b 29)), (1, .int (nI o))]) dX4_sponsorFor_88 2 rfl (nI_1 i) (by decide) rfl ?_
          refine r_goto (tgt := 4) dX4_sponsorFor_91 (by decide) ?_
          refine r_lo (lo' := [(3, .int (nI (i + 1))), (2, .int v), (0, .ref (b 29)), (1, .int (nI o))]) [0, 1, 3, 4] rfl ?_
          exact ih (i + 1) v (by omega) (by omega) (by first | (simp only [spoR, ← e1, if_pos c2, if_pos c6, if_true]; done) | (simp only [spoR, ← e1]; simp [c1, c2, c6]))
        · skip
          refine r_iconst (v := 1) dX4_sponsorFor_48 (by decide) ?_
          refine r_goto (tgt := 53) dX4_sponsorFor_49 (by decide) ?_
          refine r_istore (lo' := [(4, .int 1), (3, .int (nI i)), (2, .int v), (0, .ref (b 29)), (1, .int (nI o))]) dX4_sponsorFor_53 (by decide) rfl ?_
          refine r_iload dX4_sponsorFor_55 0 rfl ?_
          refine r_if_eq (tgt := 86) dX4_sponsorFor_57 (by decide) (fun z => absurd z (by decide)) (fun _ => ?_)
          refine r_aload_n dX4_sponsorFor_60 3 rfl ?_
          refine r_iload_n dX4_sponsorFor_61 1 rfl ?_
          refine r_callVi (nn := 1) (As := [.int (nI i)]) (st := []) dX4_sponsorFor_62 (tX4_owedTo hb st h0 nF nC nE w hwf i (by omega)) gX4_sponsorFor_X4_owedTo rfl (by decide +kernel) ⟨Nat.le_of_ble_eq_true rfl, Nat.le_of_ble_eq_true rfl⟩ ⟨rfl, rfl⟩ (ov_obj hb _ _) rfl rfl (Nat.le_of_ble_eq_true rfl) ⟨Nat.le_of_ble_eq_true rfl, Nat.le_of_ble_eq_true rfl⟩ rfl (fun r hh hp => ?_)
          obtain ⟨rfl, rfl⟩ := hp
          refine r_iload_n dX4_sponsorFor_65 2 rfl ?_
          refine r_iconst (v := (-1)) dX4_sponsorFor_66 (by decide) ?_
          refine r_icmp_ne (tgt := 74) dX4_sponsorFor_67 (by decide) (fun c7 => ?_) (fun c7 => ?_)
          · skip
            refine r_aload_n dX4_sponsorFor_74 3 rfl ?_
            refine r_iload_n dX4_sponsorFor_75 2 rfl ?_
            refine r_callVi (nn := 1) (As := [.int v]) (st := [.int (mowed st w i)]) dX4_sponsorFor_76 (owed_in hb h0 hwf (spo_in e1 h2 (by assumption))) gX4_sponsorFor_X4_owedTo rfl (by decide +kernel) ⟨Nat.le_of_ble_eq_true rfl, Nat.le_of_ble_eq_true rfl⟩ ⟨rfl, rfl⟩ (ov_obj hb _ _) rfl rfl (Nat.le_of_ble_eq_true rfl) ⟨Nat.le_of_ble_eq_true rfl, Nat.le_of_ble_eq_true rfl⟩ rfl (fun r hh hp => ?_)
            obtain ⟨rfl, rfl⟩ := hp
            refine r_icmp_le (tgt := 86) dX4_sponsorFor_79 (by decide) (fun c8 => ?_) (fun c8 => ?_)
            · skip
              refine r_iload_n dX4_sponsorFor_86 2 rfl ?_
              refine r_istore_n (lo' := [(2, .int v), (4, .int 1), (3, .int (nI i)), (0, .ref (b 29)), (1, .int (nI o))]) dX4_sponsorFor_87 (by decide) rfl ?_
              refine r_iinc (v := nI (i + 1)) (lo' := [(3, .int (nI (i + 1))), (2, .int v), (4, .int 1), (0, .ref (b 29)), (1, .int (nI o))]) dX4_sponsorFor_88 2 rfl (nI_1 i) (by decide) rfl ?_
              refine r_goto (tgt := 4) dX4_sponsorFor_91 (by decide) ?_
              refine r_lo (lo' := [(3, .int (nI (i + 1))), (2, .int v), (0, .ref (b 29)), (1, .int (nI o))]) [0, 1, 3, 4] rfl ?_
              exact ih (i + 1) v (by omega) (by omega) (by first | (simp only [spoR, ← e1, if_pos c2, if_neg c6, if_neg c7, if_neg c8, if_true]; done) | (simp only [spoR, ← e1]; simp [c1, c2, c6, c7, c8]))
            · skip
              refine r_iload_n dX4_sponsorFor_82 1 rfl ?_
              refine r_goto (tgt := 87) dX4_sponsorFor_83 (by decide) ?_
              refine r_istore_n (lo' := [(2, .int (nI i)), (4, .int 1), (3, .int (nI i)), (0, .ref (b 29)), (1, .int (nI o))]) dX4_sponsorFor_87 (by decide) rfl ?_
              refine r_iinc (v := nI (i + 1)) (lo' := [(3, .int (nI (i + 1))), (2, .int (nI i)), (4, .int 1), (0, .ref (b 29)), (1, .int (nI o))]) dX4_sponsorFor_88 2 rfl (nI_1 i) (by decide) rfl ?_
              refine r_goto (tgt := 4) dX4_sponsorFor_91 (by decide) ?_
              refine r_lo (lo' := [(3, .int (nI (i + 1))), (2, .int (nI i)), (0, .ref (b 29)), (1, .int (nI o))]) [0, 1, 3, 4] rfl ?_
              exact ih (i + 1) (nI i) (by omega) (by omega) (by first | (simp only [spoR, ← e1, if_pos c2, if_neg c6, if_neg c7, if_pos c8, if_true]; done) | (simp only [spoR, ← e1]; simp [c1, c2, c6, c7, c8]))
          · skip
            refine r_iconst (v := 0) dX4_sponsorFor_70 (by decide) ?_
            refine r_goto (tgt := 79) dX4_sponsorFor_71 (by decide) ?_
            refine r_icmp_le (tgt := 86) dX4_sponsorFor_79 (by decide) (fun c9 => ?_) (fun c9 => ?_)
            · skip
              refine r_iload_n dX4_sponsorFor_86 2 rfl ?_
              refine r_istore_n (lo' := [(2, .int v), (4, .int 1), (3, .int (nI i)), (0, .ref (b 29)), (1, .int (nI o))]) dX4_sponsorFor_87 (by decide) rfl ?_
              refine r_iinc (v := nI (i + 1)) (lo' := [(3, .int (nI (i + 1))), (2, .int v), (4, .int 1), (0, .ref (b 29)), (1, .int (nI o))]) dX4_sponsorFor_88 2 rfl (nI_1 i) (by decide) rfl ?_
              refine r_goto (tgt := 4) dX4_sponsorFor_91 (by decide) ?_
              refine r_lo (lo' := [(3, .int (nI (i + 1))), (2, .int v), (0, .ref (b 29)), (1, .int (nI o))]) [0, 1, 3, 4] rfl ?_
              exact ih (i + 1) v (by omega) (by omega) (by first | (simp only [spoR, ← e1, if_pos c2, if_neg c6, if_pos c7, if_neg c9, if_true]; done) | (simp only [spoR, ← e1]; simp [c1, c2, c6, c7, c9]))
            · skip
              refine r_iload_n dX4_sponsorFor_82 1 rfl ?_
              refine r_goto (tgt := 87) dX4_sponsorFor_83 (by decide) ?_
              refine r_istore_n (lo' := [(2, .int (nI i)), (4, .int 1), (3, .int (nI i)), (0, .ref (b 29)), (1, .int (nI o))]) dX4_sponsorFor_87 (by decide) rfl ?_
              refine r_iinc (v := nI (i + 1)) (lo' := [(3, .int (nI (i + 1))), (2, .int (nI i)), (4, .int 1), (0, .ref (b 29)), (1, .int (nI o))]) dX4_sponsorFor_88 2 rfl (nI_1 i) (by decide) rfl ?_
              refine r_goto (tgt := 4) dX4_sponsorFor_91 (by decide) ?_
              refine r_lo (lo' := [(3, .int (nI (i + 1))), (2, .int (nI i)), (0, .ref (b 29)), (1, .int (nI o))]) [0, 1, 3, 4] rfl ?_
              exact ih (i + 1) (nI i) (by omega) (by omega) (by first | (simp only [spoR, ← e1, if_pos c2, if_neg c6, if_pos c7, if_pos c9, if_true]; done) | (simp only [spoR, ← e1]; simp [c1, c2, c6, c7, c9]))

set_option maxHeartbeats 4000000 in
set_option maxRecDepth 100000 in
theorem tX4_sponsorFor {E : kE} {b : Nat → Nat} (hb : binj b) (st : kM) (h0 : kH) (nF nC nE w : Nat) (hwf : mwf st nF nC nE w) (x : Int32) (hx0 : ∃ o, o < nF ∧ x = nI o) : kCi E yX4_sponsorFor wsX4_sponsorFor rmX4_sponsorFor 0 0 [.ref (b 29), .int x] (ov E b st h0) (fun r h' => r = mspo st w x ∧ h' = ov E b st h0) := by
  obtain ⟨hF, hF20, hC, hC6, hE, hE80, hW, hW3, hpl, hof, hon, hsl⟩ := id hwf
  obtain ⟨o, ho, rfl⟩ := hx0
  have eo : (nI o).toNatClampNeg = o := nI_clamp (by omega)
  obtain ⟨p1, hp19, hp1⟩ := vp_in_of (hpl o ho).1 (by decide)
  obtain ⟨p2, hp29, hp2⟩ := vp_in_of (hpl o ho).2 (by decide)
  refine kCi_of (rt := .int) (own := RX4) (cc := cX4_sponsorFor) (maxL := 5) (by decide) rfl rfl (Nat.le_of_ble_eq_true rfl) ?_
  intro X _ kret
  refine r_lo (lo' := [(0, .ref (b 29)), (1, .int (nI o))]) [0, 1] rfl ?_
  refine r_iconst (v := (-1)) dX4_sponsorFor_0 (by decide) ?_
  refine r_istore_n (lo' := [(2, .int (-1)), (0, .ref (b 29)), (1, .int (nI o))]) dX4_sponsorFor_1 (by decide) rfl ?_
  refine r_iconst (v := 0) dX4_sponsorFor_2 (by decide) ?_
  refine r_istore_n (lo' := [(3, .int 0), (2, .int (-1)), (0, .ref (b 29)), (1, .int (nI o))]) dX4_sponsorFor_3 (by decide) rfl ?_
  refine r_lo (lo' := [(3, .int 0), (2, .int (-1)), (0, .ref (b 29)), (1, .int (nI o))]) [0, 1, 2, 3] rfl ?_
  refine lX4_sponsorFor_4 hb nF nC nE w hwf (nI o) ⟨o, ho, rfl⟩ o p1 p2 ho rfl hp1 hp2 hp19 hp29 (fun v e1 => ?_) 7 0 _ (by omega) (Nat.zero_le _) rfl
  refine r_iload_n dX4_sponsorFor_94 1 rfl ?_
  exact kret _ _ _ _ _ _ (Nat.le_refl _) (Nat.le_refl _) dX4_sponsorFor_95 rfl (⟨by rw [e1, mspo, eo, hp1, hp2, nI_clamp (by omega), nI_clamp (by omega)], rfl⟩)

