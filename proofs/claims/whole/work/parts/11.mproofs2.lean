abbrev rmX4_replay : Room := { frames := 2, cells := 0, slots := 0, locals := 43 }
theorem hinX4_replay : ∀ w ∈ u_ws RX4 TX4 29, w ∈ wsX4_replay := by decide +kernel
theorem fwX4_replay_20 : Cond.fieldLink RX4 20 "CastdeskModel" "state" "[I" ∈ wsX4_replay := by decide +kernel
theorem fwX4_replay_23 : Cond.fieldLink RX4 23 "CastdeskModel" "first" "[I" ∈ wsX4_replay := by decide +kernel
theorem fwX4_replay_26 : Cond.fieldLink RX4 26 "CastdeskModel" "second" "[I" ∈ wsX4_replay := by decide +kernel
theorem fwX4_replay_29 : Cond.fieldLink RX4 29 "CastdeskModel" "winner" "[I" ∈ wsX4_replay := by decide +kernel
theorem fwX4_replay_50 : Cond.fieldLink RX4 50 "CastdeskModel" "fightIn" "[I" ∈ wsX4_replay := by decide +kernel
theorem fwX4_replay_56 : Cond.fieldLink RX4 56 "CastdeskModel" "sponsorIn" "[I" ∈ wsX4_replay := by decide +kernel
theorem fwX4_replay_59 : Cond.fieldLink RX4 59 "CastdeskModel" "of" "[I" ∈ wsX4_replay := by decide +kernel
theorem fwX4_replay_71 : Cond.fieldLink RX4 71 "CastdeskModel" "isStruck" "[Z" ∈ wsX4_replay := by decide +kernel
theorem fwX4_replay_88 : Cond.fieldLink RX4 88 "CastdeskModel" "fights" "I" ∈ wsX4_replay := by decide +kernel
theorem fwX4_replay_112 : Cond.fieldLink RX4 112 "CastdeskModel" "entries" "I" ∈ wsX4_replay := by decide +kernel
theorem fwX4_replay_115 : Cond.fieldLink RX4 115 "CastdeskModel" "now" "I" ∈ wsX4_replay := by decide +kernel
set_option maxHeartbeats 4000000 in
set_option maxRecDepth 100000 in
theorem lX4_replay_89 {E : kE} {b : Nat → Nat} (hb : binj b) {st : kM} {h0 : kH} (nF nC nE w : Nat) (hwf : mwf st nF nC nE w) (x : Int32)  {X : kX} (hx : V E X rmX4_replay cX4_replay 4 wsX4_replay RX4 0 0 (ov E b (mf st 25 (strA st x nE)) h0) [(3, .int (nI nE)), (0, .ref (b 29)), (1, .int x), (2, .int 1)] 133 [])
    : ∀ (d i : Nat), nE < i + d → i ≤ nE → V E X rmX4_replay cX4_replay 4 wsX4_replay RX4 0 0 (ov E b (mf st 25 (strA st x i)) h0) [(3, .int (nI i)), (0, .ref (b 29)), (1, .int x), (2, .int 1)] 89 [] := by
  obtain ⟨hF, hF20, hC, hC6, hE, hE80, hW, hW3, hpl, hof, hon, hsl⟩ := id hwf
  intro d
  induction d with
  | zero =>
    intro i  h1 h2
    exact absurd h1 (by omega)
  | succ d ih =>
    intro i  h1 h2 
    refine r_iload_n dX4_replay_89 0 rfl ?_
    refine r_aload_n dX4_replay_90 1 rfl ?_
    refine m_geti (v := st 20 0) hb hinX4_replay 20 (by decide) rfl dX4_replay_91 fwX4_replay_112 rfl rfl ?_
    refine rn_icmp_ge (a := i) (c := nE) (tgt := 133) dX4_replay_94 (by decide) rfl hE (by omega) (by omega) (fun c1 => ?_) (fun c1 => ?_)
    · skip
      have hNi : nE = i := by omega
      subst hNi
      exact hx
    · skip
      refine r_aload_n dX4_replay_97 1 rfl ?_
      refine m_geta hb hinX4_replay 25 (by decide) rfl dX4_replay_98 fwX4_replay_71 rfl ?_
      refine r_iload_n dX4_replay_101 0 rfl ?_
      refine r_aload_n dX4_replay_102 1 rfl ?_
      refine m_geta hb hinX4_replay 25 (by decide) rfl dX4_replay_103 fwX4_replay_71 rfl ?_
      refine r_iload_n dX4_replay_106 0 rfl ?_
      refine m_zald (v := st 25 i) hb 25 i (by decide) dX4_replay_107 rfl (by show _ < 80; omega) (by decide) (by simp [mf, strA, uncA]) ?_
      refine r_if_ne (tgt := 121) dX4_replay_108 (by decide) (fun c2 => ?_) (fun c2 => ?_)
      · skip
        refine r_iconst (v := 1) dX4_replay_121 (by decide) ?_
        refine r_goto (tgt := 126) dX4_replay_122 (by decide) ?_
        refine m_zast hb 25 i (by decide) rfl dX4_replay_126 rfl (by show _ < 80; omega) (by decide) ?_
        refine r_iinc (v := nI (i + 1)) (lo' := [(3, .int (nI (i + 1))), (0, .ref (b 29)), (1, .int x), (2, .int 1)]) dX4_replay_127 0 rfl (nI_1 i) (by decide) rfl ?_
        refine r_goto (tgt := 89) dX4_replay_130 (by decide) ?_
        refine r_lo (lo' := [(3, .int (nI (i + 1))), (0, .ref (b 29)), (1, .int x), (2, .int 1)]) [0, 1, 2, 3] rfl ?_
        rw [strA_s (by simp [c1, c2])]
        exact ih (i + 1) (by omega) (by omega)
      · skip
        refine r_aload_n dX4_replay_111 1 rfl ?_
        refine m_geta hb hinX4_replay 21 (by decide) rfl dX4_replay_112 fwX4_replay_59 rfl ?_
        refine r_iload_n dX4_replay_115 0 rfl ?_
        refine m_ald (v := st 21 i) hb 21 i (by decide) dX4_replay_116 rfl (by show _ < 80; omega) (by decide) rfl ?_
        refine r_iload_n dX4_replay_117 2 rfl ?_
        refine r_icmp_ne (tgt := 125) dX4_replay_118 (by decide) (fun c3 => ?_) (fun c3 => ?_)
        · skip
          refine r_iconst (v := 0) dX4_replay_125 (by decide) ?_
          refine m_zast hb 25 i (by decide) rfl dX4_replay_126 rfl (by show _ < 80; omega) (by decide) ?_
          refine r_iinc (v := nI (i + 1)) (lo' := [(3, .int (nI (i + 1))), (0, .ref (b 29)), (1, .int x), (2, .int 1)]) dX4_replay_127 0 rfl (nI_1 i) (by decide) rfl ?_
          refine r_goto (tgt := 89) dX4_replay_130 (by decide) ?_
          refine r_lo (lo' := [(3, .int (nI (i + 1))), (0, .ref (b 29)), (1, .int x), (2, .int 1)]) [0, 1, 2, 3] rfl ?_
          rw [strA_s (by simp [c1, c2, c3])]
          exact ih (i + 1) (by omega) (by omega)
        · skip
          refine r_iconst (v := 1) dX4_replay_121 (by decide) ?_
          refine r_goto (tgt := 126) dX4_replay_122 (by decide) ?_
          refine m_zast hb 25 i (by decide) rfl dX4_replay_126 rfl (by show _ < 80; omega) (by decide) ?_
          refine r_iinc (v := nI (i + 1)) (lo' := [(3, .int (nI (i + 1))), (0, .ref (b 29)), (1, .int x), (2, .int 1)]) dX4_replay_127 0 rfl (nI_1 i) (by decide) rfl ?_
          refine r_goto (tgt := 89) dX4_replay_130 (by decide) ?_
          refine r_lo (lo' := [(3, .int (nI (i + 1))), (0, .ref (b 29)), (1, .int x), (2, .int 1)]) [0, 1, 2, 3] rfl ?_
          rw [strA_s (by simp [c1, c2, c3])]
          exact ih (i + 1) (by omega) (by omega)

set_option maxHeartbeats 4000000 in
set_option maxRecDepth 100000 in
theorem lX4_replay_135 {E : kE} {b : Nat → Nat} (hb : binj b) {st : kM} {h0 : kH} (nF nC nE w : Nat) (hwf : mwf st nF nC nE w) (x : Int32)  {X : kX} (hx : V E X rmX4_replay cX4_replay 4 wsX4_replay RX4 0 0 (ov E b (mf st 19 (uncA st x w)) h0) [(3, .int (nI w)), (0, .ref (b 29)), (1, .int x), (2, .int 1)] 175 [])
    : ∀ (d i : Nat), w < i + d → i ≤ w → V E X rmX4_replay cX4_replay 4 wsX4_replay RX4 0 0 (ov E b (mf st 19 (uncA st x i)) h0) [(3, .int (nI i)), (0, .ref (b 29)), (1, .int x), (2, .int 1)] 135 [] := by
  obtain ⟨hF, hF20, hC, hC6, hE, hE80, hW, hW3, hpl, hof, hon, hsl⟩ := id hwf
  intro d
  induction d with
  | zero =>
    intro i  h1 h2
    exact absurd h1 (by omega)
  | succ d ih =>
    intro i  h1 h2 
    refine r_iload_n dX4_replay_135 0 rfl ?_
    refine r_aload_n dX4_replay_136 1 rfl ?_
    refine m_geti (v := st 1 0) hb hinX4_replay 1 (by decide) rfl dX4_replay_137 fwX4_replay_115 rfl rfl ?_
    refine rn_icmp_ge (a := i) (c := w) (tgt := 175) dX4_replay_140 (by decide) rfl hW (by omega) (by omega) (fun c1 => ?_) (fun c1 => ?_)
    · skip
      have hNi : w = i := by omega
      subst hNi
      exact hx
    · skip
      refine r_aload_n dX4_replay_143 1 rfl ?_
      refine m_geta hb hinX4_replay 19 (by decide) rfl dX4_replay_144 fwX4_replay_56 rfl ?_
      refine r_iload_n dX4_replay_147 0 rfl ?_
      refine r_aload_n dX4_replay_148 1 rfl ?_
      refine m_geta hb hinX4_replay 17 (by decide) rfl dX4_replay_149 fwX4_replay_50 rfl ?_
      refine r_iload_n dX4_replay_152 0 rfl ?_
      refine m_ald (v := st 17 i) hb 17 i (by decide) dX4_replay_153 rfl (by show _ < 3000; omega) (by decide) rfl ?_
      refine r_iload_n dX4_replay_154 2 rfl ?_
      refine r_icmp_ne (tgt := 162) dX4_replay_155 (by decide) (fun c2 => ?_) (fun c2 => ?_)
      · skip
        refine r_aload_n dX4_replay_162 1 rfl ?_
        refine m_geta hb hinX4_replay 19 (by decide) rfl dX4_replay_163 fwX4_replay_56 rfl ?_
        refine r_iload_n dX4_replay_166 0 rfl ?_
        refine m_ald (v := st 19 i) hb 19 i (by decide) dX4_replay_167 rfl (by show _ < 3000; omega) (by decide) (by simp [mf, strA, uncA]) ?_
        refine m_ast hb 19 i (by decide) dX4_replay_168 rfl (by show _ < 3000; omega) (by decide) ?_
        refine r_iinc (v := nI (i + 1)) (lo' := [(3, .int (nI (i + 1))), (0, .ref (b 29)), (1, .int x), (2, .int 1)]) dX4_replay_169 0 rfl (nI_1 i) (by decide) rfl ?_
        refine r_goto (tgt := 135) dX4_replay_172 (by decide) ?_
        refine r_lo (lo' := [(3, .int (nI (i + 1))), (0, .ref (b 29)), (1, .int x), (2, .int 1)]) [0, 1, 2, 3] rfl ?_
        rw [uncA_s (by simp [c1, c2])]
        exact ih (i + 1) (by omega) (by omega)
      · skip
        refine r_iconst (v := (-1)) dX4_replay_158 (by decide) ?_
        refine r_goto (tgt := 168) dX4_replay_159 (by decide) ?_
        refine m_ast hb 19 i (by decide) dX4_replay_168 rfl (by show _ < 3000; omega) (by decide) ?_
        refine r_iinc (v := nI (i + 1)) (lo' := [(3, .int (nI (i + 1))), (0, .ref (b 29)), (1, .int x), (2, .int 1)]) dX4_replay_169 0 rfl (nI_1 i) (by decide) rfl ?_
        refine r_goto (tgt := 135) dX4_replay_172 (by decide) ?_
        refine r_lo (lo' := [(3, .int (nI (i + 1))), (0, .ref (b 29)), (1, .int x), (2, .int 1)]) [0, 1, 2, 3] rfl ?_
        rw [uncA_s (by simp [c1, c2])]
        exact ih (i + 1) (by omega) (by omega)

set_option maxHeartbeats 4000000 in
set_option maxRecDepth 100000 in
theorem tX4_replay {E : kE} {b : Nat → Nat} (hb : binj b) (st : kM) (h0 : kH) (nF nC nE w : Nat) (hwf : mwf st nF nC nE w) (x : Int32) : kCi E yX4_replay wsX4_replay rmX4_replay 0 0 [.ref (b 29), .int x] (ov E b st h0) (fun r h' => r = (mreplay st nF nE w x).1 ∧ h' = ov E b (mreplay st nF nE w x).2 h0) := by
  obtain ⟨hF, hF20, hC, hC6, hE, hE80, hW, hW3, hpl, hof, hon, hsl⟩ := id hwf
  refine kCi_of (rt := .int) (own := RX4) (cc := cX4_replay) (maxL := 4) (by decide) rfl rfl (Nat.le_of_ble_eq_true rfl) ?_
  intro X _ kret
  refine r_lo (lo' := [(0, .ref (b 29)), (1, .int x)]) [0, 1] rfl ?_
  refine r_aload_n dX4_replay_0 0 rfl ?_
  refine r_iload_n dX4_replay_1 1 rfl ?_
  refine r_callVi (nn := 1) (As := [.int x]) (st := []) dX4_replay_2 (tX4_isFight hb st h0 x) gX4_replay_X4_isFight rfl (by decide +kernel) ⟨Nat.le_of_ble_eq_true rfl, Nat.le_of_ble_eq_true rfl⟩ ⟨rfl, rfl⟩ (ov_obj hb _ _) rfl rfl (Nat.le_of_ble_eq_true rfl) ⟨Nat.le_of_ble_eq_true rfl, Nat.le_of_ble_eq_true rfl⟩ rfl (fun r hh hp => ?_)
  obtain ⟨⟨q1, rfl⟩ | ⟨q1, rfl⟩, rfl⟩ := hp
  · skip
    obtain ⟨o, ho, rfl⟩ := inr_pred (m := nF) (by omega) (by rw [← hF]; exact q1)
    have eo : (nI o).toNatClampNeg = o := nI_clamp (by omega)
    refine r_istore_n (lo' := [(2, .int 1), (0, .ref (b 29)), (1, .int (nI o))]) dX4_replay_5 (by decide) rfl ?_
    refine r_aload_n dX4_replay_6 1 rfl ?_
    refine r_iload_n dX4_replay_7 0 rfl ?_
    refine r_if_ne (tgt := 15) dX4_replay_8 (by decide) (fun _ => ?_) (fun z => absurd z (by decide))
    refine r_aload_n dX4_replay_15 1 rfl ?_
    refine m_geta hb hinX4_replay 6 (by decide) rfl dX4_replay_16 fwX4_replay_20 rfl ?_
    refine r_iload_n dX4_replay_19 2 rfl ?_
    refine m_ald (v := st 6 o) hb 6 o (by decide) dX4_replay_20 rfl (by show _ < 20; omega) (by decide) rfl ?_
    refine r_iconst (v := 1) dX4_replay_21 (by decide) ?_
    refine r_icmp_ne (tgt := 60) dX4_replay_22 (by decide) (fun c2 => ?_) (fun c2 => ?_)
    · skip
      refine r_iconst (v := 2) dX4_replay_60 (by decide) ?_
      refine r_goto (tgt := 65) dX4_replay_61 (by decide) ?_
      refine r_callVi (nn := 1) (As := [.int 2]) (st := []) dX4_replay_65 (tX4_refused hb st h0 2) gX4_replay_X4_refused rfl (by decide +kernel) ⟨Nat.le_of_ble_eq_true rfl, Nat.le_of_ble_eq_true rfl⟩ ⟨rfl, rfl⟩ (ov_obj hb _ _) rfl rfl (Nat.le_of_ble_eq_true rfl) ⟨Nat.le_of_ble_eq_true rfl, Nat.le_of_ble_eq_true rfl⟩ rfl (fun r hh hp => ?_)
      obtain ⟨hr9, rfl⟩ := hp
      rw [show (if (2 : Int32) = 0 then (0 : Int32) else 1) = 1 from by decide] at hr9
      subst hr9
      refine r_if_eq (tgt := 73) dX4_replay_68 (by decide) (fun z => absurd z (by decide)) (fun _ => ?_)
      refine r_iconst (v := 0) dX4_replay_71 (by decide) ?_
      exact kret _ _ _ _ _ _ (Nat.le_refl _) (Nat.le_refl _) dX4_replay_72 rfl (⟨by rw [mreplay, if_pos q1] <;> simp [eo, c2] <;> rfl, by rw [mreplay, if_pos q1] <;> simp [eo, c2] <;> rfl⟩)
    · skip
      refine r_aload_n dX4_replay_25 1 rfl ?_
      refine r_aload_n dX4_replay_26 1 rfl ?_
      refine m_geta hb hinX4_replay 7 (by decide) rfl dX4_replay_27 fwX4_replay_23 rfl ?_
      refine r_iload_n dX4_replay_30 2 rfl ?_
      refine m_ald (v := st 7 o) hb 7 o (by decide) dX4_replay_31 rfl (by show _ < 20; omega) (by decide) rfl ?_
      refine r_callVi (nn := 1) (As := [.int (st 7 o)]) (st := [.ref (b 29)]) dX4_replay_32 (tX4_isBusy hb st h0 nF nC nE w hwf (st 7 o)) gX4_replay_X4_isBusy rfl (by decide +kernel) ⟨Nat.le_of_ble_eq_true rfl, Nat.le_of_ble_eq_true rfl⟩ ⟨rfl, rfl⟩ (ov_obj hb _ _) rfl rfl (Nat.le_of_ble_eq_true rfl) ⟨Nat.le_of_ble_eq_true rfl, Nat.le_of_ble_eq_true rfl⟩ rfl (fun r hh hp => ?_)
      obtain ⟨rfl, rfl⟩ := hp
      refine r_if_ne (tgt := 60) dX4_replay_35 (by decide) (fun c3 => ?_) (fun c3 => ?_)
      · skip
        refine r_iconst (v := 2) dX4_replay_60 (by decide) ?_
        refine r_goto (tgt := 65) dX4_replay_61 (by decide) ?_
        refine r_callVi (nn := 1) (As := [.int 2]) (st := []) dX4_replay_65 (tX4_refused hb st h0 2) gX4_replay_X4_refused rfl (by decide +kernel) ⟨Nat.le_of_ble_eq_true rfl, Nat.le_of_ble_eq_true rfl⟩ ⟨rfl, rfl⟩ (ov_obj hb _ _) rfl rfl (Nat.le_of_ble_eq_true rfl) ⟨Nat.le_of_ble_eq_true rfl, Nat.le_of_ble_eq_true rfl⟩ rfl (fun r hh hp => ?_)
        obtain ⟨hr9, rfl⟩ := hp
        rw [show (if (2 : Int32) = 0 then (0 : Int32) else 1) = 1 from by decide] at hr9
        subst hr9
        refine r_if_eq (tgt := 73) dX4_replay_68 (by decide) (fun z => absurd z (by decide)) (fun _ => ?_)
        refine r_iconst (v := 0) dX4_replay_71 (by decide) ?_
        exact kret _ _ _ _ _ _ (Nat.le_refl _) (Nat.le_refl _) dX4_replay_72 rfl (⟨by rw [mreplay, if_pos q1] <;> simp [eo, c2, c3] <;> rfl, by rw [mreplay, if_pos q1] <;> simp [eo, c2, c3] <;> rfl⟩)
      · skip
        refine r_aload_n dX4_replay_38 1 rfl ?_
        refine r_aload_n dX4_replay_39 1 rfl ?_
        refine m_geta hb hinX4_replay 8 (by decide) rfl dX4_replay_40 fwX4_replay_26 rfl ?_
        refine r_iload_n dX4_replay_43 2 rfl ?_
        refine m_ald (v := st 8 o) hb 8 o (by decide) dX4_replay_44 rfl (by show _ < 20; omega) (by decide) rfl ?_
        refine r_callVi (nn := 1) (As := [.int (st 8 o)]) (st := [.ref (b 29)]) dX4_replay_45 (tX4_isBusy hb st h0 nF nC nE w hwf (st 8 o)) gX4_replay_X4_isBusy rfl (by decide +kernel) ⟨Nat.le_of_ble_eq_true rfl, Nat.le_of_ble_eq_true rfl⟩ ⟨rfl, rfl⟩ (ov_obj hb _ _) rfl rfl (Nat.le_of_ble_eq_true rfl) ⟨Nat.le_of_ble_eq_true rfl, Nat.le_of_ble_eq_true rfl⟩ rfl (fun r hh hp => ?_)
        obtain ⟨rfl, rfl⟩ := hp
        refine r_if_ne (tgt := 60) dX4_replay_48 (by decide) (fun c4 => ?_) (fun c4 => ?_)
        · skip
          refine r_iconst (v := 2) dX4_replay_60 (by decide) ?_
          refine r_goto (tgt := 65) dX4_replay_61 (by decide) ?_
          refine r_callVi (nn := 1) (As := [.int 2]) (st := []) dX4_replay_65 (tX4_refused hb st h0 2) gX4_replay_X4_refused rfl (by decide +kernel) ⟨Nat.le_of_ble_eq_true rfl, Nat.le_of_ble_eq_true rfl⟩ ⟨rfl, rfl⟩ (ov_obj hb _ _) rfl rfl (Nat.le_of_ble_eq_true rfl) ⟨Nat.le_of_ble_eq_true rfl, Nat.le_of_ble_eq_true rfl⟩ rfl (fun r hh hp => ?_)
          obtain ⟨hr9, rfl⟩ := hp
          rw [show (if (2 : Int32) = 0 then (0 : Int32) else 1) = 1 from by decide] at hr9
          subst hr9
          refine r_if_eq (tgt := 73) dX4_replay_68 (by decide) (fun z => absurd z (by decide)) (fun _ => ?_)
          refine r_iconst (v := 0) dX4_replay_71 (by decide) ?_
          exact kret _ _ _ _ _ _ (Nat.le_refl _) (Nat.le_refl _) dX4_replay_72 rfl (⟨by rw [mreplay, if_pos q1] <;> simp [eo, c2, c3, c4] <;> rfl, by rw [mreplay, if_pos q1] <;> simp [eo, c2, c3, c4] <;> rfl⟩)
        · skip
          refine r_aload_n dX4_replay_51 1 rfl ?_
          refine m_geti (v := st 5 0) hb hinX4_replay 5 (by decide) rfl dX4_replay_52 fwX4_replay_88 rfl rfl ?_
          refine r_bipush (v := 20) dX4_replay_55 (by decide) ?_
          refine r_icmp_ne (tgt := 64) dX4_replay_57 (by decide) (fun c5 => ?_) (fun c5 => ?_)
          · skip
            refine r_iconst (v := 0) dX4_replay_64 (by decide) ?_
            refine r_callVi (nn := 1) (As := [.int 0]) (st := []) dX4_replay_65 (tX4_refused hb st h0 0) gX4_replay_X4_refused rfl (by decide +kernel) ⟨Nat.le_of_ble_eq_true rfl, Nat.le_of_ble_eq_true rfl⟩ ⟨rfl, rfl⟩ (ov_obj hb _ _) rfl rfl (Nat.le_of_ble_eq_true rfl) ⟨Nat.le_of_ble_eq_true rfl, Nat.le_of_ble_eq_true rfl⟩ rfl (fun r hh hp => ?_)
            obtain ⟨hr9, rfl⟩ := hp
            rw [show (if (0 : Int32) = 0 then (0 : Int32) else 1) = 0 from by decide] at hr9
            subst hr9
            refine r_if_eq (tgt := 73) dX4_replay_68 (by decide) (fun _ => ?_) (fun z => absurd z (by decide))
            refine r_aload_n dX4_replay_73 1 rfl ?_
            refine m_geta hb hinX4_replay 6 (by decide) rfl dX4_replay_74 fwX4_replay_20 rfl ?_
            refine r_iload_n dX4_replay_77 2 rfl ?_
            refine r_iconst (v := 2) dX4_replay_78 (by decide) ?_
            refine m_ast hb 6 o (by decide) dX4_replay_79 rfl (by show _ < 20; omega) (by decide) ?_
            refine r_aload_n dX4_replay_80 1 rfl ?_
            refine m_geta hb hinX4_replay 9 (by decide) rfl dX4_replay_81 fwX4_replay_29 rfl ?_
            refine r_iload_n dX4_replay_84 2 rfl ?_
            refine r_iconst (v := (-1)) dX4_replay_85 (by decide) ?_
            refine m_ast hb 9 o (by decide) dX4_replay_86 rfl (by show _ < 20; omega) (by decide) ?_
            refine r_iconst (v := 0) dX4_replay_87 (by decide) ?_
            refine r_istore_n (lo' := [(3, .int 0), (2, .int 1), (0, .ref (b 29)), (1, .int (nI o))]) dX4_replay_88 (by decide) rfl ?_
            refine r_lo (lo' := [(3, .int 0), (0, .ref (b 29)), (1, .int (nI o)), (2, .int 1)]) [0, 2, 3, 1] rfl ?_
            rw [← mf_self (ma (ma (ms st 0 0) 6 o 2) 9 o (-1)) 25 (strA (ma (ma (ms st 0 0) 6 o 2) 9 o (-1)) (nI o) 0) (by funext k; simp [strA])]
            refine lX4_replay_89 hb (st := (ma (ma (ms st 0 0) 6 o 2) 9 o (-1))) nF nC nE w hwf (nI o) ?_ (nE + 1) 0 (by omega) (Nat.zero_le _)
            rw [show mf (ma (ma (ms st 0 0) 6 o 2) 9 o (-1)) 25 (strA (ma (ma (ms st 0 0) 6 o 2) 9 o (-1)) (nI o) nE) = (mf (ma (ma (ms st 0 0) 6 o 2) 9 o (-1)) 25 (strA st (nI o) nE)) from rfl]
            refine r_iconst (v := 0) dX4_replay_133 (by decide) ?_
            refine r_istore_n (lo' := [(3, .int 0), (0, .ref (b 29)), (1, .int (nI o)), (2, .int 1)]) dX4_replay_134 (by decide) rfl ?_
            refine r_lo (lo' := [(3, .int 0), (0, .ref (b 29)), (1, .int (nI o)), (2, .int 1)]) [0, 1, 2, 3] rfl ?_
            rw [← mf_self (mf (ma (ma (ms st 0 0) 6 o 2) 9 o (-1)) 25 (strA st (nI o) nE)) 19 (uncA (mf (ma (ma (ms st 0 0) 6 o 2) 9 o (-1)) 25 (strA st (nI o) nE)) (nI o) 0) (by funext k; simp [uncA])]
            refine lX4_replay_135 hb (st := (mf (ma (ma (ms st 0 0) 6 o 2) 9 o (-1)) 25 (strA st (nI o) nE))) nF nC nE w hwf (nI o) ?_ (w + 1) 0 (by omega) (Nat.zero_le _)
            rw [show mf (mf (ma (ma (ms st 0 0) 6 o 2) 9 o (-1)) 25 (strA st (nI o) nE)) 19 (uncA (mf (ma (ma (ms st 0 0) 6 o 2) 9 o (-1)) 25 (strA st (nI o) nE)) (nI o) w) = (mf (mf (ma (ma (ms st 0 0) 6 o 2) 9 o (-1)) 25 (strA st (nI o) nE)) 19 (uncA st (nI o) w)) from rfl]
            refine r_aload_n dX4_replay_175 1 rfl ?_
            refine r_aload_n dX4_replay_176 1 rfl ?_
            refine m_geta hb hinX4_replay 7 (by decide) rfl dX4_replay_177 fwX4_replay_23 rfl ?_
            refine r_iload_n dX4_replay_180 2 rfl ?_
            refine m_ald (v := (mf (mf (ma (ma (ms st 0 0) 6 o 2) 9 o (-1)) 25 (strA st (nI o) nE)) 19 (uncA st (nI o) w)) 7 o) hb 7 o (by decide) dX4_replay_181 rfl (by show _ < 20; omega) (by decide) rfl ?_
            refine r_aload_n dX4_replay_182 1 rfl ?_
            refine m_geta hb hinX4_replay 8 (by decide) rfl dX4_replay_183 fwX4_replay_26 rfl ?_
            refine r_iload_n dX4_replay_186 2 rfl ?_
            refine m_ald (v := (mf (mf (ma (ma (ms st 0 0) 6 o 2) 9 o (-1)) 25 (strA st (nI o) nE)) 19 (uncA st (nI o) w)) 8 o) hb 8 o (by decide) dX4_replay_187 rfl (by show _ < 20; omega) (by decide) rfl ?_
            refine r_callVi (nn := 2) (As := [.int ((mf (mf (ma (ma (ms st 0 0) 6 o 2) 9 o (-1)) 25 (strA st (nI o) nE)) 19 (uncA st (nI o) w)) 7 o), .int ((mf (mf (ma (ma (ms st 0 0) 6 o 2) 9 o (-1)) 25 (strA st (nI o) nE)) 19 (uncA st (nI o) w)) 8 o)]) (st := []) dX4_replay_188 (tX4_begin hb (mf (mf (ma (ma (ms st 0 0) 6 o 2) 9 o (-1)) 25 (strA st (nI o) nE)) 19 (uncA st (nI o) w)) h0 nF nC nE w hwf (n20 hF20 (by rw [← hF]; assumption)) ((mf (mf (ma (ma (ms st 0 0) 6 o 2) 9 o (-1)) 25 (strA st (nI o) nE)) 19 (uncA st (nI o) w)) 7 o) ((mf (mf (ma (ma (ms st 0 0) 6 o 2) 9 o (-1)) 25 (strA st (nI o) nE)) 19 (uncA st (nI o) w)) 8 o)) gX4_replay_X4_begin rfl (by decide +kernel) ⟨Nat.le_of_ble_eq_true rfl, Nat.le_of_ble_eq_true rfl⟩ ⟨rfl, rfl⟩ (ov_obj hb _ _) rfl rfl (Nat.le_of_ble_eq_true rfl) ⟨Nat.le_of_ble_eq_true rfl, Nat.le_of_ble_eq_true rfl⟩ rfl (fun r hh hp => ?_)
            obtain ⟨rfl, rfl⟩ := hp
            exact kret _ _ _ _ _ _ (Nat.le_refl _) (Nat.le_refl _) dX4_replay_191 rfl (⟨by rw [mreplay, if_pos q1] <;> simp [eo, c2, c3, c4, c5] <;> rfl, by rw [mreplay, if_pos q1] <;> simp [eo, c2, c3, c4, c5] <;> rfl⟩)
          · skip
            refine r_iconst (v := 2) dX4_replay_60 (by decide) ?_
            refine r_goto (tgt := 65) dX4_replay_61 (by decide) ?_
            refine r_callVi (nn := 1) (As := [.int 2]) (st := []) dX4_replay_65 (tX4_refused hb st h0 2) gX4_replay_X4_refused rfl (by decide +kernel) ⟨Nat.le_of_ble_eq_true rfl, Nat.le_of_ble_eq_true rfl⟩ ⟨rfl, rfl⟩ (ov_obj hb _ _) rfl rfl (Nat.le_of_ble_eq_true rfl) ⟨Nat.le_of_ble_eq_true rfl, Nat.le_of_ble_eq_true rfl⟩ rfl (fun r hh hp => ?_)
            obtain ⟨hr9, rfl⟩ := hp
            rw [show (if (2 : Int32) = 0 then (0 : Int32) else 1) = 1 from by decide] at hr9
            subst hr9
            refine r_if_eq (tgt := 73) dX4_replay_68 (by decide) (fun z => absurd z (by decide)) (fun _ => ?_)
            refine r_iconst (v := 0) dX4_replay_71 (by decide) ?_
            exact kret _ _ _ _ _ _ (Nat.le_refl _) (Nat.le_refl _) dX4_replay_72 rfl (⟨by rw [mreplay, if_pos q1] <;> simp [eo, c2, c3, c4, c5] <;> rfl, by rw [mreplay, if_pos q1] <;> simp [eo, c2, c3, c4, c5] <;> rfl⟩)
  · skip
    refine r_istore_n (lo' := [(2, .int 0), (0, .ref (b 29)), (1, .int x)]) dX4_replay_5 (by decide) rfl ?_
    refine r_aload_n dX4_replay_6 1 rfl ?_
    refine r_iload_n dX4_replay_7 0 rfl ?_
    refine r_if_ne (tgt := 15) dX4_replay_8 (by decide) (fun z => absurd z (by decide)) (fun _ => ?_)
    refine r_iconst (v := 1) dX4_replay_11 (by decide) ?_
    refine r_goto (tgt := 65) dX4_replay_12 (by decide) ?_
    refine r_callVi (nn := 1) (As := [.int 1]) (st := []) dX4_replay_65 (tX4_refused hb st h0 1) gX4_replay_X4_refused rfl (by decide +kernel) ⟨Nat.le_of_ble_eq_true rfl, Nat.le_of_ble_eq_true rfl⟩ ⟨rfl, rfl⟩ (ov_obj hb _ _) rfl rfl (Nat.le_of_ble_eq_true rfl) ⟨Nat.le_of_ble_eq_true rfl, Nat.le_of_ble_eq_true rfl⟩ rfl (fun r hh hp => ?_)
    obtain ⟨hr9, rfl⟩ := hp
    rw [show (if (1 : Int32) = 0 then (0 : Int32) else 1) = 1 from by decide] at hr9
    subst hr9
    refine r_if_eq (tgt := 73) dX4_replay_68 (by decide) (fun z => absurd z (by decide)) (fun _ => ?_)
    refine r_iconst (v := 0) dX4_replay_71 (by decide) ?_
    exact kret _ _ _ _ _ _ (Nat.le_refl _) (Nat.le_refl _) dX4_replay_72 rfl (⟨by rw [mreplay, if_neg (by rw [q1]; decide)], by rw [mreplay, if_neg (by rw [q1]; decide)]⟩)

abbrev rmX4_camera : Room := { frames := 1, cells := 0, slots := 0, locals := 22 }
theorem hinX4_camera : ∀ w ∈ u_ws RX4 TX4 29, w ∈ wsX4_camera := by decide +kernel
theorem fwX4_camera_32 : Cond.fieldLink RX4 32 "CastdeskModel" "stamina" "[I" ∈ wsX4_camera := by decide +kernel
theorem fwX4_camera_35 : Cond.fieldLink RX4 35 "CastdeskModel" "rest" "[I" ∈ wsX4_camera := by decide +kernel
theorem fwX4_camera_118 : Cond.fieldLink RX4 118 "CastdeskModel" "cameras" "I" ∈ wsX4_camera := by decide +kernel
set_option maxHeartbeats 4000000 in
set_option maxRecDepth 100000 in
theorem tX4_camera {E : kE} {b : Nat → Nat} (hb : binj b) (st : kM) (h0 : kH) (nF nC nE w : Nat) (hwf : mwf st nF nC nE w) (x y : Int32) : kCi E yX4_camera wsX4_camera rmX4_camera 0 0 [.ref (b 29), .int x, .int y] (ov E b st h0) (fun r h' => r = (mcamera st nC x y).1 ∧ h' = ov E b (mcamera st nC x y).2 h0) := by
  obtain ⟨hF, hF20, hC, hC6, hE, hE80, hW, hW3, hpl, hof, hon, hsl⟩ := id hwf
  refine kCi_of (rt := .int) (own := RX4) (cc := cX4_camera) (maxL := 3) (by decide) rfl rfl (Nat.le_of_ble_eq_true rfl) ?_
  intro X _ kret
  refine r_lo (lo' := [(0, .ref (b 29)), (1, .int x), (2, .int y)]) [0, 1, 2] rfl ?_
  refine r_aload_n dX4_camera_0 0 rfl ?_
  refine r_iload_n dX4_camera_1 1 rfl ?_
  refine r_iconst (v := 1) dX4_camera_2 (by decide) ?_
  refine r_bipush (v := 60) dX4_camera_3 (by decide) ?_
  refine r_callSi (nn := 3) (As := [.int x, .int 1, .int 60]) (st := [.ref (b 29)]) dX4_camera_5 (tX4_in _ x 1 60) gX4_camera_X4_in rfl (by decide +kernel) ⟨Nat.le_of_ble_eq_true rfl, Nat.le_of_ble_eq_true rfl⟩ ⟨rfl, rfl⟩ rfl (Nat.le_of_ble_eq_true rfl) ⟨Nat.le_of_ble_eq_true rfl, Nat.le_of_ble_eq_true rfl⟩ rfl (fun r hh hp => ?_)
  obtain ⟨⟨q1, rfl⟩ | ⟨q1, rfl⟩, rfl⟩ := hp
  · skip
    refine r_if_eq (tgt := 21) dX4_camera_8 (by decide) (fun z => absurd z (by decide)) (fun _ => ?_)
    refine r_iload_n dX4_camera_11 2 rfl ?_
    refine r_iconst (v := 0) dX4_camera_12 (by decide) ?_
    refine r_bipush (v := 60) dX4_camera_13 (by decide) ?_
    refine r_callSi (nn := 3) (As := [.int y, .int 0, .int 60]) (st := [.ref (b 29)]) dX4_camera_15 (tX4_in _ y 0 60) gX4_camera_X4_in rfl (by decide +kernel) ⟨Nat.le_of_ble_eq_true rfl, Nat.le_of_ble_eq_true rfl⟩ ⟨rfl, rfl⟩ rfl (Nat.le_of_ble_eq_true rfl) ⟨Nat.le_of_ble_eq_true rfl, Nat.le_of_ble_eq_true rfl⟩ rfl (fun r hh hp => ?_)
    obtain ⟨⟨q2, rfl⟩ | ⟨q2, rfl⟩, rfl⟩ := hp
    · skip
      refine r_if_ne (tgt := 25) dX4_camera_18 (by decide) (fun _ => ?_) (fun z => absurd z (by decide))
      refine r_aload_n dX4_camera_25 0 rfl ?_
      refine m_geti (v := st 10 0) hb hinX4_camera 10 (by decide) rfl dX4_camera_26 fwX4_camera_118 rfl rfl ?_
      refine r_bipush (v := 6) dX4_camera_29 (by decide) ?_
      refine r_icmp_ne (tgt := 38) dX4_camera_31 (by decide) (fun c3 => ?_) (fun c3 => ?_)
      · skip
        refine r_iconst (v := 0) dX4_camera_38 (by decide) ?_
        refine r_callVi (nn := 1) (As := [.int 0]) (st := []) dX4_camera_39 (tX4_refused hb st h0 0) gX4_camera_X4_refused rfl (by decide +kernel) ⟨Nat.le_of_ble_eq_true rfl, Nat.le_of_ble_eq_true rfl⟩ ⟨rfl, rfl⟩ (ov_obj hb _ _) rfl rfl (Nat.le_of_ble_eq_true rfl) ⟨Nat.le_of_ble_eq_true rfl, Nat.le_of_ble_eq_true rfl⟩ rfl (fun r hh hp => ?_)
        obtain ⟨hr9, rfl⟩ := hp
        rw [show (if (0 : Int32) = 0 then (0 : Int32) else 1) = 0 from by decide] at hr9
        subst hr9
        refine r_if_eq (tgt := 47) dX4_camera_42 (by decide) (fun _ => ?_) (fun z => absurd z (by decide))
        refine r_aload_n dX4_camera_47 0 rfl ?_
        have hC5 : nC < 6 := n6 hC6 (by rw [← hC]; assumption)
        refine m_geta hb hinX4_camera 11 (by decide) rfl dX4_camera_48 fwX4_camera_32 rfl ?_
        refine r_aload_n dX4_camera_51 0 rfl ?_
        refine m_geti (v := nI nC) hb hinX4_camera 10 (by decide) rfl dX4_camera_52 fwX4_camera_118 rfl hC ?_
        refine r_iload_n dX4_camera_55 1 rfl ?_
        refine m_ast hb 11 nC (by decide) dX4_camera_56 rfl (by show _ < 6; omega) (by decide) ?_
        refine r_aload_n dX4_camera_57 0 rfl ?_
        refine m_geta hb hinX4_camera 12 (by decide) rfl dX4_camera_58 fwX4_camera_35 rfl ?_
        refine r_aload_n dX4_camera_61 0 rfl ?_
        refine m_geti (v := nI nC) hb hinX4_camera 10 (by decide) rfl dX4_camera_62 fwX4_camera_118 rfl hC ?_
        refine r_iload_n dX4_camera_65 2 rfl ?_
        refine m_ast hb 12 nC (by decide) dX4_camera_66 rfl (by show _ < 6; omega) (by decide) ?_
        refine r_aload_n dX4_camera_67 0 rfl ?_
        refine r_dup dX4_camera_68 rfl ?_
        refine m_geti (v := nI nC) hb hinX4_camera 10 (by decide) rfl dX4_camera_69 fwX4_camera_118 rfl hC ?_
        refine r_iconst (v := 1) dX4_camera_72 (by decide) ?_
        refine r_iadd dX4_camera_73 ?_
        rw [show (nI nC) + 1 = nI (nC + 1) from nI_add nC 1]
        refine m_puti hb hinX4_camera 10 (by decide) rfl dX4_camera_74 fwX4_camera_118 rfl rfl rfl ?_
        refine r_aload_n dX4_camera_77 0 rfl ?_
        refine m_geti (v := nI (nC + 1)) hb hinX4_camera 10 (by decide) rfl dX4_camera_78 fwX4_camera_118 rfl rfl ?_
        refine r_iconst (v := 1) dX4_camera_81 (by decide) ?_
        refine r_isub dX4_camera_82 ?_
        rw [show (nI (nC + 1)) - 1 = nI nC from nI_pred nC]
        exact kret _ _ _ _ _ _ (Nat.le_refl _) (Nat.le_refl _) dX4_camera_83 rfl (⟨by simp [mcamera, q1, q2, c3] <;> rfl, by simp [mcamera, q1, q2, c3] <;> rfl⟩)
      · skip
        refine r_iconst (v := 2) dX4_camera_34 (by decide) ?_
        refine r_goto (tgt := 39) dX4_camera_35 (by decide) ?_
        refine r_callVi (nn := 1) (As := [.int 2]) (st := []) dX4_camera_39 (tX4_refused hb st h0 2) gX4_camera_X4_refused rfl (by decide +kernel) ⟨Nat.le_of_ble_eq_true rfl, Nat.le_of_ble_eq_true rfl⟩ ⟨rfl, rfl⟩ (ov_obj hb _ _) rfl rfl (Nat.le_of_ble_eq_true rfl) ⟨Nat.le_of_ble_eq_true rfl, Nat.le_of_ble_eq_true rfl⟩ rfl (fun r hh hp => ?_)
        obtain ⟨hr9, rfl⟩ := hp
        rw [show (if (2 : Int32) = 0 then (0 : Int32) else 1) = 1 from by decide] at hr9
        subst hr9
        refine r_if_eq (tgt := 47) dX4_camera_42 (by decide) (fun z => absurd z (by decide)) (fun _ => ?_)
        refine r_iconst (v := 0) dX4_camera_45 (by decide) ?_
        exact kret _ _ _ _ _ _ (Nat.le_refl _) (Nat.le_refl _) dX4_camera_46 rfl (⟨by simp [mcamera, q1, q2, c3] <;> rfl, by simp [mcamera, q1, q2, c3] <;> rfl⟩)
    · skip
      refine r_if_ne (tgt := 25) dX4_camera_18 (by decide) (fun z => absurd z (by decide)) (fun _ => ?_)
      refine r_iconst (v := 1) dX4_camera_21 (by decide) ?_
      refine r_goto (tgt := 39) dX4_camera_22 (by decide) ?_
      refine r_callVi (nn := 1) (As := [.int 1]) (st := []) dX4_camera_39 (tX4_refused hb st h0 1) gX4_camera_X4_refused rfl (by decide +kernel) ⟨Nat.le_of_ble_eq_true rfl, Nat.le_of_ble_eq_true rfl⟩ ⟨rfl, rfl⟩ (ov_obj hb _ _) rfl rfl (Nat.le_of_ble_eq_true rfl) ⟨Nat.le_of_ble_eq_true rfl, Nat.le_of_ble_eq_true rfl⟩ rfl (fun r hh hp => ?_)
      obtain ⟨hr9, rfl⟩ := hp
      rw [show (if (1 : Int32) = 0 then (0 : Int32) else 1) = 1 from by decide] at hr9
      subst hr9
      refine r_if_eq (tgt := 47) dX4_camera_42 (by decide) (fun z => absurd z (by decide)) (fun _ => ?_)
      refine r_iconst (v := 0) dX4_camera_45 (by decide) ?_
      exact kret _ _ _ _ _ _ (Nat.le_refl _) (Nat.le_refl _) dX4_camera_46 rfl (⟨by simp [mcamera, q1, q2] <;> rfl, by simp [mcamera, q1, q2] <;> rfl⟩)
  · skip
    refine r_if_eq (tgt := 21) dX4_camera_8 (by decide) (fun _ => ?_) (fun z => absurd z (by decide))
    refine r_iconst (v := 1) dX4_camera_21 (by decide) ?_
    refine r_goto (tgt := 39) dX4_camera_22 (by decide) ?_
    refine r_callVi (nn := 1) (As := [.int 1]) (st := []) dX4_camera_39 (tX4_refused hb st h0 1) gX4_camera_X4_refused rfl (by decide +kernel) ⟨Nat.le_of_ble_eq_true rfl, Nat.le_of_ble_eq_true rfl⟩ ⟨rfl, rfl⟩ (ov_obj hb _ _) rfl rfl (Nat.le_of_ble_eq_true rfl) ⟨Nat.le_of_ble_eq_true rfl, Nat.le_of_ble_eq_true rfl⟩ rfl (fun r hh hp => ?_)
    obtain ⟨hr9, rfl⟩ := hp
    rw [show (if (1 : Int32) = 0 then (0 : Int32) else 1) = 1 from by decide] at hr9
    subst hr9
    refine r_if_eq (tgt := 47) dX4_camera_42 (by decide) (fun z => absurd z (by decide)) (fun _ => ?_)
    refine r_iconst (v := 0) dX4_camera_45 (by decide) ?_
    exact kret _ _ _ _ _ _ (Nat.le_refl _) (Nat.le_refl _) dX4_camera_46 rfl (⟨by simp [mcamera, q1] <;> rfl, by simp [mcamera, q1] <;> rfl⟩)

abbrev rmX4_see : Room := { frames := 0, cells := 0, slots := 0, locals := 0 }
theorem hinX4_see : ∀ w ∈ u_ws RX4 TX4 29, w ∈ wsX4_see := by decide +kernel
theorem fwX4_see_7 : Cond.fieldLink RX4 7 "CastdeskModel" "delay" "I" ∈ wsX4_see := by decide +kernel
theorem fwX4_see_13 : Cond.fieldLink RX4 13 "CastdeskModel" "seen" "I" ∈ wsX4_see := by decide +kernel
theorem fwX4_see_115 : Cond.fieldLink RX4 115 "CastdeskModel" "now" "I" ∈ wsX4_see := by decide +kernel
set_option maxHeartbeats 4000000 in
set_option maxRecDepth 100000 in
theorem tX4_see {E : kE} {b : Nat → Nat} (hb : binj b) (st : kM) (h0 : kH)  : kCv E yX4_see wsX4_see rmX4_see 0 0 [.ref (b 29)] (ov E b st h0) (fun h' => h' = ov E b (msee st) h0) := by
  refine kCv_of (own := RX4) (cc := cX4_see) (maxL := 1) (by decide) rfl rfl (Nat.le_of_ble_eq_true rfl) ?_
  intro X _ kret
  refine r_lo (lo' := [(0, .ref (b 29))]) [0] rfl ?_
  refine r_aload_n dX4_see_0 0 rfl ?_
  refine r_aload_n dX4_see_1 0 rfl ?_
  refine m_geti (v := st 1 0) hb hinX4_see 1 (by decide) rfl dX4_see_2 fwX4_see_115 rfl rfl ?_
  refine r_iconst (v := 1) dX4_see_5 (by decide) ?_
  refine r_isub dX4_see_6 ?_
  refine r_aload_n dX4_see_7 0 rfl ?_
  refine m_geti (v := st 2 0) hb hinX4_see 2 (by decide) rfl dX4_see_8 fwX4_see_7 rfl rfl ?_
  refine r_isub dX4_see_11 ?_
  refine r_aload_n dX4_see_12 0 rfl ?_
  refine m_geti (v := st 3 0) hb hinX4_see 3 (by decide) rfl dX4_see_13 fwX4_see_13 rfl rfl ?_
  refine r_icmp_le (tgt := 33) dX4_see_16 (by decide) (fun c1 => ?_) (fun c1 => ?_)
  · skip
    refine r_aload_n dX4_see_33 0 rfl ?_
    refine m_geti (v := st 3 0) hb hinX4_see 3 (by decide) rfl dX4_see_34 fwX4_see_13 rfl rfl ?_
    refine m_puti hb hinX4_see 3 (by decide) rfl dX4_see_37 fwX4_see_13 rfl rfl rfl ?_
    exact kret _ _ _ _ _ (Nat.le_refl _) (Nat.le_refl _) dX4_see_40 (by rw [msee]; simp [c1])
  · skip
    refine r_aload_n dX4_see_19 0 rfl ?_
    refine m_geti (v := st 1 0) hb hinX4_see 1 (by decide) rfl dX4_see_20 fwX4_see_115 rfl rfl ?_
    refine r_iconst (v := 1) dX4_see_23 (by decide) ?_
    refine r_isub dX4_see_24 ?_
    refine r_aload_n dX4_see_25 0 rfl ?_
    refine m_geti (v := st 2 0) hb hinX4_see 2 (by decide) rfl dX4_see_26 fwX4_see_7 rfl rfl ?_
    refine r_isub dX4_see_29 ?_
    refine r_goto (tgt := 37) dX4_see_30 (by decide) ?_
    refine m_puti hb hinX4_see 3 (by decide) rfl dX4_see_37 fwX4_see_13 rfl rfl rfl ?_
    exact kret _ _ _ _ _ (Nat.le_refl _) (Nat.le_refl _) dX4_see_40 (by rw [msee]; simp [c1])

abbrev rmX4_delay : Room := { frames := 1, cells := 0, slots := 0, locals := 22 }
theorem hinX4_delay : ∀ w ∈ u_ws RX4 TX4 29, w ∈ wsX4_delay := by decide +kernel
theorem fwX4_delay_7 : Cond.fieldLink RX4 7 "CastdeskModel" "delay" "I" ∈ wsX4_delay := by decide +kernel
set_option maxHeartbeats 4000000 in
set_option maxRecDepth 100000 in
theorem tX4_delay {E : kE} {b : Nat → Nat} (hb : binj b) (st : kM) (h0 : kH) (x : Int32) : kCi E yX4_delay wsX4_delay rmX4_delay 0 0 [.ref (b 29), .int x] (ov E b st h0) (fun r h' => r = (mdelay st x).1 ∧ h' = ov E b (mdelay st x).2 h0) := by
  refine kCi_of (rt := .int) (own := RX4) (cc := cX4_delay) (maxL := 3) (by decide) rfl rfl (Nat.le_of_ble_eq_true rfl) ?_
  intro X _ kret
  refine r_lo (lo' := [(0, .ref (b 29)), (1, .int x)]) [0, 1] rfl ?_
  refine r_aload_n dX4_delay_0 0 rfl ?_
  refine r_iload_n dX4_delay_1 1 rfl ?_
  refine r_iconst (v := 0) dX4_delay_2 (by decide) ?_
  refine r_bipush (v := 100) dX4_delay_3 (by decide) ?_
  refine r_callSi (nn := 3) (As := [.int x, .int 0, .int 100]) (st := [.ref (b 29)]) dX4_delay_5 (tX4_in _ x 0 100) gX4_delay_X4_in rfl (by decide +kernel) ⟨Nat.le_of_ble_eq_true rfl, Nat.le_of_ble_eq_true rfl⟩ ⟨rfl, rfl⟩ rfl (Nat.le_of_ble_eq_true rfl) ⟨Nat.le_of_ble_eq_true rfl, Nat.le_of_ble_eq_true rfl⟩ rfl (fun r hh hp => ?_)
  obtain ⟨⟨q1, rfl⟩ | ⟨q1, rfl⟩, rfl⟩ := hp
  · skip
    refine r_if_eq (tgt := 15) dX4_delay_8 (by decide) (fun z => absurd z (by decide)) (fun _ => ?_)
    refine r_iconst (v := 0) dX4_delay_11 (by decide) ?_
    refine r_goto (tgt := 16) dX4_delay_12 (by decide) ?_
    refine r_callVi (nn := 1) (As := [.int 0]) (st := []) dX4_delay_16 (tX4_refused hb st h0 0) gX4_delay_X4_refused rfl (by decide +kernel) ⟨Nat.le_of_ble_eq_true rfl, Nat.le_of_ble_eq_true rfl⟩ ⟨rfl, rfl⟩ (ov_obj hb _ _) rfl rfl (Nat.le_of_ble_eq_true rfl) ⟨Nat.le_of_ble_eq_true rfl, Nat.le_of_ble_eq_true rfl⟩ rfl (fun r hh hp => ?_)
    obtain ⟨hr9, rfl⟩ := hp
    rw [show (if (0 : Int32) = 0 then (0 : Int32) else 1) = 0 from by decide] at hr9
    subst hr9
    refine r_if_eq (tgt := 24) dX4_delay_19 (by decide) (fun _ => ?_) (fun z => absurd z (by decide))
    refine r_aload_n dX4_delay_24 0 rfl ?_
    refine m_geti (v := st 2 0) hb hinX4_delay 2 (by decide) rfl dX4_delay_25 fwX4_delay_7 rfl rfl ?_
    refine r_istore_n (lo' := [(2, .int (st 2 0)), (0, .ref (b 29)), (1, .int x)]) dX4_delay_28 (by decide) rfl ?_
    refine r_aload_n dX4_delay_29 1 rfl ?_
    refine r_iload_n dX4_delay_30 2 rfl ?_
    refine m_puti hb hinX4_delay 2 (by decide) rfl dX4_delay_31 fwX4_delay_7 rfl rfl rfl ?_
    refine r_aload_n dX4_delay_34 1 rfl ?_
    refine r_callVv (nn := 0) (As := []) (st := []) dX4_delay_35 (tX4_see hb (ms (ms st 0 0) 2 x) h0) gX4_delay_X4_see rfl (by decide +kernel) ⟨Nat.le_of_ble_eq_true rfl, Nat.le_of_ble_eq_true rfl⟩ ⟨rfl, rfl⟩ (ov_obj hb _ _) rfl rfl (Nat.le_of_ble_eq_true rfl) ⟨Nat.le_of_ble_eq_true rfl, Nat.le_of_ble_eq_true rfl⟩ rfl (fun hh hp => ?_)
    subst hp
    refine r_iload_n dX4_delay_38 0 rfl ?_
    exact kret _ _ _ _ _ _ (Nat.le_refl _) (Nat.le_refl _) dX4_delay_39 rfl (⟨by simp [mdelay, q1] <;> rfl, by simp [mdelay, q1] <;> rfl⟩)
  · skip
    refine r_if_eq (tgt := 15) dX4_delay_8 (by decide) (fun _ => ?_) (fun z => absurd z (by decide))
    refine r_iconst (v := 1) dX4_delay_15 (by decide) ?_
    refine r_callVi (nn := 1) (As := [.int 1]) (st := []) dX4_delay_16 (tX4_refused hb st h0 1) gX4_delay_X4_refused rfl (by decide +kernel) ⟨Nat.le_of_ble_eq_true rfl, Nat.le_of_ble_eq_true rfl⟩ ⟨rfl, rfl⟩ (ov_obj hb _ _) rfl rfl (Nat.le_of_ble_eq_true rfl) ⟨Nat.le_of_ble_eq_true rfl, Nat.le_of_ble_eq_true rfl⟩ rfl (fun r hh hp => ?_)
    obtain ⟨hr9, rfl⟩ := hp
    rw [show (if (1 : Int32) = 0 then (0 : Int32) else 1) = 1 from by decide] at hr9
    subst hr9
    refine r_if_eq (tgt := 24) dX4_delay_19 (by decide) (fun z => absurd z (by decide)) (fun _ => ?_)
    refine r_iconst (v := 0) dX4_delay_22 (by decide) ?_
    exact kret _ _ _ _ _ _ (Nat.le_refl _) (Nat.le_refl _) dX4_delay_23 rfl (⟨by simp [mdelay, q1] <;> rfl, by simp [mdelay, q1] <;> rfl⟩)

abbrev rmX4_owedTo : Room := { frames := 1, cells := 0, slots := 0, locals := 23 }
theorem hinX4_owedTo : ∀ w ∈ u_ws RX4 TX4 29, w ∈ wsX4_owedTo := by decide +kernel
theorem fwX4_owedTo_75 : Cond.fieldLink RX4 75 "CastdeskModel" "promises" "[I" ∈ wsX4_owedTo := by decide +kernel
set_option maxHeartbeats 4000000 in
set_option maxRecDepth 100000 in
theorem tX4_owedTo {E : kE} {b : Nat → Nat} (hb : binj b) (st : kM) (h0 : kH) (nF nC nE w : Nat) (hwf : mwf st nF nC nE w) (k : Nat) (hk : k < 6) : kCi E yX4_owedTo wsX4_owedTo rmX4_owedTo 0 0 [.ref (b 29), .int (nI k)] (ov E b st h0) (fun r h' => r = mowed st w k ∧ h' = ov E b st h0) := by
  obtain ⟨hF, hF20, hC, hC6, hE, hE80, hW, hW3, hpl, hof, hon, hsl⟩ := id hwf
  refine kCi_of (rt := .int) (own := RX4) (cc := cX4_owedTo) (maxL := 3) (by decide) rfl rfl (Nat.le_of_ble_eq_true rfl) ?_
  intro X _ kret
  refine r_lo (lo' := [(0, .ref (b 29)), (1, .int (nI k))]) [0, 1] rfl ?_
  refine r_aload_n dX4_owedTo_0 0 rfl ?_
  refine m_geta hb hinX4_owedTo 26 (by decide) rfl dX4_owedTo_1 fwX4_owedTo_75 rfl ?_
  refine r_iload_n dX4_owedTo_4 1 rfl ?_
  refine m_ald (v := st 26 k) hb 26 k (by decide) dX4_owedTo_5 rfl (by show _ < 6; omega) (by decide) rfl ?_
  refine r_aload_n dX4_owedTo_6 0 rfl ?_
  refine r_iload_n dX4_owedTo_7 1 rfl ?_
  refine r_callVi (nn := 1) (As := [.int (nI k)]) (st := [.int (st 26 k)]) dX4_owedTo_8 (tX4_countedFor hb st h0 nF nC nE w hwf (nI k)) gX4_owedTo_X4_countedFor rfl (by decide +kernel) ⟨Nat.le_of_ble_eq_true rfl, Nat.le_of_ble_eq_true rfl⟩ ⟨rfl, rfl⟩ (ov_obj hb _ _) rfl rfl (Nat.le_of_ble_eq_true rfl) ⟨Nat.le_of_ble_eq_true rfl, Nat.le_of_ble_eq_true rfl⟩ rfl (fun r hh hp => ?_)
  obtain ⟨rfl, rfl⟩ := hp
  refine r_isub dX4_owedTo_11 ?_
  refine r_istore_n (lo' := [(2, .int ((st 26 k) - (cntR (st 19) (nI k) w))), (0, .ref (b 29)), (1, .int (nI k))]) dX4_owedTo_12 (by decide) rfl ?_
  refine r_iload_n dX4_owedTo_13 0 rfl ?_
  refine r_if_ge (tgt := 21) dX4_owedTo_14 (by decide) (fun c1 => ?_) (fun c1 => ?_)
  · skip
    refine r_iload_n dX4_owedTo_21 0 rfl ?_
    exact kret _ _ _ _ _ _ (Nat.le_refl _) (Nat.le_refl _) dX4_owedTo_22 rfl (⟨by simp [mowed, c1], rfl⟩)
  · skip
    refine r_iconst (v := 0) dX4_owedTo_17 (by decide) ?_
    refine r_goto (tgt := 22) dX4_owedTo_18 (by decide) ?_
    exact kret _ _ _ _ _ _ (Nat.le_refl _) (Nat.le_refl _) dX4_owedTo_22 rfl (⟨by simp [mowed, c1], rfl⟩)

abbrev rmX4_heat : Room := { frames := 0, cells := 0, slots := 0, locals := 0 }
theorem hinX4_heat : ∀ w ∈ u_ws RX4 TX4 29, w ∈ wsX4_heat := by decide +kernel
theorem fwX4_heat_16 : Cond.fieldLink RX4 16 "CastdeskModel" "ranks" "[I" ∈ wsX4_heat := by decide +kernel
theorem fwX4_heat_23 : Cond.fieldLink RX4 23 "CastdeskModel" "first" "[I" ∈ wsX4_heat := by decide +kernel
theorem fwX4_heat_26 : Cond.fieldLink RX4 26 "CastdeskModel" "second" "[I" ∈ wsX4_heat := by decide +kernel
theorem fwX4_heat_59 : Cond.fieldLink RX4 59 "CastdeskModel" "of" "[I" ∈ wsX4_heat := by decide +kernel
theorem fwX4_heat_68 : Cond.fieldLink RX4 68 "CastdeskModel" "at" "[I" ∈ wsX4_heat := by decide +kernel
theorem fwX4_heat_112 : Cond.fieldLink RX4 112 "CastdeskModel" "entries" "I" ∈ wsX4_heat := by decide +kernel
theorem fwX4_heat_115 : Cond.fieldLink RX4 115 "CastdeskModel" "now" "I" ∈ wsX4_heat := by decide +kernel
set_option maxHeartbeats 4000000 in
set_option maxRecDepth 100000 in
theorem lX4_heat_45 {E : kE} {b : Nat → Nat} (hb : binj b) {st : kM} {h0 : kH} (nF nC nE w : Nat) (hwf : mwf st nF nC nE w) (x : Int32) (hx0 : ∃ o, o < nF ∧ x = nI o) (s g : Int32) {X : kX} (hx : ∀ v : Int32, v = hasR st x g nE → V E X rmX4_heat cX4_heat 6 wsX4_heat RX4 0 0 (ov E b st h0) [(5, .int (nI nE)), (4, .int v), (0, .ref (b 29)), (1, .int x), (2, .int s), (3, .int g)] 94 [])
    : ∀ (d i : Nat) (v : Int32), nE < i + d → i ≤ nE → v = hasR st x g i → V E X rmX4_heat cX4_heat 6 wsX4_heat RX4 0 0 (ov E b st h0) [(5, .int (nI i)), (4, .int v), (0, .ref (b 29)), (1, .int x), (2, .int s), (3, .int g)] 45 [] := by
  obtain ⟨hF, hF20, hC, hC6, hE, hE80, hW, hW3, hpl, hof, hon, hsl⟩ := id hwf
  intro d
  induction d with
  | zero =>
    intro i v h1 h2
    exact absurd h1 (by omega)
  | succ d ih =>
    intro i v h1 h2 e1
    refine r_iload dX4_heat_45 0 rfl ?_
    refine r_aload_n dX4_heat_47 2 rfl ?_
    refine m_geti (v := st 20 0) hb hinX4_heat 20 (by decide) rfl dX4_heat_48 fwX4_heat_112 rfl rfl ?_
    refine rn_icmp_ge (a := i) (c := nE) (tgt := 94) dX4_heat_51 (by decide) rfl hE (by omega) (by omega) (fun c1 => ?_) (fun c1 => ?_)
    · skip
      have hNi : nE = i := by omega
      subst hNi
      exact hx v e1
    · skip
      refine r_iload dX4_heat_54 1 rfl ?_
      refine r_if_ne (tgt := 81) dX4_heat_56 (by decide) (fun c2 => ?_) (fun c2 => ?_)
      · skip
        refine r_iconst (v := 1) dX4_heat_81 (by decide) ?_
        refine r_goto (tgt := 86) dX4_heat_82 (by decide) ?_
        refine r_istore (lo' := [(4, .int 1), (5, .int (nI i)), (0, .ref (b 29)), (1, .int x), (2, .int s), (3, .int g)]) dX4_heat_86 (by decide) rfl ?_
        refine r_iinc (v := nI (i + 1)) (lo' := [(5, .int (nI (i + 1))), (4, .int 1), (0, .ref (b 29)), (1, .int x), (2, .int s), (3, .int g)]) dX4_heat_88 1 rfl (nI_1 i) (by decide) rfl ?_
        refine r_goto (tgt := 45) dX4_heat_91 (by decide) ?_
        refine r_lo (lo' := [(5, .int (nI (i + 1))), (4, .int 1), (0, .ref (b 29)), (1, .int x), (2, .int s), (3, .int g)]) [0, 1, 2, 3, 4, 5] rfl ?_
        exact ih (i + 1) 1 (by omega) (by omega) (by first | (simp only [hasR, ← e1, if_neg c2, if_true]; done) | (simp only [hasR, ← e1]; simp [c1, c2]))
      · skip
        refine r_aload_n dX4_heat_59 2 rfl ?_
        refine m_geta hb hinX4_heat 21 (by decide) rfl dX4_heat_60 fwX4_heat_59 rfl ?_
        refine r_iload dX4_heat_63 0 rfl ?_
        refine m_ald (v := st 21 i) hb 21 i (by decide) dX4_heat_65 rfl (by show _ < 80; omega) (by decide) rfl ?_
        refine r_iload_n dX4_heat_66 3 rfl ?_
        refine r_icmp_ne (tgt := 85) dX4_heat_67 (by decide) (fun c3 => ?_) (fun c3 => ?_)
        · skip
          refine r_iconst (v := 0) dX4_heat_85 (by decide) ?_
          refine r_istore (lo' := [(4, .int 0), (5, .int (nI i)), (0, .ref (b 29)), (1, .int x), (2, .int s), (3, .int g)]) dX4_heat_86 (by decide) rfl ?_
          refine r_iinc (v := nI (i + 1)) (lo' := [(5, .int (nI (i + 1))), (4, .int 0), (0, .ref (b 29)), (1, .int x), (2, .int s), (3, .int g)]) dX4_heat_88 1 rfl (nI_1 i) (by decide) rfl ?_
          refine r_goto (tgt := 45) dX4_heat_91 (by decide) ?_
          refine r_lo (lo' := [(5, .int (nI (i + 1))), (4, .int 0), (0, .ref (b 29)), (1, .int x), (2, .int s), (3, .int g)]) [0, 1, 2, 3, 4, 5] rfl ?_
          exact ih (i + 1) 0 (by omega) (by omega) (by first | (simp only [hasR, ← e1, if_pos c2, if_neg c3, if_true]; done) | (simp only [hasR, ← e1]; simp [c1, c2, c3]))
        · skip
          refine r_aload_n dX4_heat_70 2 rfl ?_
          refine m_geta hb hinX4_heat 24 (by decide) rfl dX4_heat_71 fwX4_heat_68 rfl ?_
          refine r_iload dX4_heat_74 0 rfl ?_
          refine m_ald (v := st 24 i) hb 24 i (by decide) dX4_heat_76 rfl (by show _ < 80; omega) (by decide) rfl ?_
          refine r_iload_n dX4_heat_77 5 rfl ?_
          refine r_icmp_ne (tgt := 85) dX4_heat_78 (by decide) (fun c4 => ?_) (fun c4 => ?_)
          · skip
            refine r_iconst (v := 0) dX4_heat_85 (by decide) ?_
            refine r_istore (lo' := [(4, .int 0), (5, .int (nI i)), (0, .ref (b 29)), (1, .int x), (2, .int s), (3, .int g)]) dX4_heat_86 (by decide) rfl ?_
            refine r_iinc (v := nI (i + 1)) (lo' := [(5, .int (nI (i + 1))), (4, .int 0), (0, .ref (b 29)), (1, .int x), (2, .int s), (3, .int g)]) dX4_heat_88 1 rfl (nI_1 i) (by decide) rfl ?_
            refine r_goto (tgt := 45) dX4_heat_91 (by decide) ?_
            refine r_lo (lo' := [(5, .int (nI (i + 1))), (4, .int 0), (0, .ref (b 29)), (1, .int x), (2, .int s), (3, .int g)]) [0, 1, 2, 3, 4, 5] rfl ?_
            exact ih (i + 1) 0 (by omega) (by omega) (by first | (simp only [hasR, ← e1, if_pos c2, if_pos c3, if_neg c4, if_true]; done) | (simp only [hasR, ← e1]; simp [c1, c2, c3, c4]))
          · skip
            refine r_iconst (v := 1) dX4_heat_81 (by decide) ?_
            refine r_goto (tgt := 86) dX4_heat_82 (by decide) ?_
            refine r_istore (lo' := [(4, .int 1), (5, .int (nI i)), (0, .ref (b 29)), (1, .int x), (2, .int s), (3, .int g)]) dX4_heat_86 (by decide) rfl ?_
            refine r_iinc (v := nI (i + 1)) (lo' := [(5, .int (nI (i + 1))), (4, .int 1), (0, .ref (b 29)), (1, .int x), (2, .int s), (3, .int g)]) dX4_heat_88 1 rfl (nI_1 i) (by decide) rfl ?_
            refine r_goto (tgt := 45) dX4_heat_91 (by decide) ?_
            refine r_lo (lo' := [(5, .int (nI (i + 1))), (4, .int 1), (0, .ref (b 29)), (1, .int x), (2, .int s), (3, .int g)]) [0, 1, 2, 3, 4, 5] rfl ?_
            exact ih (i + 1) 1 (by omega) (by omega) (by first | (simp only [hasR, ← e1, if_pos c2, if_pos c3, if_pos c4, if_true]; done) | (simp only [hasR, ← e1]; simp [c1, c2, c3, c4]))

set_option maxHeartbeats 4000000 in
set_option maxRecDepth 100000 in
theorem lX4_heat_31 {E : kE} {b : Nat → Nat} (hb : binj b) {st : kM} {h0 : kH} (nF nC nE w : Nat) (hwf : mwf st nF nC nE w) (x : Int32) (hx0 : ∃ o, o < nF ∧ x = nI o)  {X : kX} (hx : ∀ g v : Int32, v = sumR st x nE 5 → V E X rmX4_heat cX4_heat 6 wsX4_heat RX4 0 0 (ov E b st h0) [(3, .int g), (2, .int v), (0, .ref (b 29)), (1, .int x)] 114 [])
    : ∀ (d i : Nat) (g v : Int32), 5 < i + d → i ≤ 5 → g = st 1 0 - 5 + nI i → v = sumR st x nE i → V E X rmX4_heat cX4_heat 6 wsX4_heat RX4 0 0 (ov E b st h0) [(3, .int g), (2, .int v), (0, .ref (b 29)), (1, .int x)] 31 [] := by
  obtain ⟨hF, hF20, hC, hC6, hE, hE80, hW, hW3, hpl, hof, hon, hsl⟩ := id hwf
  intro d
  induction d with
  | zero =>
    intro i g v h1 h2
    exact absurd h1 (by omega)
  | succ d ih =>
    intro i g v h1 h2 e0 e1
    refine r_iload_n dX4_heat_31 0 rfl ?_
    refine r_aload_n dX4_heat_32 2 rfl ?_
    refine m_geti (v := st 1 0) hb hinX4_heat 1 (by decide) rfl dX4_heat_33 fwX4_heat_115 rfl rfl ?_
    refine r_icmp_ge (tgt := 114) dX4_heat_36 (by decide) (fun c1 => ?_) (fun c1 => ?_)
    · skip
      have hN5 : i = 5 := by have z := mt (heat_c hW3 h2).mpr (by rw [← hW, ← e0]; assumption); omega
      subst hN5
      exact hx _ v e1
    · skip
      have hlt : i < 5 := (heat_c hW3 h2).mp (by rw [← hW, ← e0]; assumption)
      refine r_iconst (v := 0) dX4_heat_39 (by decide) ?_
      refine r_istore (lo' := [(4, .int 0), (3, .int g), (2, .int v), (0, .ref (b 29)), (1, .int x)]) dX4_heat_40 (by decide) rfl ?_
      refine r_iconst (v := 0) dX4_heat_42 (by decide) ?_
      refine r_istore (lo' := [(5, .int 0), (4, .int 0), (3, .int g), (2, .int v), (0, .ref (b 29)), (1, .int x)]) dX4_heat_43 (by decide) rfl ?_
      refine r_lo (lo' := [(5, .int 0), (4, .int 0), (0, .ref (b 29)), (1, .int x), (2, .int v), (3, .int g)]) [0, 1, 4, 5, 3, 2] rfl ?_
      refine lX4_heat_45 hb nF nC nE w hwf x hx0 v g (fun v2 e2 => ?_) (nE + 1) 0 _ (by omega) (Nat.zero_le _) rfl
      refine r_iload_n dX4_heat_94 4 rfl ?_
      refine r_iload dX4_heat_95 1 rfl ?_
      refine r_if_eq (tgt := 105) dX4_heat_97 (by decide) (fun c2 => ?_) (fun c2 => ?_)
      · skip
        refine r_iconst (v := 0) dX4_heat_105 (by decide) ?_
        refine r_iadd dX4_heat_106 ?_
        refine r_istore_n (lo' := [(2, .int (v + 0)), (5, .int (nI nE)), (4, .int v2), (0, .ref (b 29)), (1, .int x), (3, .int g)]) dX4_heat_107 (by decide) rfl ?_
        refine r_iinc (v := g + 1) (lo' := [(3, .int (g + 1)), (2, .int (v + 0)), (5, .int (nI nE)), (4, .int v2), (0, .ref (b 29)), (1, .int x)]) dX4_heat_108 5 rfl rfl (by decide) rfl ?_
        refine r_goto (tgt := 31) dX4_heat_111 (by decide) ?_
        refine r_lo (lo' := [(3, .int (g + 1)), (2, .int (v + 0)), (0, .ref (b 29)), (1, .int x)]) [0, 1, 4, 5] rfl ?_
        exact ih (i + 1) (g + 1) (v + 0) (by omega) hlt (by rw [e0, Int32.add_assoc, nI_1]) (by simp only [sumR, ← e1]; rw [← e0, ← e2]; simp [c2])
      · skip
        refine r_bipush (v := 10) dX4_heat_100 (by decide) ?_
        refine r_goto (tgt := 106) dX4_heat_102 (by decide) ?_
        refine r_iadd dX4_heat_106 ?_
        refine r_istore_n (lo' := [(2, .int (v + 10)), (5, .int (nI nE)), (4, .int v2), (0, .ref (b 29)), (1, .int x), (3, .int g)]) dX4_heat_107 (by decide) rfl ?_
        refine r_iinc (v := g + 1) (lo' := [(3, .int (g + 1)), (2, .int (v + 10)), (5, .int (nI nE)), (4, .int v2), (0, .ref (b 29)), (1, .int x)]) dX4_heat_108 5 rfl rfl (by decide) rfl ?_
        refine r_goto (tgt := 31) dX4_heat_111 (by decide) ?_
        refine r_lo (lo' := [(3, .int (g + 1)), (2, .int (v + 10)), (0, .ref (b 29)), (1, .int x)]) [0, 1, 4, 5] rfl ?_
        exact ih (i + 1) (g + 1) (v + 10) (by omega) hlt (by rw [e0, Int32.add_assoc, nI_1]) (by simp only [sumR, ← e1]; rw [← e0, ← e2]; simp [c2])

set_option maxHeartbeats 4000000 in
set_option maxRecDepth 100000 in
theorem tX4_heat {E : kE} {b : Nat → Nat} (hb : binj b) (st : kM) (h0 : kH) (nF nC nE w : Nat) (hwf : mwf st nF nC nE w) (x : Int32) (hx0 : ∃ o, o < nF ∧ x = nI o) : kCi E yX4_heat wsX4_heat rmX4_heat 0 0 [.ref (b 29), .int x] (ov E b st h0) (fun r h' => r = mheat st nE x ∧ h' = ov E b st h0) := by
  obtain ⟨hF, hF20, hC, hC6, hE, hE80, hW, hW3, hpl, hof, hon, hsl⟩ := id hwf
  obtain ⟨o, ho, rfl⟩ := hx0
  have eo : (nI o).toNatClampNeg = o := nI_clamp (by omega)
  refine kCi_of (rt := .int) (own := RX4) (cc := cX4_heat) (maxL := 6) (by decide) rfl rfl (Nat.le_of_ble_eq_true rfl) ?_
  intro X _ kret
  refine r_lo (lo' := [(0, .ref (b 29)), (1, .int (nI o))]) [0, 1] rfl ?_
  refine r_aload_n dX4_heat_0 0 rfl ?_
  refine m_geta hb hinX4_heat 4 (by decide) rfl dX4_heat_1 fwX4_heat_16 rfl ?_
  refine r_aload_n dX4_heat_4 0 rfl ?_
  refine m_geta hb hinX4_heat 7 (by decide) rfl dX4_heat_5 fwX4_heat_23 rfl ?_
  refine r_iload_n dX4_heat_8 1 rfl ?_
  refine m_ald (v := st 7 o) hb 7 o (by decide) dX4_heat_9 rfl (by show _ < 20; omega) (by decide) rfl ?_
  refine m_aldx (v := st 4 (st 7 o).toNatClampNeg) hb 4 (by decide) dX4_heat_10 (hpl o (by omega)).1 rfl ?_
  refine r_aload_n dX4_heat_11 0 rfl ?_
  refine m_geta hb hinX4_heat 4 (by decide) rfl dX4_heat_12 fwX4_heat_16 rfl ?_
  refine r_aload_n dX4_heat_15 0 rfl ?_
  refine m_geta hb hinX4_heat 8 (by decide) rfl dX4_heat_16 fwX4_heat_26 rfl ?_
  refine r_iload_n dX4_heat_19 1 rfl ?_
  refine m_ald (v := st 8 o) hb 8 o (by decide) dX4_heat_20 rfl (by show _ < 20; omega) (by decide) rfl ?_
  refine m_aldx (v := st 4 (st 8 o).toNatClampNeg) hb 4 (by decide) dX4_heat_21 (hpl o (by omega)).2 rfl ?_
  refine r_iadd dX4_heat_22 ?_
  refine r_istore_n (lo' := [(2, .int ((st 4 (st 7 o).toNatClampNeg) + (st 4 (st 8 o).toNatClampNeg))), (0, .ref (b 29)), (1, .int (nI o))]) dX4_heat_23 (by decide) rfl ?_
  refine r_aload_n dX4_heat_24 1 rfl ?_
  refine m_geti (v := st 1 0) hb hinX4_heat 1 (by decide) rfl dX4_heat_25 fwX4_heat_115 rfl rfl ?_
  refine r_iconst (v := 5) dX4_heat_28 (by decide) ?_
  refine r_isub dX4_heat_29 ?_
  refine r_istore_n (lo' := [(3, .int ((st 1 0) - 5)), (2, .int ((st 4 (st 7 o).toNatClampNeg) + (st 4 (st 8 o).toNatClampNeg))), (0, .ref (b 29)), (1, .int (nI o))]) dX4_heat_30 (by decide) rfl ?_
  refine r_lo (lo' := [(3, .int ((st 1 0) - 5)), (2, .int ((st 4 (st 7 o).toNatClampNeg) + (st 4 (st 8 o).toNatClampNeg))), (0, .ref (b 29)), (1, .int (nI o))]) [0, 1, 2, 3] rfl ?_
  refine lX4_heat_31 hb nF nC nE w hwf (nI o) ⟨o, ho, rfl⟩ (fun g v e1 => ?_) 6 0 _ _ (by omega) (by omega) (by rw [nI_0, Int32.add_zero]) (by simp [sumR, eo])
  refine r_iload_n dX4_heat_114 1 rfl ?_
  exact kret _ _ _ _ _ _ (Nat.le_refl _) (Nat.le_refl _) dX4_heat_115 rfl (⟨e1, rfl⟩)


