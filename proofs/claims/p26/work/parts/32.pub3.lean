theorem dRep_wf {dt : kM} {nF nC nE w o : Nat} (h : dwf dt nF nC nE w) : dwf (dRep dt o nE w) nF nC nE w := by
  unfold dRep
  exact dUnc_wf (dwf_c (dRep1_wf h) rfl rfl rfl rfl rfl rfl rfl rfl rfl)
abbrev rmX3_fight : Room := { frames := 8, cells := 12, slots := 500, locals := 397 }
theorem gxX3_fight_A : ∀ w ∈ (vx_atS RX3 66 kIA kNm).filter goodWord, w ∈ wsX3_fight := by decide +kernel
set_option maxHeartbeats 4000000 in
set_option maxRecDepth 100000 in
theorem tX3_fight {E : kE} {a cap : Nat → Nat} {h0 : kH} (dt : kM)  (nF nC nE w : Nat) (hg : dgeo E a cap nF nC nE h0) (hd : dwf dt nF nC nE w) (x y : Int32) : kXi E yX3_fight wsX3_fight rmX3_fight 12 500 [.ref (a 15), .int x, .int y] (dw E a cap nF nC nE dt h0) (fun Ec h' => ((Ec = kIO ∧ ¬ (¬ x < 0 ∧ x < 10)) ∨ (Ec = kIO ∧ (¬ x < 0 ∧ x < 10) ∧ ¬ (¬ y < 0 ∧ y < 10)) ∨ (Ec = kIA ∧ (¬ x < 0 ∧ x < 10) ∧ (¬ y < 0 ∧ y < 10) ∧ ¬ (¬ x = y)) ∨ (Ec = kIS ∧ (¬ x < 0 ∧ x < 10) ∧ (¬ y < 0 ∧ y < 10) ∧ (¬ x = y) ∧ ¬ (nF < 20 ∧ ¬ dBusy dt x y nF))) ∧ h' = dw E a cap nF nC nE dt h0) (fun r h' => (¬ x < 0 ∧ x < 10) ∧ (¬ y < 0 ∧ y < 10) ∧ (¬ x = y) ∧ (nF < 20 ∧ ¬ dBusy dt x y nF) ∧ r = nI nF ∧ ∃ a' cap' : Nat → Nat, dgeo E a' cap' (nF + 1) nC nE h0 ∧ (∀ j, j ≠ 16 → j ≠ 20 + nF → a' j = a j) ∧ h' = dw E a' cap' (nF + 1) nC nE (dBeg dt nF x y) h0) := by
  obtain ⟨hF, hF20, hC, hC6, hE, hE80, hW, hW3, hpl, hof, hsp⟩ := id hd
  refine kXi_of (rt := .int) (own := RX3) (cc := cX3_fight) (maxL := 3) (by decide) rfl rfl ⟨rfl, rfl⟩ (Nat.le_of_ble_eq_true rfl) ?_
  intro X kret kthr kout
  refine r_lo (lo' := [(0, .ref (a 15)), (1, .int x), (2, .int y)]) [0, 1, 2] rfl ?_
  refine r_iload_n dX3_fight_0 1 rfl ?_
  refine r_callXSv (nn := 1) (As := [.int x]) (st := []) dX3_fight_1 (tX3_checkPlayer x) gX3_fight_X3_checkPlayer rfl (by decide +kernel) ⟨Nat.le_of_ble_eq_true rfl, Nat.le_of_ble_eq_true rfl⟩ ⟨rfl, rfl⟩ rfl (Nat.le_of_ble_eq_true rfl) ⟨Nat.le_of_ble_eq_true rfl, Nat.le_of_ble_eq_true rfl⟩ rfl (fun Ec hh hp => kout _ _ _ _ _ _ (Nat.le_of_ble_eq_true rfl) (Nat.le_of_ble_eq_true rfl) (⟨Or.inl (⟨hp.1.1, hp.1.2⟩), hp.2⟩)) (fun hh hp => ?_)
  obtain ⟨g1, rfl⟩ := hp
  refine r_iload_n dX3_fight_4 2 rfl ?_
  refine r_callXSv (nn := 1) (As := [.int y]) (st := []) dX3_fight_5 (tX3_checkPlayer y) gX3_fight_X3_checkPlayer rfl (by decide +kernel) ⟨Nat.le_of_ble_eq_true rfl, Nat.le_of_ble_eq_true rfl⟩ ⟨rfl, rfl⟩ rfl (Nat.le_of_ble_eq_true rfl) ⟨Nat.le_of_ble_eq_true rfl, Nat.le_of_ble_eq_true rfl⟩ rfl (fun Ec hh hp => kout _ _ _ _ _ _ (Nat.le_of_ble_eq_true rfl) (Nat.le_of_ble_eq_true rfl) (⟨Or.inr (Or.inl (⟨hp.1.1, g1, hp.1.2⟩)), hp.2⟩)) (fun hh hp => ?_)
  obtain ⟨g2, rfl⟩ := hp
  refine r_iload_n dX3_fight_8 1 rfl ?_
  refine r_iload_n dX3_fight_9 2 rfl ?_
  refine r_icmp_ne (tgt := 23) dX3_fight_10 (by decide) (fun c1 => ?_) (fun c1 => ?_)
  · skip
    refine r_aload_n dX3_fight_23 0 rfl ?_
    refine r_iload_n dX3_fight_24 1 rfl ?_
    refine r_iload_n dX3_fight_25 2 rfl ?_
    refine r_callXVv (nn := 2) (As := [.int x, .int y]) (st := []) dX3_fight_26 (tX3_checkCanBegin dt nF nC nE w hg hd x y) gX3_fight_X3_checkCanBegin rfl (by decide +kernel) ⟨Nat.le_of_ble_eq_true rfl, Nat.le_of_ble_eq_true rfl⟩ ⟨rfl, rfl⟩ (dw_obj hg) rfl rfl (Nat.le_of_ble_eq_true rfl) ⟨Nat.le_of_ble_eq_true rfl, Nat.le_of_ble_eq_true rfl⟩ rfl (fun Ec hh hp => kout _ _ _ _ _ _ (Nat.le_of_ble_eq_true rfl) (Nat.le_of_ble_eq_true rfl) (⟨Or.inr (Or.inr (Or.inr ((⟨hp.1.1, g1, g2, c1, fun z => hp.1.2.elim (fun q => q z.1) (fun q => z.2 q)⟩)))), hp.2⟩)) (fun hh hp => ?_)
    obtain ⟨g4, rfl⟩ := hp
    refine r_aload_n dX3_fight_29 0 rfl ?_
    refine r_iload_n dX3_fight_30 1 rfl ?_
    refine r_iload_n dX3_fight_31 2 rfl ?_
    refine r_callVi (nn := 2) (As := [.int x, .int y]) (st := []) dX3_fight_32 (tX3_begin dt nF nC nE w hg hd g4.1 x y) gX3_fight_X3_begin rfl (by decide +kernel) ⟨Nat.le_of_ble_eq_true rfl, Nat.le_of_ble_eq_true rfl⟩ ⟨rfl, rfl⟩ (dw_obj hg) rfl rfl (Nat.le_of_ble_eq_true rfl) ⟨Nat.le_of_ble_eq_true rfl, Nat.le_of_ble_eq_true rfl⟩ rfl (fun r hh hp => ?_)
    obtain ⟨rfl, a', cap', hg', hao, rfl⟩ := hp
    exact kret _ _ _ _ _ _ (Nat.le_of_ble_eq_true rfl) (Nat.le_of_ble_eq_true rfl) dX3_fight_35 rfl (⟨g1, g2, c1, g4, rfl, a', cap', hg', hao, rfl⟩)
  · skip
    exact kthr _ _ _ _ _ [] _ (Nat.le_of_ble_eq_true rfl) (Nat.le_of_ble_eq_true rfl) ⟨_, _, _, _, _, kSt_A, rfl, (by decide +kernel), (by decide +kernel), (by decide +kernel : (64, "a fight is of two players") ∈ kStr), gxX3_fight_A, dX3_fight_13, dX3_fight_16, Or.inl ⟨rfl, dX3_fight_17⟩, dX3_fight_19, dX3_fight_22, (by decide), (Nat.le_of_ble_eq_true rfl)⟩ (⟨Or.inr (Or.inr (Or.inl (⟨rfl, g1, g2, fun z => z c1⟩))), rfl⟩)

abbrev rmX3_replay : Room := { frames := 8, cells := 12, slots := 500, locals := 397 }
theorem hinX3_replay_2 : ∀ w ∈ u_ws RX2 TX2 7, w ∈ wsX3_replay := by decide +kernel
theorem hinX3_replay_3 : ∀ w ∈ u_ws RX3 TX3 15, w ∈ wsX3_replay := by decide +kernel
theorem fwX3_replay_13 : Cond.fieldLink RX3 13 "Castdesk" "wins" "[I" ∈ wsX3_replay := by decide +kernel
theorem fwX3_replay_88 : Cond.fieldLink RX3 88 "Castdesk$Fight" "first" "I" ∈ wsX3_replay := by decide +kernel
theorem fwX3_replay_97 : Cond.fieldLink RX3 97 "Castdesk$Fight" "second" "I" ∈ wsX3_replay := by decide +kernel
theorem fwX3_replay_100 : Cond.fieldLink RX3 100 "Castdesk$Fight" "state" "I" ∈ wsX3_replay := by decide +kernel
theorem fwX3_replay_103 : Cond.fieldLink RX3 103 "Castdesk$Fight" "winner" "I" ∈ wsX3_replay := by decide +kernel
theorem gxX3_replay_S : ∀ w ∈ (vx_atS RX3 110 kIS kNm).filter goodWord, w ∈ wsX3_replay := by decide +kernel
set_option maxHeartbeats 4000000 in
set_option maxRecDepth 100000 in
theorem tX3_replay {E : kE} {a cap : Nat → Nat} {h0 : kH} (dt : kM)  (nF nC nE w : Nat) (hg : dgeo E a cap nF nC nE h0) (hd : dwf dt nF nC nE w) (x : Int32) : kXi E yX3_replay wsX3_replay rmX3_replay 12 500 [.ref (a 15), .int x] (dw E a cap nF nC nE dt h0) (fun Ec h' => ((Ec = kIO ∧ ¬ (¬ x < 0 ∧ x < nI nF)) ∨ ∃ o, o < nF ∧ x = nI o ∧ ((Ec = kIS ∧ ¬ (dt 6 o = 1)) ∨ (Ec = kIS ∧ (dt 6 o = 1) ∧ ¬ (nF < 20 ∧ ¬ dBusy dt (dt 7 o) (dt 8 o) nF)))) ∧ h' = dw E a cap nF nC nE dt h0) (fun r h' => ∃ o, o < nF ∧ x = nI o ∧ (dt 6 o = 1) ∧ (nF < 20 ∧ ¬ dBusy dt (dt 7 o) (dt 8 o) nF) ∧ r = nI nF ∧ ∃ a' cap' : Nat → Nat, dgeo E a' cap' (nF + 1) nC nE h0 ∧ (∀ j, j ≠ 16 → j ≠ 20 + nF → a' j = a j) ∧ h' = dw E a' cap' (nF + 1) nC nE (dBeg (dRep dt o nE w) nF (dRep dt o nE w 7 o) (dRep dt o nE w 8 o)) h0) := by
  obtain ⟨hF, hF20, hC, hC6, hE, hE80, hW, hW3, hpl, hof, hsp⟩ := id hd
  refine kXi_of (rt := .int) (own := RX3) (cc := cX3_replay) (maxL := 3) (by decide) rfl rfl ⟨rfl, rfl⟩ (Nat.le_of_ble_eq_true rfl) ?_
  intro X kret kthr kout
  refine r_lo (lo' := [(0, .ref (a 15)), (1, .int x)]) [0, 1] rfl ?_
  refine r_aload_n dX3_replay_0 0 rfl ?_
  refine r_iload_n dX3_replay_1 1 rfl ?_
  refine r_callXVq (nn := 1) (As := [.int x]) (st := []) dX3_replay_2 (tX3_fightNumbered dt nF nC nE w hg hd x) gX3_replay_X3_fightNumbered rfl (by decide +kernel) ⟨Nat.le_of_ble_eq_true rfl, Nat.le_of_ble_eq_true rfl⟩ ⟨rfl, rfl⟩ (dw_obj hg) rfl rfl (Nat.le_of_ble_eq_true rfl) ⟨Nat.le_of_ble_eq_true rfl, Nat.le_of_ble_eq_true rfl⟩ rfl (fun Ec hh hp => kout _ _ _ _ _ _ (Nat.le_of_ble_eq_true rfl) (Nat.le_of_ble_eq_true rfl) (⟨Or.inl ⟨hp.1.1, hp.1.2⟩, hp.2⟩)) (fun r hh hp => ?_)
  obtain ⟨o, ho, rfl, rfl, rfl⟩ := hp
  refine r_astore_n (lo' := [(2, .ref (a (20 + o))), (0, .ref (a 15)), (1, .int (nI o))]) dX3_replay_5 (by decide) rfl ?_
  refine r_aload_n dX3_replay_6 0 rfl ?_
  refine r_get (C := RX2) (b := .int (dt 6 o)) dX3_replay_7 hinX3_replay_2 (dw_fgt hg (by omega)) rfl 3 (by decide) fwX3_replay_100 rfl rfl ?_
  refine r_iconst (v := 1) dX3_replay_10 (by decide) ?_
  refine r_icmp_eq (tgt := 24) dX3_replay_11 (by decide) (fun c1 => ?_) (fun c1 => ?_)
  · skip
    refine r_aload_n dX3_replay_24 1 rfl ?_
    refine r_aload_n dX3_replay_25 0 rfl ?_
    refine r_get (C := RX2) (b := .int (dt 7 o)) dX3_replay_26 hinX3_replay_2 (dw_fgt hg (by omega)) rfl 1 (by decide) fwX3_replay_88 rfl rfl ?_
    refine r_aload_n dX3_replay_29 0 rfl ?_
    refine r_get (C := RX2) (b := .int (dt 8 o)) dX3_replay_30 hinX3_replay_2 (dw_fgt hg (by omega)) rfl 2 (by decide) fwX3_replay_97 rfl rfl ?_
    refine r_callXVv (nn := 2) (As := [.int (dt 7 o), .int (dt 8 o)]) (st := []) dX3_replay_33 (tX3_checkCanBegin dt nF nC nE w hg hd (dt 7 o) (dt 8 o)) gX3_replay_X3_checkCanBegin rfl (by decide +kernel) ⟨Nat.le_of_ble_eq_true rfl, Nat.le_of_ble_eq_true rfl⟩ ⟨rfl, rfl⟩ (dw_obj hg) rfl rfl (Nat.le_of_ble_eq_true rfl) ⟨Nat.le_of_ble_eq_true rfl, Nat.le_of_ble_eq_true rfl⟩ rfl (fun Ec hh hp => kout _ _ _ _ _ _ (Nat.le_of_ble_eq_true rfl) (Nat.le_of_ble_eq_true rfl) (⟨Or.inr ⟨o, ho, rfl, Or.inr ((⟨hp.1.1, c1, fun z => hp.1.2.elim (fun q => q z.1) (fun q => z.2 q)⟩))⟩, hp.2⟩)) (fun hh hp => ?_)
    obtain ⟨g2, rfl⟩ := hp
    refine r_aload_n dX3_replay_36 0 rfl ?_
    refine r_get (C := RX2) (b := .int (dt 9 o)) dX3_replay_37 hinX3_replay_2 (dw_fgt hg (by omega)) rfl 4 (by decide) fwX3_replay_103 rfl rfl ?_
    refine r_iconst (v := (-1)) dX3_replay_40 (by decide) ?_
    refine r_icmp_eq (tgt := 62) dX3_replay_41 (by decide) (fun c2 => ?_) (fun c2 => ?_)
    · skip
      refine r_aload_n dX3_replay_62 0 rfl ?_
      refine r_iconst (v := 2) dX3_replay_63 (by decide) ?_
      refine d_putF hg (by omega) hinX3_replay_2 3 6 (by decide) dX3_replay_64 fwX3_replay_100 rfl rfl rfl ?_
      refine r_aload_n dX3_replay_67 1 rfl ?_
      refine r_aload_n dX3_replay_68 0 rfl ?_
      refine r_callVv (nn := 1) (As := [.ref (a (20 + o))]) (st := []) dX3_replay_69 (tX3_strikeAllOf (ma dt 6 o 2) nF nC nE w hg (dwf_c hd rfl rfl rfl rfl rfl rfl rfl rfl rfl) o ho) gX3_replay_X3_strikeAllOf rfl (by decide +kernel) ⟨Nat.le_of_ble_eq_true rfl, Nat.le_of_ble_eq_true rfl⟩ ⟨rfl, rfl⟩ (dw_obj hg) rfl rfl (Nat.le_of_ble_eq_true rfl) ⟨Nat.le_of_ble_eq_true rfl, Nat.le_of_ble_eq_true rfl⟩ rfl (fun hh hp => ?_)
      subst hp
      refine r_aload_n dX3_replay_72 1 rfl ?_
      refine r_aload_n dX3_replay_73 0 rfl ?_
      refine r_callVv (nn := 1) (As := [.ref (a (20 + o))]) (st := []) dX3_replay_74 (tX3_uncountFramesOf (mf (ma dt 6 o 2) 25 (dStr (ma dt 6 o 2) o nE)) nF nC nE w hg (dwf_c (dwf_c hd rfl rfl rfl rfl rfl rfl rfl rfl rfl) rfl rfl rfl rfl rfl rfl rfl rfl rfl) o ho) gX3_replay_X3_uncountFramesOf rfl (by decide +kernel) ⟨Nat.le_of_ble_eq_true rfl, Nat.le_of_ble_eq_true rfl⟩ ⟨rfl, rfl⟩ (dw_obj hg) rfl rfl (Nat.le_of_ble_eq_true rfl) ⟨Nat.le_of_ble_eq_true rfl, Nat.le_of_ble_eq_true rfl⟩ rfl (fun hh hp => ?_)
      subst hp
      rw [show dUnc (mf (ma dt 6 o 2) 25 (dStr (ma dt 6 o 2) o nE)) o w = dRep dt o nE w from by rw [dRep, dRep1, if_pos c2]]
      refine r_aload_n dX3_replay_77 1 rfl ?_
      refine r_aload_n dX3_replay_78 0 rfl ?_
      refine r_get (C := RX2) (b := .int (dRep dt o nE w 7 o)) dX3_replay_79 hinX3_replay_2 (dw_fgt hg (by omega)) rfl 1 (by decide) fwX3_replay_88 rfl rfl ?_
      refine r_aload_n dX3_replay_82 0 rfl ?_
      refine r_get (C := RX2) (b := .int (dRep dt o nE w 8 o)) dX3_replay_83 hinX3_replay_2 (dw_fgt hg (by omega)) rfl 2 (by decide) fwX3_replay_97 rfl rfl ?_
      refine r_callVi (nn := 2) (As := [.int (dRep dt o nE w 7 o), .int (dRep dt o nE w 8 o)]) (st := []) dX3_replay_86 (tX3_begin (dRep dt o nE w) nF nC nE w hg (dRep_wf hd) g2.1 (dRep dt o nE w 7 o) (dRep dt o nE w 8 o)) gX3_replay_X3_begin rfl (by decide +kernel) ⟨Nat.le_of_ble_eq_true rfl, Nat.le_of_ble_eq_true rfl⟩ ⟨rfl, rfl⟩ (dw_obj hg) rfl rfl (Nat.le_of_ble_eq_true rfl) ⟨Nat.le_of_ble_eq_true rfl, Nat.le_of_ble_eq_true rfl⟩ rfl (fun r hh hp => ?_)
      obtain ⟨rfl, a', cap', hg', hao, rfl⟩ := hp
      exact kret _ _ _ _ _ _ (Nat.le_of_ble_eq_true rfl) (Nat.le_of_ble_eq_true rfl) dX3_replay_89 rfl (⟨o, ho, rfl, c1, g2, rfl, a', cap', hg', hao, rfl⟩)
    · skip
      refine r_aload_n dX3_replay_44 1 rfl ?_
      refine r_get (C := RX3) (b := .ref (a 1)) dX3_replay_45 hinX3_replay_3 (dw_obj hg) rfl 1 (by decide) fwX3_replay_13 rfl rfl ?_
      refine r_aload_n dX3_replay_48 0 rfl ?_
      refine r_get (C := RX2) (b := .int (dt 9 o)) dX3_replay_49 hinX3_replay_2 (dw_fgt hg (by omega)) rfl 4 (by decide) fwX3_replay_103 rfl rfl ?_
      refine r_dup2 dX3_replay_52 rfl rfl ?_
      refine d_aldx (v := dt 30 (dt 9 o).toNatClampNeg) hg 1 30 (by decide) rfl dX3_replay_53 ((hpl o ho).2.2.resolve_left c2) rfl ?_
      refine r_iconst (v := 1) dX3_replay_54 (by decide) ?_
      refine r_isub dX3_replay_55 ?_
      refine d_astx hg 1 30 (by decide) rfl dX3_replay_56 ((hpl o ho).2.2.resolve_left c2) ?_
      refine r_aload_n dX3_replay_57 0 rfl ?_
      refine r_iconst (v := (-1)) dX3_replay_58 (by decide) ?_
      refine d_putF hg (by omega) hinX3_replay_2 4 9 (by decide) dX3_replay_59 fwX3_replay_103 rfl rfl rfl ?_
      refine r_aload_n dX3_replay_62 0 rfl ?_
      refine r_iconst (v := 2) dX3_replay_63 (by decide) ?_
      refine d_putF hg (by omega) hinX3_replay_2 3 6 (by decide) dX3_replay_64 fwX3_replay_100 rfl rfl rfl ?_
      refine r_aload_n dX3_replay_67 1 rfl ?_
      refine r_aload_n dX3_replay_68 0 rfl ?_
      refine r_callVv (nn := 1) (As := [.ref (a (20 + o))]) (st := []) dX3_replay_69 (tX3_strikeAllOf (ma (ma (ma dt 30 ((dt 9 o).toNatClampNeg) ((dt 30 (dt 9 o).toNatClampNeg) - 1)) 9 o (-1)) 6 o 2) nF nC nE w hg (dwf_c (dwf_9 (dwf_c hd rfl rfl rfl rfl rfl rfl rfl rfl rfl) (Or.inl rfl)) rfl rfl rfl rfl rfl rfl rfl rfl rfl) o ho) gX3_replay_X3_strikeAllOf rfl (by decide +kernel) ⟨Nat.le_of_ble_eq_true rfl, Nat.le_of_ble_eq_true rfl⟩ ⟨rfl, rfl⟩ (dw_obj hg) rfl rfl (Nat.le_of_ble_eq_true rfl) ⟨Nat.le_of_ble_eq_true rfl, Nat.le_of_ble_eq_true rfl⟩ rfl (fun hh hp => ?_)
      subst hp
      refine r_aload_n dX3_replay_72 1 rfl ?_
      refine r_aload_n dX3_replay_73 0 rfl ?_
      refine r_callVv (nn := 1) (As := [.ref (a (20 + o))]) (st := []) dX3_replay_74 (tX3_uncountFramesOf (mf (ma (ma (ma dt 30 ((dt 9 o).toNatClampNeg) ((dt 30 (dt 9 o).toNatClampNeg) - 1)) 9 o (-1)) 6 o 2) 25 (dStr (ma (ma (ma dt 30 ((dt 9 o).toNatClampNeg) ((dt 30 (dt 9 o).toNatClampNeg) - 1)) 9 o (-1)) 6 o 2) o nE)) nF nC nE w hg (dwf_c (dwf_c (dwf_9 (dwf_c hd rfl rfl rfl rfl rfl rfl rfl rfl rfl) (Or.inl rfl)) rfl rfl rfl rfl rfl rfl rfl rfl rfl) rfl rfl rfl rfl rfl rfl rfl rfl rfl) o ho) gX3_replay_X3_uncountFramesOf rfl (by decide +kernel) ⟨Nat.le_of_ble_eq_true rfl, Nat.le_of_ble_eq_true rfl⟩ ⟨rfl, rfl⟩ (dw_obj hg) rfl rfl (Nat.le_of_ble_eq_true rfl) ⟨Nat.le_of_ble_eq_true rfl, Nat.le_of_ble_eq_true rfl⟩ rfl (fun hh hp => ?_)
      subst hp
      rw [show dUnc (mf (ma (ma (ma dt 30 ((dt 9 o).toNatClampNeg) ((dt 30 (dt 9 o).toNatClampNeg) - 1)) 9 o (-1)) 6 o 2) 25 (dStr (ma (ma (ma dt 30 ((dt 9 o).toNatClampNeg) ((dt 30 (dt 9 o).toNatClampNeg) - 1)) 9 o (-1)) 6 o 2) o nE)) o w = dRep dt o nE w from by rw [dRep, dRep1, if_neg c2]]
      refine r_aload_n dX3_replay_77 1 rfl ?_
      refine r_aload_n dX3_replay_78 0 rfl ?_
      refine r_get (C := RX2) (b := .int (dRep dt o nE w 7 o)) dX3_replay_79 hinX3_replay_2 (dw_fgt hg (by omega)) rfl 1 (by decide) fwX3_replay_88 rfl rfl ?_
      refine r_aload_n dX3_replay_82 0 rfl ?_
      refine r_get (C := RX2) (b := .int (dRep dt o nE w 8 o)) dX3_replay_83 hinX3_replay_2 (dw_fgt hg (by omega)) rfl 2 (by decide) fwX3_replay_97 rfl rfl ?_
      refine r_callVi (nn := 2) (As := [.int (dRep dt o nE w 7 o), .int (dRep dt o nE w 8 o)]) (st := []) dX3_replay_86 (tX3_begin (dRep dt o nE w) nF nC nE w hg (dRep_wf hd) g2.1 (dRep dt o nE w 7 o) (dRep dt o nE w 8 o)) gX3_replay_X3_begin rfl (by decide +kernel) ⟨Nat.le_of_ble_eq_true rfl, Nat.le_of_ble_eq_true rfl⟩ ⟨rfl, rfl⟩ (dw_obj hg) rfl rfl (Nat.le_of_ble_eq_true rfl) ⟨Nat.le_of_ble_eq_true rfl, Nat.le_of_ble_eq_true rfl⟩ rfl (fun r hh hp => ?_)
      obtain ⟨rfl, a', cap', hg', hao, rfl⟩ := hp
      exact kret _ _ _ _ _ _ (Nat.le_of_ble_eq_true rfl) (Nat.le_of_ble_eq_true rfl) dX3_replay_89 rfl (⟨o, ho, rfl, c1, g2, rfl, a', cap', hg', hao, rfl⟩)
  · skip
    exact kthr _ _ _ _ _ [] _ (Nat.le_of_ble_eq_true rfl) (Nat.le_of_ble_eq_true rfl) ⟨_, _, _, _, _, kSt_S, rfl, (by decide +kernel), (by decide +kernel), (by decide +kernel : (108, "the fight is not over") ∈ kStr), gxX3_replay_S, dX3_replay_14, dX3_replay_17, Or.inl ⟨rfl, dX3_replay_18⟩, dX3_replay_20, dX3_replay_23, (by decide), (Nat.le_of_ble_eq_true rfl)⟩ (⟨Or.inr ⟨o, ho, rfl, Or.inl (⟨rfl, c1⟩)⟩, rfl⟩)

abbrev rmX3_camera : Room := { frames := 7, cells := 12, slots := 500, locals := 374 }
theorem hinX3_camera_0 : ∀ w ∈ u_ws RX0 TX0 4, w ∈ wsX3_camera := by decide +kernel
theorem hinX3_camera_3 : ∀ w ∈ u_ws RX3 TX3 15, w ∈ wsX3_camera := by decide +kernel
theorem fwX3_camera_23 : Cond.fieldLink RX3 23 "Castdesk" "cameras" "Ljava/util/ArrayList;" ∈ wsX3_camera := by decide +kernel
theorem gxX3_camera_S : ∀ w ∈ (vx_atS RX3 110 kIS kNm).filter goodWord, w ∈ wsX3_camera := by decide +kernel
set_option maxHeartbeats 4000000 in
set_option maxRecDepth 100000 in
theorem tX3_camera {E : kE} {a cap : Nat → Nat} {h0 : kH} (dt : kM)  (nF nC nE w : Nat) (hg : dgeo E a cap nF nC nE h0) (hd : dwf dt nF nC nE w) (x y : Int32) : kXi E yX3_camera wsX3_camera rmX3_camera 12 500 [.ref (a 15), .int x, .int y] (dw E a cap nF nC nE dt h0) (fun Ec h' => ((Ec = kIA ∧ ¬ (¬ x < 1 ∧ ¬ 60 < x)) ∨ (Ec = kIA ∧ (¬ x < 1 ∧ ¬ 60 < x) ∧ ¬ (¬ y < 0 ∧ ¬ 60 < y)) ∨ (Ec = kIS ∧ (¬ x < 1 ∧ ¬ 60 < x) ∧ (¬ y < 0 ∧ ¬ 60 < y) ∧ ¬ (nC < 6))) ∧ h' = dw E a cap nF nC nE dt h0) (fun r h' => (¬ x < 1 ∧ ¬ 60 < x) ∧ (¬ y < 0 ∧ ¬ 60 < y) ∧ (nC < 6) ∧ r = nI nC ∧ ∃ a' cap' : Nat → Nat, dgeo E a' cap' nF (nC + 1) nE h0 ∧ (∀ j, j ≠ 17 → j ≠ 40 + nC → a' j = a j) ∧ h' = dw E a' cap' nF (nC + 1) nE (dCamN dt nC x y) h0) := by
  obtain ⟨hF, hF20, hC, hC6, hE, hE80, hW, hW3, hpl, hof, hsp⟩ := id hd
  refine kXi_of (rt := .int) (own := RX3) (cc := cX3_camera) (maxL := 3) (by decide) rfl rfl ⟨rfl, rfl⟩ (Nat.le_of_ble_eq_true rfl) ?_
  intro X kret kthr kout
  refine r_lo (lo' := [(0, .ref (a 15)), (1, .int x), (2, .int y)]) [0, 1, 2] rfl ?_
  refine r_iload_n dX3_camera_0 1 rfl ?_
  refine r_iconst (v := 1) dX3_camera_1 (by decide) ?_
  refine r_bipush (v := 60) dX3_camera_2 (by decide) ?_
  refine r_callXSv (nn := 3) (As := [.int x, .int 1, .int 60]) (st := []) dX3_camera_4 (tX3_checkRange x 1 60) gX3_camera_X3_checkRange rfl (by decide +kernel) ⟨Nat.le_of_ble_eq_true rfl, Nat.le_of_ble_eq_true rfl⟩ ⟨rfl, rfl⟩ rfl (Nat.le_of_ble_eq_true rfl) ⟨Nat.le_of_ble_eq_true rfl, Nat.le_of_ble_eq_true rfl⟩ rfl (fun Ec hh hp => kout _ _ _ _ _ _ (Nat.le_of_ble_eq_true rfl) (Nat.le_of_ble_eq_true rfl) (⟨Or.inl (⟨hp.1.1, hp.1.2⟩), hp.2⟩)) (fun hh hp => ?_)
  obtain ⟨g1, rfl⟩ := hp
  refine r_iload_n dX3_camera_7 2 rfl ?_
  refine r_iconst (v := 0) dX3_camera_8 (by decide) ?_
  refine r_bipush (v := 60) dX3_camera_9 (by decide) ?_
  refine r_callXSv (nn := 3) (As := [.int y, .int 0, .int 60]) (st := []) dX3_camera_11 (tX3_checkRange y 0 60) gX3_camera_X3_checkRange rfl (by decide +kernel) ⟨Nat.le_of_ble_eq_true rfl, Nat.le_of_ble_eq_true rfl⟩ ⟨rfl, rfl⟩ rfl (Nat.le_of_ble_eq_true rfl) ⟨Nat.le_of_ble_eq_true rfl, Nat.le_of_ble_eq_true rfl⟩ rfl (fun Ec hh hp => kout _ _ _ _ _ _ (Nat.le_of_ble_eq_true rfl) (Nat.le_of_ble_eq_true rfl) (⟨Or.inr (Or.inl (⟨hp.1.1, g1, hp.1.2⟩)), hp.2⟩)) (fun hh hp => ?_)
  obtain ⟨g2, rfl⟩ := hp
  refine r_aload_n dX3_camera_14 0 rfl ?_
  refine r_get (C := RX3) (b := .ref (a 3)) dX3_camera_15 hinX3_camera_3 (dw_obj hg) rfl 3 (by decide) fwX3_camera_23 rfl rfl ?_
  refine r_callVi (nn := 0) (As := []) (st := []) dX3_camera_18 (tJx4a65c_size_8abf5 _ _ _ _ (dw_lstN hg (k := 3) (by decide) hC)) gX3_camera_Jx4a65c_size_8abf5 rfl (by decide +kernel) ⟨Nat.le_of_ble_eq_true rfl, Nat.le_of_ble_eq_true rfl⟩ ⟨rfl, rfl⟩ (dw_lstN hg (k := 3) (by decide) hC) rfl rfl (Nat.le_of_ble_eq_true rfl) ⟨Nat.le_of_ble_eq_true rfl, Nat.le_of_ble_eq_true rfl⟩ rfl (fun r hh hp => ?_)
  obtain ⟨rfl, rfl⟩ := hp
  refine r_bipush (v := 6) dX3_camera_21 (by decide) ?_
  refine rn_icmp_lt (a := nC) (c := 6) (tgt := 36) dX3_camera_23 (by decide) rfl rfl (by omega) (by omega) (fun c1 => ?_) (fun c1 => ?_)
  · skip
    have hn : nC < 6 := c1
    refine r_aload_n dX3_camera_36 0 rfl ?_
    refine r_get (C := RX3) (b := .ref (a 3)) dX3_camera_37 hinX3_camera_3 (dw_obj hg) rfl 3 (by decide) fwX3_camera_23 rfl rfl ?_
    refine r_new (C := RX0) (T := TX0) (N := 4) (ci := 0) (fs := [.int 0, .int 0, .int 0, .int 0]) dX3_camera_40 hinX3_camera_0 tyX0 tyX0_ok (by decide +kernel : Cond.classLink RX3 123 RX0 ∈ wsX3_camera) (by decide +kernel) (by decide +kernel) rfl (by decide +kernel) (Nat.le_of_ble_eq_true rfl) (Nat.le_of_ble_eq_true rfl) (fun q hq => ?_)
    refine r_dup dX3_camera_43 rfl ?_
    refine r_iload_n dX3_camera_44 1 rfl ?_
    refine r_iload_n dX3_camera_45 2 rfl ?_
    refine r_callIv (nn := 2) (As := [.int x, .int y]) (st := [.ref q, .ref (a 3)]) dX3_camera_46 (tX0_init q x y (kup_s _ _ _)) gX3_camera_X0_init (by decide +kernel) (by decide +kernel) (by decide +kernel) rfl rfl (by decide +kernel) ⟨Nat.le_of_ble_eq_true rfl, Nat.le_of_ble_eq_true rfl⟩ ⟨rfl, rfl⟩ rfl (Nat.le_of_ble_eq_true rfl) ⟨Nat.le_of_ble_eq_true rfl, Nat.le_of_ble_eq_true rfl⟩ rfl (fun hh hp => ?_)
    rw [kup_kup] at hp
    subst hp
    have hne : a 3 ≠ q := fun z => by rw [← z, dw_lst hg (k := 3) (by decide)] at hq; cases hq
    refine r_callVi (nn := 1) (As := [.ref q]) (st := []) dX3_camera_49 (tadd_C dt nF nC nE w hg hd hn x y q hq) gX3_camera_Jx4a65c_add_9ea2d rfl (by decide +kernel) ⟨Nat.le_of_ble_eq_true rfl, Nat.le_of_ble_eq_true rfl⟩ ⟨rfl, rfl⟩ (by rw [kup_n _ _ hne]; exact dw_lstN hg (k := 3) (by decide) hC) rfl rfl (Nat.le_of_ble_eq_true rfl) ⟨Nat.le_of_ble_eq_true rfl, Nat.le_of_ble_eq_true rfl⟩ rfl (fun r hh hp => ?_)
    obtain ⟨rfl, a', cap', hg', hao, rfl⟩ := hp
    refine r_pop dX3_camera_52 rfl ?_
    have e15 : a' 15 = a 15 := hao 15 (by decide) (by omega)
    rw [← e15]
    refine r_aload_n dX3_camera_53 0 rfl ?_
    refine r_get (C := RX3) (b := .ref (a' 3)) dX3_camera_54 hinX3_camera_3 (dw_obj hg') rfl 3 (by decide) fwX3_camera_23 rfl rfl ?_
    refine r_callVi (nn := 0) (As := []) (st := []) dX3_camera_57 (tJx4a65c_size_8abf5 _ _ _ _ (dw_lstN hg' (k := 3) (by decide) (show dCamN dt nC x y 10 0 = nI (nC + 1) from rfl))) gX3_camera_Jx4a65c_size_8abf5 rfl (by decide +kernel) ⟨Nat.le_of_ble_eq_true rfl, Nat.le_of_ble_eq_true rfl⟩ ⟨rfl, rfl⟩ (dw_lstN hg' (k := 3) (by decide) (show dCamN dt nC x y 10 0 = nI (nC + 1) from rfl)) rfl rfl (Nat.le_of_ble_eq_true rfl) ⟨Nat.le_of_ble_eq_true rfl, Nat.le_of_ble_eq_true rfl⟩ rfl (fun r hh hp => ?_)
    obtain ⟨rfl, rfl⟩ := hp
    refine r_iconst (v := 1) dX3_camera_60 (by decide) ?_
    refine r_isub dX3_camera_61 ?_
    rw [nI_pred]
    exact kret _ _ _ _ _ _ (Nat.le_of_ble_eq_true rfl) (Nat.le_of_ble_eq_true rfl) dX3_camera_62 rfl (⟨g1, g2, hn, rfl, a', cap', hg', hao, rfl⟩)
  · skip
    exact kthr _ _ _ _ _ [] _ (Nat.le_of_ble_eq_true rfl) (Nat.le_of_ble_eq_true rfl) ⟨_, _, _, _, _, kSt_S, rfl, (by decide +kernel), (by decide +kernel), (by decide +kernel : (121, "there are 6 cameras") ∈ kStr), gxX3_camera_S, dX3_camera_26, dX3_camera_29, Or.inl ⟨rfl, dX3_camera_30⟩, dX3_camera_32, dX3_camera_35, (by decide), (Nat.le_of_ble_eq_true rfl)⟩ (⟨Or.inr (Or.inr ((⟨rfl, g1, g2, (by omega)⟩))), rfl⟩)

abbrev rmX3_blow : Room := { frames := 7, cells := 12, slots := 500, locals := 374 }
theorem hinX3_blow_1 : ∀ w ∈ u_ws RX1 TX1 5, w ∈ wsX3_blow := by decide +kernel
theorem hinX3_blow_3 : ∀ w ∈ u_ws RX3 TX3 15, w ∈ wsX3_blow := by decide +kernel
theorem fwX3_blow_26 : Cond.fieldLink RX3 26 "Castdesk" "entries" "Ljava/util/ArrayList;" ∈ wsX3_blow := by decide +kernel
theorem fwX3_blow_85 : Cond.fieldLink RX3 85 "Castdesk" "now" "I" ∈ wsX3_blow := by decide +kernel
theorem gxX3_blow_A : ∀ w ∈ (vx_atS RX3 66 kIA kNm).filter goodWord, w ∈ wsX3_blow := by decide +kernel
theorem gxX3_blow_S : ∀ w ∈ (vx_atS RX3 110 kIS kNm).filter goodWord, w ∈ wsX3_blow := by decide +kernel
set_option maxHeartbeats 4000000 in
set_option maxRecDepth 100000 in
theorem tX3_blow {E : kE} {a cap : Nat → Nat} {h0 : kH} (dt : kM)  (nF nC nE w : Nat) (hg : dgeo E a cap nF nC nE h0) (hd : dwf dt nF nC nE w) (x y z : Int32) : kXi E yX3_blow wsX3_blow rmX3_blow 12 500 [.ref (a 15), .int x, .int y, .int z] (dw E a cap nF nC nE dt h0) (fun Ec h' => ((Ec = kIO ∧ ¬ (¬ x < 0 ∧ x < nI nF)) ∨ ∃ o, o < nF ∧ x = nI o ∧ ((Ec = kIO ∧ ¬ (¬ y < 0 ∧ y < 10)) ∨ (Ec = kIA ∧ (¬ y < 0 ∧ y < 10) ∧ ¬ (¬ z < 1 ∧ ¬ 9 < z)) ∨ (Ec = kIA ∧ (¬ y < 0 ∧ y < 10) ∧ (¬ z < 1 ∧ ¬ 9 < z) ∧ ¬ (¬ dIsOf dt o y = 0)) ∨ (Ec = kIS ∧ (¬ y < 0 ∧ y < 10) ∧ (¬ z < 1 ∧ ¬ 9 < z) ∧ (¬ dIsOf dt o y = 0) ∧ ¬ (dt 6 o = 0)) ∨ (Ec = kIS ∧ (¬ y < 0 ∧ y < 10) ∧ (¬ z < 1 ∧ ¬ 9 < z) ∧ (¬ dIsOf dt o y = 0) ∧ (dt 6 o = 0) ∧ ¬ (nE < 80)))) ∧ h' = dw E a cap nF nC nE dt h0) (fun r h' => ∃ o, o < nF ∧ x = nI o ∧ (¬ y < 0 ∧ y < 10) ∧ (¬ z < 1 ∧ ¬ 9 < z) ∧ (¬ dIsOf dt o y = 0) ∧ (dt 6 o = 0) ∧ (nE < 80) ∧ r = nI nE ∧ ∃ a' cap' : Nat → Nat, dgeo E a' cap' nF nC (nE + 1) h0 ∧ (∀ j, j ≠ 18 → j ≠ 50 + nE → a' j = a j) ∧ h' = dw E a' cap' nF nC (nE + 1) (dEnt (ma dt 32 o (dt 32 o ||| 1)) nE (nI o) y (nI w) z) h0) := by
  obtain ⟨hF, hF20, hC, hC6, hE, hE80, hW, hW3, hpl, hof, hsp⟩ := id hd
  refine kXi_of (rt := .int) (own := RX3) (cc := cX3_blow) (maxL := 5) (by decide) rfl rfl ⟨rfl, rfl⟩ (Nat.le_of_ble_eq_true rfl) ?_
  intro X kret kthr kout
  refine r_lo (lo' := [(0, .ref (a 15)), (1, .int x), (2, .int y), (3, .int z)]) [0, 1, 2, 3] rfl ?_
  refine r_aload_n dX3_blow_0 0 rfl ?_
  refine r_iload_n dX3_blow_1 1 rfl ?_
  refine r_callXVq (nn := 1) (As := [.int x]) (st := []) dX3_blow_2 (tX3_fightNumbered dt nF nC nE w hg hd x) gX3_blow_X3_fightNumbered rfl (by decide +kernel) ⟨Nat.le_of_ble_eq_true rfl, Nat.le_of_ble_eq_true rfl⟩ ⟨rfl, rfl⟩ (dw_obj hg) rfl rfl (Nat.le_of_ble_eq_true rfl) ⟨Nat.le_of_ble_eq_true rfl, Nat.le_of_ble_eq_true rfl⟩ rfl (fun Ec hh hp => kout _ _ _ _ _ _ (Nat.le_of_ble_eq_true rfl) (Nat.le_of_ble_eq_true rfl) (⟨Or.inl ⟨hp.1.1, hp.1.2⟩, hp.2⟩)) (fun r hh hp => ?_)
  obtain ⟨o, ho, rfl, rfl, rfl⟩ := hp
  refine r_astore (lo' := [(4, .ref (a (20 + o))), (0, .ref (a 15)), (1, .int (nI o)), (2, .int y), (3, .int z)]) dX3_blow_5 (by decide) rfl ?_
  refine r_iload_n dX3_blow_7 3 rfl ?_
  refine r_callXSv (nn := 1) (As := [.int y]) (st := []) dX3_blow_8 (tX3_checkPlayer y) gX3_blow_X3_checkPlayer rfl (by decide +kernel) ⟨Nat.le_of_ble_eq_true rfl, Nat.le_of_ble_eq_true rfl⟩ ⟨rfl, rfl⟩ rfl (Nat.le_of_ble_eq_true rfl) ⟨Nat.le_of_ble_eq_true rfl, Nat.le_of_ble_eq_true rfl⟩ rfl (fun Ec hh hp => kout _ _ _ _ _ _ (Nat.le_of_ble_eq_true rfl) (Nat.le_of_ble_eq_true rfl) (⟨Or.inr ⟨o, ho, rfl, Or.inl (⟨hp.1.1, hp.1.2⟩)⟩, hp.2⟩)) (fun hh hp => ?_)
  obtain ⟨g1, rfl⟩ := hp
  refine r_iload_n dX3_blow_11 4 rfl ?_
  refine r_iconst (v := 1) dX3_blow_12 (by decide) ?_
  refine r_bipush (v := 9) dX3_blow_13 (by decide) ?_
  refine r_callXSv (nn := 3) (As := [.int z, .int 1, .int 9]) (st := []) dX3_blow_15 (tX3_checkRange z 1 9) gX3_blow_X3_checkRange rfl (by decide +kernel) ⟨Nat.le_of_ble_eq_true rfl, Nat.le_of_ble_eq_true rfl⟩ ⟨rfl, rfl⟩ rfl (Nat.le_of_ble_eq_true rfl) ⟨Nat.le_of_ble_eq_true rfl, Nat.le_of_ble_eq_true rfl⟩ rfl (fun Ec hh hp => kout _ _ _ _ _ _ (Nat.le_of_ble_eq_true rfl) (Nat.le_of_ble_eq_true rfl) (⟨Or.inr ⟨o, ho, rfl, Or.inr (Or.inl (⟨hp.1.1, g1, hp.1.2⟩))⟩, hp.2⟩)) (fun hh hp => ?_)
  obtain ⟨g2, rfl⟩ := hp
  refine r_aload dX3_blow_18 0 rfl ?_
  refine r_iload_n dX3_blow_20 3 rfl ?_
  refine r_callVi (nn := 1) (As := [.int y]) (st := []) dX3_blow_21 (tX2_isOf dt nF nC nE w hg hd o (by omega) y) gX3_blow_X2_isOf rfl (by decide +kernel) ⟨Nat.le_of_ble_eq_true rfl, Nat.le_of_ble_eq_true rfl⟩ ⟨rfl, rfl⟩ (dw_fgt hg (by omega)) rfl rfl (Nat.le_of_ble_eq_true rfl) ⟨Nat.le_of_ble_eq_true rfl, Nat.le_of_ble_eq_true rfl⟩ rfl (fun r hh hp => ?_)
  obtain ⟨rfl, rfl⟩ := hp
  refine r_if_ne (tgt := 37) dX3_blow_24 (by decide) (fun c1 => ?_) (fun c1 => ?_)
  · skip
    refine r_aload dX3_blow_37 0 rfl ?_
    refine r_callXSv (nn := 1) (As := [.ref (a (20 + o))]) (st := []) dX3_blow_39 (tX3_checkGoesOn dt nF nC nE w hg hd o ho) gX3_blow_X3_checkGoesOn rfl (by decide +kernel) ⟨Nat.le_of_ble_eq_true rfl, Nat.le_of_ble_eq_true rfl⟩ ⟨rfl, rfl⟩ rfl (Nat.le_of_ble_eq_true rfl) ⟨Nat.le_of_ble_eq_true rfl, Nat.le_of_ble_eq_true rfl⟩ rfl (fun Ec hh hp => kout _ _ _ _ _ _ (Nat.le_of_ble_eq_true rfl) (Nat.le_of_ble_eq_true rfl) (⟨Or.inr ⟨o, ho, rfl, Or.inr (Or.inr (Or.inr (Or.inl (⟨hp.1.1, g1, g2, c1, hp.1.2⟩))))⟩, hp.2⟩)) (fun hh hp => ?_)
    obtain ⟨g4, rfl⟩ := hp
    refine r_aload_n dX3_blow_42 1 rfl ?_
    refine r_get (C := RX3) (b := .ref (a 4)) dX3_blow_43 hinX3_blow_3 (dw_obj hg) rfl 4 (by decide) fwX3_blow_26 rfl rfl ?_
    refine r_callVi (nn := 0) (As := []) (st := []) dX3_blow_46 (tJx4a65c_size_8abf5 _ _ _ _ (dw_lstN hg (k := 4) (by decide) hE)) gX3_blow_Jx4a65c_size_8abf5 rfl (by decide +kernel) ⟨Nat.le_of_ble_eq_true rfl, Nat.le_of_ble_eq_true rfl⟩ ⟨rfl, rfl⟩ (dw_lstN hg (k := 4) (by decide) hE) rfl rfl (Nat.le_of_ble_eq_true rfl) ⟨Nat.le_of_ble_eq_true rfl, Nat.le_of_ble_eq_true rfl⟩ rfl (fun r hh hp => ?_)
    obtain ⟨rfl, rfl⟩ := hp
    refine r_bipush (v := 80) dX3_blow_49 (by decide) ?_
    refine rn_icmp_lt (a := nE) (c := 80) (tgt := 64) dX3_blow_51 (by decide) rfl rfl (by omega) (by omega) (fun c2 => ?_) (fun c2 => ?_)
    · skip
      have hn : nE < 80 := c2
      refine r_aload dX3_blow_64 0 rfl ?_
      refine r_callVv (nn := 0) (As := []) (st := []) dX3_blow_66 (tX2_heatUp dt nF nC nE w hg hd o ho) gX3_blow_X2_heatUp rfl (by decide +kernel) ⟨Nat.le_of_ble_eq_true rfl, Nat.le_of_ble_eq_true rfl⟩ ⟨rfl, rfl⟩ (dw_fgt hg (by omega)) rfl rfl (Nat.le_of_ble_eq_true rfl) ⟨Nat.le_of_ble_eq_true rfl, Nat.le_of_ble_eq_true rfl⟩ rfl (fun hh hp => ?_)
      subst hp
      refine r_aload_n dX3_blow_69 1 rfl ?_
      refine r_get (C := RX3) (b := .ref (a 4)) dX3_blow_70 hinX3_blow_3 (dw_obj hg) rfl 4 (by decide) fwX3_blow_26 rfl rfl ?_
      refine r_new (C := RX1) (T := TX1) (N := 5) (ci := 1) (fs := [.null, .int 0, .int 0, .int 0, .int 0]) dX3_blow_73 hinX3_blow_1 tyX1 tyX1_ok (by decide +kernel : Cond.classLink RX3 150 RX1 ∈ wsX3_blow) (by decide +kernel) (by decide +kernel) rfl (by decide +kernel) (Nat.le_of_ble_eq_true rfl) (Nat.le_of_ble_eq_true rfl) (fun q hq => ?_)
      refine r_dup dX3_blow_76 rfl ?_
      refine r_aload dX3_blow_77 0 rfl ?_
      refine r_iload_n dX3_blow_79 3 rfl ?_
      refine r_aload_n dX3_blow_80 1 rfl ?_
      have hq15 : a 15 ≠ q := fun z => by rw [← z, dw_obj hg] at hq; cases hq
      refine r_get (C := RX3) (b := .int (nI w)) dX3_blow_81 hinX3_blow_3 (by rw [kup_n _ _ hq15]; exact dw_obj hg) rfl 9 (by decide) fwX3_blow_85 rfl (by show some (Value.int (dt 1 0)) = _; rw [hW]) ?_
      refine r_iload_n dX3_blow_84 4 rfl ?_
      refine r_callIv (nn := 4) (As := [.ref (a (20 + o)), .int y, .int (nI w), .int z]) (st := [.ref q, .ref (a 4)]) dX3_blow_85 (tX1_init q (a (20 + o)) y (nI w) z (kup_s _ _ _)) gX3_blow_X1_init (by decide +kernel) (by decide +kernel) (by decide +kernel) rfl rfl (by decide +kernel) ⟨Nat.le_of_ble_eq_true rfl, Nat.le_of_ble_eq_true rfl⟩ ⟨rfl, rfl⟩ rfl (Nat.le_of_ble_eq_true rfl) ⟨Nat.le_of_ble_eq_true rfl, Nat.le_of_ble_eq_true rfl⟩ rfl (fun hh hp => ?_)
      rw [kup_kup] at hp
      subst hp
      have hne : a 4 ≠ q := fun z => by rw [← z, dw_lst hg (k := 4) (by decide)] at hq; cases hq
      refine r_callVi (nn := 1) (As := [.ref q]) (st := []) dX3_blow_88 (tadd_E (ma dt 32 o (dt 32 o ||| 1)) nF nC nE w hg (dwf_c hd rfl rfl rfl rfl rfl rfl rfl rfl rfl) hn o ho y (nI w) z q hq) gX3_blow_Jx4a65c_add_9ea2d rfl (by decide +kernel) ⟨Nat.le_of_ble_eq_true rfl, Nat.le_of_ble_eq_true rfl⟩ ⟨rfl, rfl⟩ (by rw [kup_n _ _ hne]; exact dw_lstN hg (k := 4) (by decide) hE) rfl rfl (Nat.le_of_ble_eq_true rfl) ⟨Nat.le_of_ble_eq_true rfl, Nat.le_of_ble_eq_true rfl⟩ rfl (fun r hh hp => ?_)
      obtain ⟨rfl, a', cap', hg', hao, rfl⟩ := hp
      refine r_pop dX3_blow_91 rfl ?_
      have e15 : a' 15 = a 15 := hao 15 (by decide) (by omega)
      rw [← e15]
      refine r_aload_n dX3_blow_92 1 rfl ?_
      refine r_get (C := RX3) (b := .ref (a' 4)) dX3_blow_93 hinX3_blow_3 (dw_obj hg') rfl 4 (by decide) fwX3_blow_26 rfl rfl ?_
      refine r_callVi (nn := 0) (As := []) (st := []) dX3_blow_96 (tJx4a65c_size_8abf5 _ _ _ _ (dw_lstN hg' (k := 4) (by decide) (show dEnt (ma dt 32 o (dt 32 o ||| 1)) nE (nI o) y (nI w) z 20 0 = nI (nE + 1) from rfl))) gX3_blow_Jx4a65c_size_8abf5 rfl (by decide +kernel) ⟨Nat.le_of_ble_eq_true rfl, Nat.le_of_ble_eq_true rfl⟩ ⟨rfl, rfl⟩ (dw_lstN hg' (k := 4) (by decide) (show dEnt (ma dt 32 o (dt 32 o ||| 1)) nE (nI o) y (nI w) z 20 0 = nI (nE + 1) from rfl)) rfl rfl (Nat.le_of_ble_eq_true rfl) ⟨Nat.le_of_ble_eq_true rfl, Nat.le_of_ble_eq_true rfl⟩ rfl (fun r hh hp => ?_)
      obtain ⟨rfl, rfl⟩ := hp
      refine r_iconst (v := 1) dX3_blow_99 (by decide) ?_
      refine r_isub dX3_blow_100 ?_
      rw [nI_pred]
      exact kret _ _ _ _ _ _ (Nat.le_of_ble_eq_true rfl) (Nat.le_of_ble_eq_true rfl) dX3_blow_101 rfl (⟨o, ho, rfl, g1, g2, c1, g4, hn, rfl, a', cap', hg', hao, rfl⟩)
    · skip
      exact kthr _ _ _ _ _ [] _ (Nat.le_of_ble_eq_true rfl) (Nat.le_of_ble_eq_true rfl) ⟨_, _, _, _, _, kSt_S, rfl, (by decide +kernel), (by decide +kernel), (by decide +kernel : (145, "there are 80 entries") ∈ kStr), gxX3_blow_S, dX3_blow_54, dX3_blow_57, Or.inl ⟨rfl, dX3_blow_58⟩, dX3_blow_60, dX3_blow_63, (by decide), (Nat.le_of_ble_eq_true rfl)⟩ (⟨Or.inr ⟨o, ho, rfl, Or.inr (Or.inr (Or.inr (Or.inr ((⟨rfl, g1, g2, c1, g4, (by omega)⟩)))))⟩, rfl⟩)
  · skip
    exact kthr _ _ _ _ _ [] _ (Nat.le_of_ble_eq_true rfl) (Nat.le_of_ble_eq_true rfl) ⟨_, _, _, _, _, kSt_A, rfl, (by decide +kernel), (by decide +kernel), (by decide +kernel : (143, "the player is none of both") ∈ kStr), gxX3_blow_A, dX3_blow_27, dX3_blow_30, Or.inl ⟨rfl, dX3_blow_31⟩, dX3_blow_33, dX3_blow_36, (by decide), (Nat.le_of_ble_eq_true rfl)⟩ (⟨Or.inr ⟨o, ho, rfl, Or.inr (Or.inr (Or.inl (⟨rfl, g1, g2, fun q => q c1⟩)))⟩, rfl⟩)

abbrev rmX3_pass : Room := { frames := 7, cells := 4, slots := 24, locals := 130 }
theorem hinX3_pass_3 : ∀ w ∈ u_ws RX3 TX3 15, w ∈ wsX3_pass := by decide +kernel
theorem fwX3_pass_85 : Cond.fieldLink RX3 85 "Castdesk" "now" "I" ∈ wsX3_pass := by decide +kernel
theorem gxX3_pass_S : ∀ w ∈ (vx_atS RX3 110 kIS kNm).filter goodWord, w ∈ wsX3_pass := by decide +kernel
set_option maxHeartbeats 4000000 in
set_option maxRecDepth 100000 in
theorem lX3_pass_32 {E : kE} {a cap : Nat → Nat} {h0 : kH} (dt : kM)  (nF nC nE w : Nat) (hg : dgeo E a cap nF nC nE h0) (hd : dwf dt nF nC nE w) (x : Int32) (m : Nat) (hwm : w + m ≤ 3000) (hm : m ≤ 200) {X : kX} (kthr : ∀ (k n : Nat) (h' : kH) (lo : List (Nat × Value)) (pc : Nat) (st : List Value) (cls : String), k + 1 ≤ rmX3_pass.cells → n + 6 ≤ rmX3_pass.slots → kSite cX3_pass wsX3_pass RX3 rmX3_pass pc st cls → (fun Ec h' => ((Ec = kIA ∧ ¬ (¬ x < 1 ∧ ¬ 200 < x)) ∨ (Ec = kIS ∧ (¬ x < 1 ∧ ¬ 200 < x) ∧ ¬ (¬ 3000 < dt 1 0 + x))) ∧ h' = dw E a cap nF nC nE dt h0) cls h' → V E X rmX3_pass cX3_pass 3 wsX3_pass RX3 k n h' lo pc st) (hx : V E X rmX3_pass cX3_pass 3 wsX3_pass RX3 (0 + 1) (0 + 6) (dw E a cap nF nC nE (dPass dt nF nC w m) h0) [(2, .int (nI m)), (0, .ref (a 15)), (1, .int (nI m))] 47 [])
    : ∀ (d i : Nat), m < i + d → i ≤ m → V E X rmX3_pass cX3_pass 3 wsX3_pass RX3 (0 + 1) (0 + 6) (dw E a cap nF nC nE (dPass dt nF nC w i) h0) [(2, .int (nI i)), (0, .ref (a 15)), (1, .int (nI m))] 32 [] := by
  obtain ⟨hF, hF20, hC, hC6, hE, hE80, hW, hW3, hpl, hof, hsp⟩ := id hd
  intro d
  induction d with
  | zero =>
    intro i  h1 h2
    exact absurd h1 (by omega)
  | succ d ih =>
    intro i  h1 h2 
    refine r_iload_n dX3_pass_32 0 rfl ?_
    refine r_iload_n dX3_pass_33 2 rfl ?_
    refine rn_icmp_ge (a := i) (c := m) (tgt := 47) dX3_pass_34 (by decide) rfl rfl (by omega) (by omega) (fun c1 => ?_) (fun c1 => ?_)
    · skip
      have hNi : m = i := by omega
      subst hNi
      exact hx
    · skip
      refine r_aload_n dX3_pass_37 1 rfl ?_
      refine r_callVv (nn := 0) (As := []) (st := []) dX3_pass_38 (tX3_passOne (dPass dt nF nC w i) nF nC nE (w + i) hg (dPass_wf hd i (by omega)) (by omega)) gX3_pass_X3_passOne rfl (by decide +kernel) ⟨Nat.le_of_ble_eq_true rfl, Nat.le_of_ble_eq_true rfl⟩ ⟨rfl, rfl⟩ (dw_obj hg) rfl rfl (Nat.le_of_ble_eq_true rfl) ⟨Nat.le_of_ble_eq_true rfl, Nat.le_of_ble_eq_true rfl⟩ rfl (fun hh hp => ?_)
      subst hp
      refine r_iinc (v := nI (i + 1)) (lo' := [(2, .int (nI (i + 1))), (0, .ref (a 15)), (1, .int (nI m))]) dX3_pass_41 0 rfl (nI_1 i) (by decide) rfl ?_
      refine r_goto (tgt := 32) dX3_pass_44 (by decide) ?_
      refine r_lo (lo' := [(2, .int (nI (i + 1))), (0, .ref (a 15)), (1, .int (nI m))]) [0, 1, 2] rfl ?_
      exact ih (i + 1) (by omega) (by omega)

set_option maxHeartbeats 4000000 in
set_option maxRecDepth 100000 in
theorem tX3_pass {E : kE} {a cap : Nat → Nat} {h0 : kH} (dt : kM)  (nF nC nE w : Nat) (hg : dgeo E a cap nF nC nE h0) (hd : dwf dt nF nC nE w) (x : Int32) : kXi E yX3_pass wsX3_pass rmX3_pass 4 24 [.ref (a 15), .int x] (dw E a cap nF nC nE dt h0) (fun Ec h' => ((Ec = kIA ∧ ¬ (¬ x < 1 ∧ ¬ 200 < x)) ∨ (Ec = kIS ∧ (¬ x < 1 ∧ ¬ 200 < x) ∧ ¬ (¬ 3000 < dt 1 0 + x))) ∧ h' = dw E a cap nF nC nE dt h0) (fun r h' => (¬ x < 1 ∧ ¬ 200 < x) ∧ (¬ 3000 < dt 1 0 + x) ∧ (∃ m, m ≤ 200 ∧ w + m ≤ 3000 ∧ x = nI m ∧ r = nI (w + m) ∧ h' = dw E a cap nF nC nE (dPass dt nF nC w m) h0)) := by
  obtain ⟨hF, hF20, hC, hC6, hE, hE80, hW, hW3, hpl, hof, hsp⟩ := id hd
  refine kXi_of (rt := .int) (own := RX3) (cc := cX3_pass) (maxL := 3) (by decide) rfl rfl ⟨rfl, rfl⟩ (Nat.le_of_ble_eq_true rfl) ?_
  intro X kret kthr kout
  refine r_lo (lo' := [(0, .ref (a 15)), (1, .int x)]) [0, 1] rfl ?_
  refine r_iload_n dX3_pass_0 1 rfl ?_
  refine r_iconst (v := 1) dX3_pass_1 (by decide) ?_
  refine r_sipush (v := 200) dX3_pass_2 (by decide) ?_
  refine r_callXSv (nn := 3) (As := [.int x, .int 1, .int 200]) (st := []) dX3_pass_5 (tX3_checkRange x 1 200) gX3_pass_X3_checkRange rfl (by decide +kernel) ⟨Nat.le_of_ble_eq_true rfl, Nat.le_of_ble_eq_true rfl⟩ ⟨rfl, rfl⟩ rfl (Nat.le_of_ble_eq_true rfl) ⟨Nat.le_of_ble_eq_true rfl, Nat.le_of_ble_eq_true rfl⟩ rfl (fun Ec hh hp => kout _ _ _ _ _ _ (Nat.le_of_ble_eq_true rfl) (Nat.le_of_ble_eq_true rfl) (⟨Or.inl (⟨hp.1.1, hp.1.2⟩), hp.2⟩)) (fun hh hp => ?_)
  obtain ⟨g1, rfl⟩ := hp
  refine r_aload_n dX3_pass_8 0 rfl ?_
  refine r_get (C := RX3) (b := .int (dt 1 0)) dX3_pass_9 hinX3_pass_3 (dw_obj hg) rfl 9 (by decide) fwX3_pass_85 rfl rfl ?_
  refine r_iload_n dX3_pass_12 1 rfl ?_
  refine r_iadd dX3_pass_13 ?_
  refine r_sipush (v := 3000) dX3_pass_14 (by decide) ?_
  refine r_icmp_le (tgt := 30) dX3_pass_17 (by decide) (fun c1 => ?_) (fun c1 => ?_)
  · skip
    refine r_iconst (v := 0) dX3_pass_30 (by decide) ?_
    refine r_istore_n (lo' := [(2, .int 0), (0, .ref (a 15)), (1, .int x)]) dX3_pass_31 (by decide) rfl ?_
    obtain ⟨m, hm, hxm⟩ := inr_low (l := 1) (m := 200) (by decide) (by decide) (inr_t g1.1 g1.2)
    subst hxm
    have hwm : w + m ≤ 3000 := pass_o hW hW3 hm.2 c1
    refine r_lo (lo' := [(2, .int (nI 0)), (0, .ref (a 15)), (1, .int (nI m))]) [0, 1, 2] rfl ?_
    refine lX3_pass_32 dt nF nC nE w hg hd (nI m) m hwm hm.2 kthr ?_ (m + 1) 0 (by omega) (Nat.zero_le _)
    refine r_aload_n dX3_pass_47 1 rfl ?_
    refine r_get (C := RX3) (b := .int (nI (w + m))) dX3_pass_48 hinX3_pass_3 (dw_obj hg) rfl 9 (by decide) fwX3_pass_85 rfl (by show some (Value.int (dPass dt nF nC w m 1 0)) = _; rw [show dPass dt nF nC w m 1 0 = nI (w + m) from (dwf_w (dPass_wf hd m hwm))]) ?_
    exact kret _ _ _ _ _ _ (Nat.le_of_ble_eq_true rfl) (Nat.le_of_ble_eq_true rfl) dX3_pass_51 rfl (⟨g1, c1, ⟨m, hm.2, hwm, rfl, rfl, rfl⟩⟩)
  · skip
    exact kthr _ _ _ _ _ [] _ (Nat.le_of_ble_eq_true rfl) (Nat.le_of_ble_eq_true rfl) ⟨_, _, _, _, _, kSt_S, rfl, (by decide +kernel), (by decide +kernel), (by decide +kernel : (134, "the frame would be above 3000") ∈ kStr), gxX3_pass_S, dX3_pass_20, dX3_pass_23, Or.inl ⟨rfl, dX3_pass_24⟩, dX3_pass_26, dX3_pass_29, (by decide), (Nat.le_of_ble_eq_true rfl)⟩ (⟨Or.inr ((⟨rfl, g1, fun z => z c1⟩)), rfl⟩)

