/-! refuses: each call throws what it should -/
abbrev rmL_refuses : Room := { frames := 10, cells := 600, slots := 12000, locals := 442 }
set_option maxHeartbeats 8000000 in
set_option maxRecDepth 100000 in
theorem rf_l_804 {E : kE} {a cap : Nat → Nat} {h0 : kH} {dt : kM} {nF nC nE w X pn : Nat} {fn : Nat → Int32} {X9 : kX} (hg : dgeo E a cap nF nC nE h0) (hd : dwf dt nF nC nE w) (hX : X < 100000) (hpn : h0 pn = some (.inl (kI E, 3, .inl fn))) (hn_0 : fn 0 = nI nF) (hn_1 : fn 1 = nI nC) (hn_2 : fn 2 = nI nE) (kret : ∀ (k n : Nat) (h' : kH) (lo : List (Nat × Value)) (pc : Nat) (r : Int32), k ≤ 600 → n ≤ 12000 → decode cL_refuses pc = .ok (.ireturn, 1) → narrow .boolean (.int r) = .int r → (r = 1 ∧ h' = dw E a cap nF nC nE dt h0) → V E X9 rmL_refuses cL_refuses 14 wsL_refuses RL k n h' lo pc [.int r]) {k n : Nat} (hk : k ≤ 560) (hn : n ≤ 11500) : V E X9 rmL_refuses cL_refuses 14 wsL_refuses RL k n (dw E a cap nF nC nE dt h0) [(0, .ref (a 15)), (1, .ref pn), (2, .int (nI X)), (3, .int (nI 1)), (10, .int (nI 1))] 804 [] := by
  obtain ⟨hF, hF20, hC, hC6, hE, hE80, hW, hW3, hpl, hof, hsp⟩ := id hd
  have D : Dk E (a 15) dt nF nC nE w (dw E a cap nF nC nE dt h0) := ⟨a, cap, h0, rfl, hg, hd, rfl⟩
  refine r_iload dL_refuses_804 4 rfl ?_
  refine r_if_eq (tgt := 846) dL_refuses_806 (by decide) (fun c9 => absurd c9 (by decide)) (fun _ => ?_)
  refine r_aload_n dL_refuses_809 1 rfl ?_
  refine r_iconst (v := nI 2) dL_refuses_810 (by decide) ?_
  refine r_iald dL_refuses_811 (dw_at hg hpn) (vp_in_nI (by decide) (by decide)) ?_
  rw [show fn (nI 2).toNatClampNeg = nI nE from hn_2]
  refine r_if_eq (tgt := 842) dL_refuses_812 (by decide) (fun c6 => ?_) (fun c6 => ?_)
  · skip
    refine r_iconst (v := nI 1) dL_refuses_842 (by decide) ?_
    refine r_goto (tgt := 847) dL_refuses_843 (by decide) ?_
    exact kret _ _ _ _ _ _ (by omega) (by omega) dL_refuses_847 rfl ⟨rfl, rfl⟩
  · skip
    have he0 : nE ≠ 0 := fun z => c6 (by rw [z]; rfl)
    refine r_aload_n dL_refuses_815 0 rfl ?_
    refine r_iload_n dL_refuses_816 2 rfl ?_
    refine r_aload_n dL_refuses_817 1 rfl ?_
    refine r_iconst (v := nI 2) dL_refuses_818 (by decide) ?_
    refine r_iald dL_refuses_819 (dw_at hg hpn) (vp_in_nI (by decide) (by decide)) ?_
    rw [show fn (nI 2).toNatClampNeg = nI nE from hn_2]
    refine r_irem dL_refuses_820 (nI_ne0 (Nat.pos_of_ne_zero he0) (by omega)) ?_
    rw [nI_mod (a := X) (b := nE) (by omega) (Nat.pos_of_ne_zero he0) (by omega)]
    refine r_iload_n dL_refuses_821 3 rfl ?_
    refine r_if_eq (tgt := 830) dL_refuses_822 (by decide) (fun c9 => absurd c9 (by decide)) (fun _ => ?_)
    refine r_iload_n dL_refuses_825 2 rfl ?_
    refine r_ineg dL_refuses_826 ?_
    refine r_goto (tgt := 834) dL_refuses_827 (by decide) ?_
    refine r_callXSH (nn := 3) (As := [.ref (a 15), .int (nI (X % nE)), .int (-nI X)]) (st := []) dL_refuses_834 (tL_mend hg hd (nI (X % nE)) (-nI X)) gL_refuses_L_mend rfl (by decide +kernel) ⟨Nat.le_of_ble_eq_true rfl, Nat.le_of_ble_eq_true rfl⟩ ⟨rfl, rfl⟩ rfl (Nat.le_of_ble_eq_true rfl) ⟨by show _ ≤ 600; omega, by show _ ≤ 12000; omega⟩ rfl (fun Ec hh hp => hp.elim) (fun r hh hp => ?_)
    rw [of_mend_1 hd (Nat.mod_lt _ (Nat.pos_of_ne_zero he0)) (bd_lo0 hX)] at hp
    obtain ⟨hr, hhe⟩ := hp
    rw [hhe, hr]
    refine r_ldc (v := (-2000000002)) dL_refuses_837 (by decide +kernel) ?_
    refine r_icmp_ne (tgt := 846) dL_refuses_839 (by decide) (fun c9 => absurd rfl c9) (fun _ => ?_)
    refine r_iconst (v := nI 1) dL_refuses_842 (by decide) ?_
    refine r_goto (tgt := 847) dL_refuses_843 (by decide) ?_
    exact kret _ _ _ _ _ _ (by omega) (by omega) dL_refuses_847 rfl ⟨rfl, rfl⟩

set_option maxHeartbeats 8000000 in
set_option maxRecDepth 100000 in
theorem rf_l_590 {E : kE} {a cap : Nat → Nat} {h0 : kH} {dt : kM} {nF nC nE w X pn : Nat} {fn : Nat → Int32} {X9 : kX} (hg : dgeo E a cap nF nC nE h0) (hd : dwf dt nF nC nE w) (hX : X < 100000) (hpn : h0 pn = some (.inl (kI E, 3, .inl fn))) (hn_0 : fn 0 = nI nF) (hn_1 : fn 1 = nI nC) (hn_2 : fn 2 = nI nE) (kret : ∀ (k n : Nat) (h' : kH) (lo : List (Nat × Value)) (pc : Nat) (r : Int32), k ≤ 600 → n ≤ 12000 → decode cL_refuses pc = .ok (.ireturn, 1) → narrow .boolean (.int r) = .int r → (r = 1 ∧ h' = dw E a cap nF nC nE dt h0) → V E X9 rmL_refuses cL_refuses 14 wsL_refuses RL k n h' lo pc [.int r]) {k n : Nat} (hk : k ≤ 340) (hn : n ≤ 7300) : V E X9 rmL_refuses cL_refuses 14 wsL_refuses RL k n (dw E a cap nF nC nE dt h0) [(0, .ref (a 15)), (1, .ref pn), (2, .int (nI X)), (3, .int (nI 1)), (4, .int ((-1 : Int32) - nI X)), (10, .int (nI 1))] 590 [] := by
  obtain ⟨hF, hF20, hC, hC6, hE, hE80, hW, hW3, hpl, hof, hsp⟩ := id hd
  have D : Dk E (a 15) dt nF nC nE w (dw E a cap nF nC nE dt h0) := ⟨a, cap, h0, rfl, hg, hd, rfl⟩
  refine r_aload_n dL_refuses_590 1 rfl ?_
  refine r_iconst (v := nI 0) dL_refuses_591 (by decide) ?_
  refine r_iald dL_refuses_592 (dw_at hg hpn) (vp_in_nI (by decide) (by decide)) ?_
  rw [show fn (nI 0).toNatClampNeg = nI nF from hn_0]
  refine r_if_le (tgt := 804) dL_refuses_593 (by decide) (fun c6 => ?_) (fun c6 => ?_)
  · skip
    refine r_lo (lo' := [(0, .ref (a 15)), (1, .ref pn), (2, .int (nI X)), (3, .int (nI 1)), (10, .int (nI 1))]) [0, 1, 2, 3, 5] rfl ?_
    exact rf_l_804 hg hd hX hpn hn_0 hn_1 hn_2 kret (by omega) (by omega)
  · skip
    have hn0 : 0 < nF := Nat.pos_of_ne_zero (fun z => absurd c6 (by rw [z]; decide))
    obtain ⟨p1, hp0, hp1⟩ := vp_in_of (hpl (X / 3 % nF) (Nat.mod_lt _ hn0)).1 (by omega)
    refine r_iload dL_refuses_596 5 rfl ?_
    refine r_if_eq (tgt := 804) dL_refuses_598 (by decide) (fun c9 => absurd c9 (by decide)) (fun _ => ?_)
    refine r_iload_n dL_refuses_601 2 rfl ?_
    refine r_iconst (v := nI 3) dL_refuses_602 (by decide) ?_
    refine r_idiv dL_refuses_603 (by decide) ?_
    rw [nI_div (a := X) (b := 3) (by omega) (by omega) (by omega)]
    refine r_aload_n dL_refuses_604 1 rfl ?_
    refine r_iconst (v := nI 0) dL_refuses_605 (by decide) ?_
    refine r_iald dL_refuses_606 (dw_at hg hpn) (vp_in_nI (by decide) (by decide)) ?_
    rw [show fn (nI 0).toNatClampNeg = nI nF from hn_0]
    refine r_irem dL_refuses_607 (nI_ne0 hn0 (by omega)) ?_
    rw [nI_mod (a := X / 3) (b := nF) (by omega) hn0 (by omega)]
    refine r_istore (lo' := [(11, .int (nI ((X / 3) % nF))), (0, .ref (a 15)), (1, .ref pn), (2, .int (nI X)), (3, .int (nI 1)), (4, .int ((-1 : Int32) - nI X)), (10, .int (nI 1))]) dL_refuses_608 (by decide) rfl ?_
    refine r_aload_n dL_refuses_610 1 rfl ?_
    refine r_iload dL_refuses_611 0 rfl ?_
    refine r_iconst (v := nI 1) dL_refuses_613 (by decide) ?_
    refine r_callXSH (nn := 3) (As := [.ref (a 15), .int (nI ((X / 3) % nF)), .int (nI 1)]) (st := []) dL_refuses_614 (tR_fightOf D (nI ((X / 3) % nF)) (nI 1)) gL_refuses_L_fightOf rfl (by decide +kernel) ⟨Nat.le_of_ble_eq_true rfl, Nat.le_of_ble_eq_true rfl⟩ ⟨rfl, rfl⟩ rfl (Nat.le_of_ble_eq_true rfl) ⟨by show _ ≤ 600; omega, by show _ ≤ 12000; omega⟩ rfl (fun Ec hh hp => hp.elim) (fun r hh hp => ?_)
    obtain ⟨hr, hhe⟩ := hp
    rw [hhe, hr, fo1 hd (Nat.mod_lt _ hn0), hp1]
    refine r_istore (lo' := [(12, .int (nI p1)), (11, .int (nI ((X / 3) % nF))), (0, .ref (a 15)), (1, .ref pn), (2, .int (nI X)), (3, .int (nI 1)), (4, .int ((-1 : Int32) - nI X)), (10, .int (nI 1))]) dL_refuses_617 (by decide) rfl ?_
    refine r_aload_n dL_refuses_619 2 rfl ?_
    refine r_iload dL_refuses_620 1 rfl ?_
    refine r_iconst (v := nI 0) dL_refuses_622 (by decide) ?_
    refine r_callXSH (nn := 3) (As := [.ref (a 15), .int (nI ((X / 3) % nF)), .int (nI 0)]) (st := []) dL_refuses_623 (tR_fightOf D (nI ((X / 3) % nF)) (nI 0)) gL_refuses_L_fightOf rfl (by decide +kernel) ⟨Nat.le_of_ble_eq_true rfl, Nat.le_of_ble_eq_true rfl⟩ ⟨rfl, rfl⟩ rfl (Nat.le_of_ble_eq_true rfl) ⟨by show _ ≤ 600; omega, by show _ ≤ 12000; omega⟩ rfl (fun Ec hh hp => hp.elim) (fun r hh hp => ?_)
    obtain ⟨hr, hhe⟩ := hp
    rw [hhe, hr, fo0 hd (Nat.mod_lt _ hn0)]
    refine r_if_ne (tgt := 633) dL_refuses_626 (by decide) (fun g6 => ?_) (fun g6 => ?_)
    · skip
      have hio : ¬ dIsOf dt (X / 3 % nF) (nI p1) = 0 := by rw [dIsOf_1.mpr (Or.inl hp1)]; decide
      refine r_iconst (v := nI 0) dL_refuses_633 (by decide) ?_
      refine r_istore (lo' := [(13, .int (nI 0)), (12, .int (nI p1)), (11, .int (nI ((X / 3) % nF))), (0, .ref (a 15)), (1, .ref pn), (2, .int (nI X)), (3, .int (nI 1)), (4, .int ((-1 : Int32) - nI X)), (10, .int (nI 1))]) dL_refuses_634 (by decide) rfl ?_
      refine r_aload_n dL_refuses_636 3 rfl ?_
      refine r_iload dL_refuses_637 2 rfl ?_
      refine r_iload dL_refuses_639 7 rfl ?_
      refine r_iconst (v := nI 1) dL_refuses_641 (by decide) ?_
      refine r_callXSH (nn := 4) (As := [.ref (a 15), .int (nI ((X / 3) % nF)), .int ((-1 : Int32) - nI X), .int (nI 1)]) (st := []) dL_refuses_642 (tL_blow hg hd (nI ((X / 3) % nF)) ((-1 : Int32) - nI X) (nI 1)) gL_refuses_L_blow rfl (by decide +kernel) ⟨Nat.le_of_ble_eq_true rfl, Nat.le_of_ble_eq_true rfl⟩ ⟨rfl, rfl⟩ rfl (Nat.le_of_ble_eq_true rfl) ⟨by show _ ≤ 600; omega, by show _ ≤ 12000; omega⟩ rfl (fun Ec hh hp => hp.elim) (fun r hh hp => ?_)
      rw [of_blow_1 hd (Nat.mod_lt _ hn0) (bi_lo hX)] at hp
      obtain ⟨hr, hhe⟩ := hp
      rw [hhe, hr]
      refine r_ldc (v := (-2000000001)) dL_refuses_645 (by decide +kernel) ?_
      refine r_icmp_ne (tgt := 801) dL_refuses_647 (by decide) (fun c9 => absurd rfl c9) (fun _ => ?_)
      refine r_aload_n dL_refuses_650 3 rfl ?_
      refine r_iload dL_refuses_651 2 rfl ?_
      refine r_iload dL_refuses_653 1 rfl ?_
      refine r_iload_n dL_refuses_655 6 rfl ?_
      refine r_if_eq (tgt := 664) dL_refuses_656 (by decide) (fun c9 => absurd c9 (by decide)) (fun _ => ?_)
      refine r_iload_n dL_refuses_659 5 rfl ?_
      refine r_ineg dL_refuses_660 ?_
      refine r_goto (tgt := 668) dL_refuses_661 (by decide) ?_
      refine r_callXSH (nn := 4) (As := [.ref (a 15), .int (nI ((X / 3) % nF)), .int (nI p1), .int (-nI X)]) (st := []) dL_refuses_668 (tL_blow hg hd (nI ((X / 3) % nF)) (nI p1) (-nI X)) gL_refuses_L_blow rfl (by decide +kernel) ⟨Nat.le_of_ble_eq_true rfl, Nat.le_of_ble_eq_true rfl⟩ ⟨rfl, rfl⟩ rfl (Nat.le_of_ble_eq_true rfl) ⟨by show _ ≤ 600; omega, by show _ ≤ 12000; omega⟩ rfl (fun Ec hh hp => hp.elim) (fun r hh hp => ?_)
      rw [of_blow_2 hd (Nat.mod_lt _ hn0) (gd10 hp0) (bd_lo0 hX)] at hp
      obtain ⟨hr, hhe⟩ := hp
      rw [hhe, hr]
      refine r_ldc (v := (-2000000002)) dL_refuses_671 (by decide +kernel) ?_
      refine r_icmp_ne (tgt := 801) dL_refuses_673 (by decide) (fun c9 => absurd rfl c9) (fun _ => ?_)
      refine r_aload_n dL_refuses_676 3 rfl ?_
      refine r_iload dL_refuses_677 2 rfl ?_
      refine r_iload dL_refuses_679 7 rfl ?_
      refine r_callXSH (nn := 3) (As := [.ref (a 15), .int (nI ((X / 3) % nF)), .int ((-1 : Int32) - nI X)]) (st := []) dL_refuses_681 (tR_points D (nI ((X / 3) % nF)) ((-1 : Int32) - nI X)) gL_refuses_L_points rfl (by decide +kernel) ⟨Nat.le_of_ble_eq_true rfl, Nat.le_of_ble_eq_true rfl⟩ ⟨rfl, rfl⟩ rfl (Nat.le_of_ble_eq_true rfl) ⟨by show _ ≤ 600; omega, by show _ ≤ 12000; omega⟩ rfl (fun Ec hh hp => hp.elim) (fun r hh hp => ?_)
      obtain ⟨hr, hhe⟩ := hp
      rw [hhe, hr, of_points_1 hd (Nat.mod_lt _ hn0) (bi_lo hX)]
      refine r_ldc (v := (-2000000001)) dL_refuses_684 (by decide +kernel) ?_
      refine r_icmp_ne (tgt := 801) dL_refuses_686 (by decide) (fun c9 => absurd rfl c9) (fun _ => ?_)
      refine r_aload_n dL_refuses_689 3 rfl ?_
      refine r_iload dL_refuses_690 2 rfl ?_
      refine r_iload_n dL_refuses_692 6 rfl ?_
      refine r_if_eq (tgt := 702) dL_refuses_693 (by decide) (fun c9 => absurd c9 (by decide)) (fun _ => ?_)
      refine r_iconst (v := (-1)) dL_refuses_696 (by decide) ?_
      refine r_iload_n dL_refuses_697 5 rfl ?_
      refine r_isub dL_refuses_698 ?_
      refine r_goto (tgt := 705) dL_refuses_699 (by decide) ?_
      refine r_callXSH (nn := 3) (As := [.ref (a 15), .int (nI ((X / 3) % nF)), .int ((-1 : Int32) - nI X)]) (st := []) dL_refuses_705 (tR_fightOf D (nI ((X / 3) % nF)) ((-1 : Int32) - nI X)) gL_refuses_L_fightOf rfl (by decide +kernel) ⟨Nat.le_of_ble_eq_true rfl, Nat.le_of_ble_eq_true rfl⟩ ⟨rfl, rfl⟩ rfl (Nat.le_of_ble_eq_true rfl) ⟨by show _ ≤ 600; omega, by show _ ≤ 12000; omega⟩ rfl (fun Ec hh hp => hp.elim) (fun r hh hp => ?_)
      obtain ⟨hr, hhe⟩ := hp
      rw [hhe, hr, of_fightOf_1 hd (Nat.mod_lt _ hn0) (be4_lo hX)]
      refine r_ldc (v := (-2000000002)) dL_refuses_708 (by decide +kernel) ?_
      refine r_icmp_ne (tgt := 801) dL_refuses_710 (by decide) (fun c9 => absurd rfl c9) (fun _ => ?_)
      refine r_iload dL_refuses_713 0 rfl ?_
      refine r_if_eq (tgt := 750) dL_refuses_715 (by decide) (fun _ => ?_) (fun c9 => absurd c9 (by decide))
      refine r_aload_n dL_refuses_750 3 rfl ?_
      refine r_iload dL_refuses_751 2 rfl ?_
      refine r_callXSH (nn := 2) (As := [.ref (a 15), .int (nI ((X / 3) % nF))]) (st := []) dL_refuses_753 (tL_end hg hd (nI ((X / 3) % nF))) gL_refuses_L_end rfl (by decide +kernel) ⟨Nat.le_of_ble_eq_true rfl, Nat.le_of_ble_eq_true rfl⟩ ⟨rfl, rfl⟩ rfl (Nat.le_of_ble_eq_true rfl) ⟨by show _ ≤ 600; omega, by show _ ≤ 12000; omega⟩ rfl (fun Ec hh hp => hp.elim) (fun r hh hp => ?_)
      rw [of_end_1 hd (Nat.mod_lt _ hn0) g6] at hp
      obtain ⟨hr, hhe⟩ := hp
      rw [hhe, hr]
      refine r_ldc (v := (-2000000003)) dL_refuses_756 (by decide +kernel) ?_
      refine r_icmp_ne (tgt := 801) dL_refuses_758 (by decide) (fun c9 => absurd rfl c9) (fun _ => ?_)
      refine r_aload_n dL_refuses_761 3 rfl ?_
      refine r_iload dL_refuses_762 2 rfl ?_
      refine r_iload dL_refuses_764 1 rfl ?_
      refine r_iconst (v := nI 1) dL_refuses_766 (by decide) ?_
      refine r_callXSH (nn := 4) (As := [.ref (a 15), .int (nI ((X / 3) % nF)), .int (nI p1), .int (nI 1)]) (st := []) dL_refuses_767 (tL_blow hg hd (nI ((X / 3) % nF)) (nI p1) (nI 1)) gL_refuses_L_blow rfl (by decide +kernel) ⟨Nat.le_of_ble_eq_true rfl, Nat.le_of_ble_eq_true rfl⟩ ⟨rfl, rfl⟩ rfl (Nat.le_of_ble_eq_true rfl) ⟨by show _ ≤ 600; omega, by show _ ≤ 12000; omega⟩ rfl (fun Ec hh hp => hp.elim) (fun r hh hp => ?_)
      rw [of_blow_4 hd (Nat.mod_lt _ hn0) (gd10 hp0) (by decide) hio g6] at hp
      obtain ⟨hr, hhe⟩ := hp
      rw [hhe, hr]
      refine r_ldc (v := (-2000000003)) dL_refuses_770 (by decide +kernel) ?_
      refine r_icmp_ne (tgt := 801) dL_refuses_772 (by decide) (fun c9 => absurd rfl c9) (fun _ => ?_)
      refine r_aload_n dL_refuses_775 3 rfl ?_
      refine r_iload dL_refuses_776 2 rfl ?_
      refine r_iconst (v := nI 0) dL_refuses_778 (by decide) ?_
      refine r_callXSH (nn := 3) (As := [.ref (a 15), .int (nI ((X / 3) % nF)), .int (nI 0)]) (st := []) dL_refuses_779 (tR_fightOf D (nI ((X / 3) % nF)) (nI 0)) gL_refuses_L_fightOf rfl (by decide +kernel) ⟨Nat.le_of_ble_eq_true rfl, Nat.le_of_ble_eq_true rfl⟩ ⟨rfl, rfl⟩ rfl (Nat.le_of_ble_eq_true rfl) ⟨by show _ ≤ 600; omega, by show _ ≤ 12000; omega⟩ rfl (fun Ec hh hp => hp.elim) (fun r hh hp => ?_)
      obtain ⟨hr, hhe⟩ := hp
      rw [hhe, hr, fo0 hd (Nat.mod_lt _ hn0)]
      refine r_iconst (v := nI 2) dL_refuses_782 (by decide) ?_
      refine r_icmp_ne (tgt := 797) dL_refuses_783 (by decide) (fun g2 => ?_) (fun g2 => ?_)
      · skip
        refine r_iconst (v := nI 1) dL_refuses_797 (by decide) ?_
        refine r_goto (tgt := 802) dL_refuses_798 (by decide) ?_
        refine r_istore (lo' := [(10, .int (nI 1)), (13, .int (nI 0)), (12, .int (nI p1)), (11, .int (nI ((X / 3) % nF))), (0, .ref (a 15)), (1, .ref pn), (2, .int (nI X)), (3, .int (nI 1)), (4, .int ((-1 : Int32) - nI X))]) dL_refuses_802 (by decide) rfl ?_
        refine r_lo (lo' := [(0, .ref (a 15)), (1, .ref pn), (2, .int (nI X)), (3, .int (nI 1)), (10, .int (nI 1))]) [4, 5, 6, 7, 0] rfl ?_
        exact rf_l_804 hg hd hX hpn hn_0 hn_1 hn_2 kret (by omega) (by omega)
      · skip
        have hn1 : ¬ dt 6 (X / 3 % nF) = 1 := by rw [g2]; decide
        refine r_aload_n dL_refuses_786 3 rfl ?_
        refine r_iload dL_refuses_787 2 rfl ?_
        refine r_callXSH (nn := 2) (As := [.ref (a 15), .int (nI ((X / 3) % nF))]) (st := []) dL_refuses_789 (tL_replay hg hd (nI ((X / 3) % nF))) gL_refuses_L_replay rfl (by decide +kernel) ⟨Nat.le_of_ble_eq_true rfl, Nat.le_of_ble_eq_true rfl⟩ ⟨rfl, rfl⟩ rfl (Nat.le_of_ble_eq_true rfl) ⟨by show _ ≤ 600; omega, by show _ ≤ 12000; omega⟩ rfl (fun Ec hh hp => hp.elim) (fun r hh hp => ?_)
        rw [of_replay_1 hd (Nat.mod_lt _ hn0) hn1] at hp
        obtain ⟨hr, hhe⟩ := hp
        rw [hhe, hr]
        refine r_ldc (v := (-2000000003)) dL_refuses_792 (by decide +kernel) ?_
        refine r_icmp_ne (tgt := 801) dL_refuses_794 (by decide) (fun c9 => absurd rfl c9) (fun _ => ?_)
        refine r_iconst (v := nI 1) dL_refuses_797 (by decide) ?_
        refine r_goto (tgt := 802) dL_refuses_798 (by decide) ?_
        refine r_istore (lo' := [(10, .int (nI 1)), (13, .int (nI 0)), (12, .int (nI p1)), (11, .int (nI ((X / 3) % nF))), (0, .ref (a 15)), (1, .ref pn), (2, .int (nI X)), (3, .int (nI 1)), (4, .int ((-1 : Int32) - nI X))]) dL_refuses_802 (by decide) rfl ?_
        refine r_lo (lo' := [(0, .ref (a 15)), (1, .ref pn), (2, .int (nI X)), (3, .int (nI 1)), (10, .int (nI 1))]) [4, 5, 6, 7, 0] rfl ?_
        exact rf_l_804 hg hd hX hpn hn_0 hn_1 hn_2 kret (by omega) (by omega)
    · skip
      have hn1 : ¬ dt 6 (X / 3 % nF) = 1 := by rw [g6]; decide
      have hne : ¬ nI p1 = nI ((p1 + 1) % 10) := by rw [nI_eq (by omega) (by omega)]; omega
      have hbu : ¬ (nF < 20 ∧ ¬ dBusy dt (nI p1) (nI ((p1 + 1) % 10)) nF) := fun q => q.2 ⟨X / 3 % nF, Nat.mod_lt _ hn0, g6, Or.inl (dIsOf_1.mpr (Or.inl hp1))⟩
      refine r_iconst (v := nI 1) dL_refuses_629 (by decide) ?_
      refine r_goto (tgt := 634) dL_refuses_630 (by decide) ?_
      refine r_istore (lo' := [(13, .int (nI 1)), (12, .int (nI p1)), (11, .int (nI ((X / 3) % nF))), (0, .ref (a 15)), (1, .ref pn), (2, .int (nI X)), (3, .int (nI 1)), (4, .int ((-1 : Int32) - nI X)), (10, .int (nI 1))]) dL_refuses_634 (by decide) rfl ?_
      refine r_aload_n dL_refuses_636 3 rfl ?_
      refine r_iload dL_refuses_637 2 rfl ?_
      refine r_iload dL_refuses_639 7 rfl ?_
      refine r_iconst (v := nI 1) dL_refuses_641 (by decide) ?_
      refine r_callXSH (nn := 4) (As := [.ref (a 15), .int (nI ((X / 3) % nF)), .int ((-1 : Int32) - nI X), .int (nI 1)]) (st := []) dL_refuses_642 (tL_blow hg hd (nI ((X / 3) % nF)) ((-1 : Int32) - nI X) (nI 1)) gL_refuses_L_blow rfl (by decide +kernel) ⟨Nat.le_of_ble_eq_true rfl, Nat.le_of_ble_eq_true rfl⟩ ⟨rfl, rfl⟩ rfl (Nat.le_of_ble_eq_true rfl) ⟨by show _ ≤ 600; omega, by show _ ≤ 12000; omega⟩ rfl (fun Ec hh hp => hp.elim) (fun r hh hp => ?_)
      rw [of_blow_1 hd (Nat.mod_lt _ hn0) (bi_lo hX)] at hp
      obtain ⟨hr, hhe⟩ := hp
      rw [hhe, hr]
      refine r_ldc (v := (-2000000001)) dL_refuses_645 (by decide +kernel) ?_
      refine r_icmp_ne (tgt := 801) dL_refuses_647 (by decide) (fun c9 => absurd rfl c9) (fun _ => ?_)
      refine r_aload_n dL_refuses_650 3 rfl ?_
      refine r_iload dL_refuses_651 2 rfl ?_
      refine r_iload dL_refuses_653 1 rfl ?_
      refine r_iload_n dL_refuses_655 6 rfl ?_
      refine r_if_eq (tgt := 664) dL_refuses_656 (by decide) (fun c9 => absurd c9 (by decide)) (fun _ => ?_)
      refine r_iload_n dL_refuses_659 5 rfl ?_
      refine r_ineg dL_refuses_660 ?_
      refine r_goto (tgt := 668) dL_refuses_661 (by decide) ?_
      refine r_callXSH (nn := 4) (As := [.ref (a 15), .int (nI ((X / 3) % nF)), .int (nI p1), .int (-nI X)]) (st := []) dL_refuses_668 (tL_blow hg hd (nI ((X / 3) % nF)) (nI p1) (-nI X)) gL_refuses_L_blow rfl (by decide +kernel) ⟨Nat.le_of_ble_eq_true rfl, Nat.le_of_ble_eq_true rfl⟩ ⟨rfl, rfl⟩ rfl (Nat.le_of_ble_eq_true rfl) ⟨by show _ ≤ 600; omega, by show _ ≤ 12000; omega⟩ rfl (fun Ec hh hp => hp.elim) (fun r hh hp => ?_)
      rw [of_blow_2 hd (Nat.mod_lt _ hn0) (gd10 hp0) (bd_lo0 hX)] at hp
      obtain ⟨hr, hhe⟩ := hp
      rw [hhe, hr]
      refine r_ldc (v := (-2000000002)) dL_refuses_671 (by decide +kernel) ?_
      refine r_icmp_ne (tgt := 801) dL_refuses_673 (by decide) (fun c9 => absurd rfl c9) (fun _ => ?_)
      refine r_aload_n dL_refuses_676 3 rfl ?_
      refine r_iload dL_refuses_677 2 rfl ?_
      refine r_iload dL_refuses_679 7 rfl ?_
      refine r_callXSH (nn := 3) (As := [.ref (a 15), .int (nI ((X / 3) % nF)), .int ((-1 : Int32) - nI X)]) (st := []) dL_refuses_681 (tR_points D (nI ((X / 3) % nF)) ((-1 : Int32) - nI X)) gL_refuses_L_points rfl (by decide +kernel) ⟨Nat.le_of_ble_eq_true rfl, Nat.le_of_ble_eq_true rfl⟩ ⟨rfl, rfl⟩ rfl (Nat.le_of_ble_eq_true rfl) ⟨by show _ ≤ 600; omega, by show _ ≤ 12000; omega⟩ rfl (fun Ec hh hp => hp.elim) (fun r hh hp => ?_)
      obtain ⟨hr, hhe⟩ := hp
      rw [hhe, hr, of_points_1 hd (Nat.mod_lt _ hn0) (bi_lo hX)]
      refine r_ldc (v := (-2000000001)) dL_refuses_684 (by decide +kernel) ?_
      refine r_icmp_ne (tgt := 801) dL_refuses_686 (by decide) (fun c9 => absurd rfl c9) (fun _ => ?_)
      refine r_aload_n dL_refuses_689 3 rfl ?_
      refine r_iload dL_refuses_690 2 rfl ?_
      refine r_iload_n dL_refuses_692 6 rfl ?_
      refine r_if_eq (tgt := 702) dL_refuses_693 (by decide) (fun c9 => absurd c9 (by decide)) (fun _ => ?_)
      refine r_iconst (v := (-1)) dL_refuses_696 (by decide) ?_
      refine r_iload_n dL_refuses_697 5 rfl ?_
      refine r_isub dL_refuses_698 ?_
      refine r_goto (tgt := 705) dL_refuses_699 (by decide) ?_
      refine r_callXSH (nn := 3) (As := [.ref (a 15), .int (nI ((X / 3) % nF)), .int ((-1 : Int32) - nI X)]) (st := []) dL_refuses_705 (tR_fightOf D (nI ((X / 3) % nF)) ((-1 : Int32) - nI X)) gL_refuses_L_fightOf rfl (by decide +kernel) ⟨Nat.le_of_ble_eq_true rfl, Nat.le_of_ble_eq_true rfl⟩ ⟨rfl, rfl⟩ rfl (Nat.le_of_ble_eq_true rfl) ⟨by show _ ≤ 600; omega, by show _ ≤ 12000; omega⟩ rfl (fun Ec hh hp => hp.elim) (fun r hh hp => ?_)
      obtain ⟨hr, hhe⟩ := hp
      rw [hhe, hr, of_fightOf_1 hd (Nat.mod_lt _ hn0) (be4_lo hX)]
      refine r_ldc (v := (-2000000002)) dL_refuses_708 (by decide +kernel) ?_
      refine r_icmp_ne (tgt := 801) dL_refuses_710 (by decide) (fun c9 => absurd rfl c9) (fun _ => ?_)
      refine r_iload dL_refuses_713 0 rfl ?_
      refine r_if_eq (tgt := 750) dL_refuses_715 (by decide) (fun c9 => absurd c9 (by decide)) (fun _ => ?_)
      refine r_aload_n dL_refuses_718 3 rfl ?_
      refine r_iload dL_refuses_719 1 rfl ?_
      refine r_iload dL_refuses_721 1 rfl ?_
      refine r_iconst (v := nI 1) dL_refuses_723 (by decide) ?_
      refine r_iadd dL_refuses_724 ?_
      rw [nI_add p1 1]
      refine r_bipush (v := nI 10) dL_refuses_725 (by decide) ?_
      refine r_irem dL_refuses_727 (by decide) ?_
      rw [nI_mod (a := p1 + 1) (b := 10) (by omega) (by omega) (by omega)]
      refine r_callXSH (nn := 3) (As := [.ref (a 15), .int (nI p1), .int (nI ((p1 + 1) % 10))]) (st := []) dL_refuses_728 (tL_fight hg hd (nI p1) (nI ((p1 + 1) % 10))) gL_refuses_L_fight rfl (by decide +kernel) ⟨Nat.le_of_ble_eq_true rfl, Nat.le_of_ble_eq_true rfl⟩ ⟨rfl, rfl⟩ rfl (Nat.le_of_ble_eq_true rfl) ⟨by show _ ≤ 600; omega, by show _ ≤ 12000; omega⟩ rfl (fun Ec hh hp => hp.elim) (fun r hh hp => ?_)
      rw [of_fight_3 (gd10 hp0) (gd10 (Nat.mod_lt _ (by omega))) hne hbu] at hp
      obtain ⟨hr, hhe⟩ := hp
      rw [hhe, hr]
      refine r_ldc (v := (-2000000003)) dL_refuses_731 (by decide +kernel) ?_
      refine r_icmp_ne (tgt := 801) dL_refuses_733 (by decide) (fun c9 => absurd rfl c9) (fun _ => ?_)
      refine r_aload_n dL_refuses_736 3 rfl ?_
      refine r_iload dL_refuses_737 2 rfl ?_
      refine r_callXSH (nn := 2) (As := [.ref (a 15), .int (nI ((X / 3) % nF))]) (st := []) dL_refuses_739 (tL_replay hg hd (nI ((X / 3) % nF))) gL_refuses_L_replay rfl (by decide +kernel) ⟨Nat.le_of_ble_eq_true rfl, Nat.le_of_ble_eq_true rfl⟩ ⟨rfl, rfl⟩ rfl (Nat.le_of_ble_eq_true rfl) ⟨by show _ ≤ 600; omega, by show _ ≤ 12000; omega⟩ rfl (fun Ec hh hp => hp.elim) (fun r hh hp => ?_)
      rw [of_replay_1 hd (Nat.mod_lt _ hn0) hn1] at hp
      obtain ⟨hr, hhe⟩ := hp
      rw [hhe, hr]
      refine r_ldc (v := (-2000000003)) dL_refuses_742 (by decide +kernel) ?_
      refine r_icmp_ne (tgt := 801) dL_refuses_744 (by decide) (fun c9 => absurd rfl c9) (fun _ => ?_)
      refine r_goto (tgt := 775) dL_refuses_747 (by decide) ?_
      refine r_aload_n dL_refuses_775 3 rfl ?_
      refine r_iload dL_refuses_776 2 rfl ?_
      refine r_iconst (v := nI 0) dL_refuses_778 (by decide) ?_
      refine r_callXSH (nn := 3) (As := [.ref (a 15), .int (nI ((X / 3) % nF)), .int (nI 0)]) (st := []) dL_refuses_779 (tR_fightOf D (nI ((X / 3) % nF)) (nI 0)) gL_refuses_L_fightOf rfl (by decide +kernel) ⟨Nat.le_of_ble_eq_true rfl, Nat.le_of_ble_eq_true rfl⟩ ⟨rfl, rfl⟩ rfl (Nat.le_of_ble_eq_true rfl) ⟨by show _ ≤ 600; omega, by show _ ≤ 12000; omega⟩ rfl (fun Ec hh hp => hp.elim) (fun r hh hp => ?_)
      obtain ⟨hr, hhe⟩ := hp
      rw [hhe, hr, fo0 hd (Nat.mod_lt _ hn0)]
      refine r_iconst (v := nI 2) dL_refuses_782 (by decide) ?_
      refine r_icmp_ne (tgt := 797) dL_refuses_783 (by decide) (fun _ => ?_) (fun c9 => absurd (g6.symm.trans c9) (by decide))
      refine r_iconst (v := nI 1) dL_refuses_797 (by decide) ?_
      refine r_goto (tgt := 802) dL_refuses_798 (by decide) ?_
      refine r_istore (lo' := [(10, .int (nI 1)), (13, .int (nI 1)), (12, .int (nI p1)), (11, .int (nI ((X / 3) % nF))), (0, .ref (a 15)), (1, .ref pn), (2, .int (nI X)), (3, .int (nI 1)), (4, .int ((-1 : Int32) - nI X))]) dL_refuses_802 (by decide) rfl ?_
      refine r_lo (lo' := [(0, .ref (a 15)), (1, .ref pn), (2, .int (nI X)), (3, .int (nI 1)), (10, .int (nI 1))]) [4, 5, 6, 7, 0] rfl ?_
      exact rf_l_804 hg hd hX hpn hn_0 hn_1 hn_2 kret (by omega) (by omega)

set_option maxHeartbeats 8000000 in
set_option maxRecDepth 100000 in
theorem rf_l_550 {E : kE} {a cap : Nat → Nat} {h0 : kH} {dt : kM} {nF nC nE w X pn : Nat} {fn : Nat → Int32} {X9 : kX} (hg : dgeo E a cap nF nC nE h0) (hd : dwf dt nF nC nE w) (hX : X < 100000) (hpn : h0 pn = some (.inl (kI E, 3, .inl fn))) (hn_0 : fn 0 = nI nF) (hn_1 : fn 1 = nI nC) (hn_2 : fn 2 = nI nE) (kret : ∀ (k n : Nat) (h' : kH) (lo : List (Nat × Value)) (pc : Nat) (r : Int32), k ≤ 600 → n ≤ 12000 → decode cL_refuses pc = .ok (.ireturn, 1) → narrow .boolean (.int r) = .int r → (r = 1 ∧ h' = dw E a cap nF nC nE dt h0) → V E X9 rmL_refuses cL_refuses 14 wsL_refuses RL k n h' lo pc [.int r]) {k n : Nat} (hk : k ≤ 330) (hn : n ≤ 7200) : V E X9 rmL_refuses cL_refuses 14 wsL_refuses RL k n (dw E a cap nF nC nE dt h0) [(0, .ref (a 15)), (1, .ref pn), (2, .int (nI X)), (3, .int (nI 1)), (4, .int ((-1 : Int32) - nI X))] 550 [] := by
  obtain ⟨hF, hF20, hC, hC6, hE, hE80, hW, hW3, hpl, hof, hsp⟩ := id hd
  have D : Dk E (a 15) dt nF nC nE w (dw E a cap nF nC nE dt h0) := ⟨a, cap, h0, rfl, hg, hd, rfl⟩
  refine r_aload_n dL_refuses_550 1 rfl ?_
  refine r_iconst (v := nI 1) dL_refuses_551 (by decide) ?_
  refine r_iald dL_refuses_552 (dw_at hg hpn) (vp_in_nI (by decide) (by decide)) ?_
  rw [show fn (nI 1).toNatClampNeg = nI nC from hn_1]
  refine r_if_eq (tgt := 583) dL_refuses_553 (by decide) (fun c6 => ?_) (fun c6 => ?_)
  · skip
    refine r_iconst (v := nI 1) dL_refuses_583 (by decide) ?_
    refine r_goto (tgt := 588) dL_refuses_584 (by decide) ?_
    refine r_istore (lo' := [(10, .int (nI 1)), (0, .ref (a 15)), (1, .ref pn), (2, .int (nI X)), (3, .int (nI 1)), (4, .int ((-1 : Int32) - nI X))]) dL_refuses_588 (by decide) rfl ?_
    refine r_lo (lo' := [(0, .ref (a 15)), (1, .ref pn), (2, .int (nI X)), (3, .int (nI 1)), (4, .int ((-1 : Int32) - nI X)), (10, .int (nI 1))]) [1, 2, 3, 4, 5, 0] rfl ?_
    exact rf_l_590 hg hd hX hpn hn_0 hn_1 hn_2 kret (by omega) (by omega)
  · skip
    have hc0 : nC ≠ 0 := fun z => c6 (by rw [z]; rfl)
    refine r_aload_n dL_refuses_556 0 rfl ?_
    refine r_iload_n dL_refuses_557 2 rfl ?_
    refine r_aload_n dL_refuses_558 1 rfl ?_
    refine r_iconst (v := nI 1) dL_refuses_559 (by decide) ?_
    refine r_iald dL_refuses_560 (dw_at hg hpn) (vp_in_nI (by decide) (by decide)) ?_
    rw [show fn (nI 1).toNatClampNeg = nI nC from hn_1]
    refine r_irem dL_refuses_561 (nI_ne0 (Nat.pos_of_ne_zero hc0) (by omega)) ?_
    rw [nI_mod (a := X) (b := nC) (by omega) (Nat.pos_of_ne_zero hc0) (by omega)]
    refine r_iload_n dL_refuses_562 3 rfl ?_
    refine r_if_eq (tgt := 572) dL_refuses_563 (by decide) (fun c9 => absurd c9 (by decide)) (fun _ => ?_)
    refine r_iconst (v := (-1)) dL_refuses_566 (by decide) ?_
    refine r_iload_n dL_refuses_567 2 rfl ?_
    refine r_isub dL_refuses_568 ?_
    refine r_goto (tgt := 575) dL_refuses_569 (by decide) ?_
    refine r_callXSH (nn := 3) (As := [.ref (a 15), .int (nI (X % nC)), .int ((-1 : Int32) - nI X)]) (st := []) dL_refuses_575 (tR_cameraOf D (nI (X % nC)) ((-1 : Int32) - nI X)) gL_refuses_L_cameraOf rfl (by decide +kernel) ⟨Nat.le_of_ble_eq_true rfl, Nat.le_of_ble_eq_true rfl⟩ ⟨rfl, rfl⟩ rfl (Nat.le_of_ble_eq_true rfl) ⟨by show _ ≤ 600; omega, by show _ ≤ 12000; omega⟩ rfl (fun Ec hh hp => hp.elim) (fun r hh hp => ?_)
    obtain ⟨hr, hhe⟩ := hp
    rw [hhe, hr, of_cameraOf_1 hd (Nat.mod_lt _ (Nat.pos_of_ne_zero hc0)) (be1_lo hX)]
    refine r_ldc (v := (-2000000002)) dL_refuses_578 (by decide +kernel) ?_
    refine r_icmp_ne (tgt := 587) dL_refuses_580 (by decide) (fun c9 => absurd rfl c9) (fun _ => ?_)
    refine r_iconst (v := nI 1) dL_refuses_583 (by decide) ?_
    refine r_goto (tgt := 588) dL_refuses_584 (by decide) ?_
    refine r_istore (lo' := [(10, .int (nI 1)), (0, .ref (a 15)), (1, .ref pn), (2, .int (nI X)), (3, .int (nI 1)), (4, .int ((-1 : Int32) - nI X))]) dL_refuses_588 (by decide) rfl ?_
    refine r_lo (lo' := [(0, .ref (a 15)), (1, .ref pn), (2, .int (nI X)), (3, .int (nI 1)), (4, .int ((-1 : Int32) - nI X)), (10, .int (nI 1))]) [1, 2, 3, 4, 5, 0] rfl ?_
    exact rf_l_590 hg hd hX hpn hn_0 hn_1 hn_2 kret (by omega) (by omega)

set_option maxHeartbeats 8000000 in
set_option maxRecDepth 100000 in
theorem rf_l_308 {E : kE} {a cap : Nat → Nat} {h0 : kH} {dt : kM} {nF nC nE w X pn : Nat} {fn : Nat → Int32} {X9 : kX} (hg : dgeo E a cap nF nC nE h0) (hd : dwf dt nF nC nE w) (hX : X < 100000) (hpn : h0 pn = some (.inl (kI E, 3, .inl fn))) (hn_0 : fn 0 = nI nF) (hn_1 : fn 1 = nI nC) (hn_2 : fn 2 = nI nE) (kret : ∀ (k n : Nat) (h' : kH) (lo : List (Nat × Value)) (pc : Nat) (r : Int32), k ≤ 600 → n ≤ 12000 → decode cL_refuses pc = .ok (.ireturn, 1) → narrow .boolean (.int r) = .int r → (r = 1 ∧ h' = dw E a cap nF nC nE dt h0) → V E X9 rmL_refuses cL_refuses 14 wsL_refuses RL k n h' lo pc [.int r]) {k n : Nat} (hk : k ≤ 170) (hn : n ≤ 4000) : V E X9 rmL_refuses cL_refuses 14 wsL_refuses RL k n (dw E a cap nF nC nE dt h0) [(0, .ref (a 15)), (1, .ref pn), (2, .int (nI X)), (3, .int (nI 1)), (4, .int ((-1 : Int32) - nI X)), (5, .int ((-1 : Int32) - nI X)), (6, .int ((-1 : Int32) - nI X)), (7, .int ((-1 : Int32) - nI X)), (8, .int ((-1 : Int32) - nI X)), (9, .int ((-1 : Int32) - nI X))] 308 [] := by
  obtain ⟨hF, hF20, hC, hC6, hE, hE80, hW, hW3, hpl, hof, hsp⟩ := id hd
  have D : Dk E (a 15) dt nF nC nE w (dw E a cap nF nC nE dt h0) := ⟨a, cap, h0, rfl, hg, hd, rfl⟩
  refine r_aload_n dL_refuses_308 0 rfl ?_
  refine r_iload dL_refuses_309 5 rfl ?_
  refine r_iconst (v := nI 0) dL_refuses_311 (by decide) ?_
  refine r_iconst (v := nI 1) dL_refuses_312 (by decide) ?_
  refine r_callXSH (nn := 4) (As := [.ref (a 15), .int ((-1 : Int32) - nI X), .int (nI 0), .int (nI 1)]) (st := []) dL_refuses_313 (tL_blow hg hd ((-1 : Int32) - nI X) (nI 0) (nI 1)) gL_refuses_L_blow rfl (by decide +kernel) ⟨Nat.le_of_ble_eq_true rfl, Nat.le_of_ble_eq_true rfl⟩ ⟨rfl, rfl⟩ rfl (Nat.le_of_ble_eq_true rfl) ⟨by show _ ≤ 600; omega, by show _ ≤ 12000; omega⟩ rfl (fun Ec hh hp => hp.elim) (fun r hh hp => ?_)
  rw [of_blow_0 (bi_lo hX)] at hp
  obtain ⟨hr, hhe⟩ := hp
  rw [hhe, hr]
  refine r_ldc (v := (-2000000001)) dL_refuses_316 (by decide +kernel) ?_
  refine r_icmp_ne (tgt := 587) dL_refuses_318 (by decide) (fun c9 => absurd rfl c9) (fun _ => ?_)
  refine r_aload_n dL_refuses_321 0 rfl ?_
  refine r_iload dL_refuses_322 7 rfl ?_
  refine r_callXSH (nn := 2) (As := [.ref (a 15), .int ((-1 : Int32) - nI X)]) (st := []) dL_refuses_324 (tL_strike hg hd ((-1 : Int32) - nI X)) gL_refuses_L_strike rfl (by decide +kernel) ⟨Nat.le_of_ble_eq_true rfl, Nat.le_of_ble_eq_true rfl⟩ ⟨rfl, rfl⟩ rfl (Nat.le_of_ble_eq_true rfl) ⟨by show _ ≤ 600; omega, by show _ ≤ 12000; omega⟩ rfl (fun Ec hh hp => hp.elim) (fun r hh hp => ?_)
  rw [of_strike_0 (bi_lo hX)] at hp
  obtain ⟨hr, hhe⟩ := hp
  rw [hhe, hr]
  refine r_ldc (v := (-2000000001)) dL_refuses_327 (by decide +kernel) ?_
  refine r_icmp_ne (tgt := 587) dL_refuses_329 (by decide) (fun c9 => absurd rfl c9) (fun _ => ?_)
  refine r_aload_n dL_refuses_332 0 rfl ?_
  refine r_iload dL_refuses_333 7 rfl ?_
  refine r_iconst (v := nI 1) dL_refuses_335 (by decide) ?_
  refine r_callXSH (nn := 3) (As := [.ref (a 15), .int ((-1 : Int32) - nI X), .int (nI 1)]) (st := []) dL_refuses_336 (tL_mend hg hd ((-1 : Int32) - nI X) (nI 1)) gL_refuses_L_mend rfl (by decide +kernel) ⟨Nat.le_of_ble_eq_true rfl, Nat.le_of_ble_eq_true rfl⟩ ⟨rfl, rfl⟩ rfl (Nat.le_of_ble_eq_true rfl) ⟨by show _ ≤ 600; omega, by show _ ≤ 12000; omega⟩ rfl (fun Ec hh hp => hp.elim) (fun r hh hp => ?_)
  rw [of_mend_0 (bi_lo hX)] at hp
  obtain ⟨hr, hhe⟩ := hp
  rw [hhe, hr]
  refine r_ldc (v := (-2000000001)) dL_refuses_339 (by decide +kernel) ?_
  refine r_icmp_ne (tgt := 587) dL_refuses_341 (by decide) (fun c9 => absurd rfl c9) (fun _ => ?_)
  refine r_aload_n dL_refuses_344 0 rfl ?_
  refine r_iload dL_refuses_345 8 rfl ?_
  refine r_iconst (v := nI 0) dL_refuses_347 (by decide) ?_
  refine r_callXSH (nn := 3) (As := [.ref (a 15), .int ((-1 : Int32) - nI X), .int (nI 0)]) (st := []) dL_refuses_348 (tL_promise hg hd ((-1 : Int32) - nI X) (nI 0)) gL_refuses_L_promise rfl (by decide +kernel) ⟨Nat.le_of_ble_eq_true rfl, Nat.le_of_ble_eq_true rfl⟩ ⟨rfl, rfl⟩ rfl (Nat.le_of_ble_eq_true rfl) ⟨by show _ ≤ 600; omega, by show _ ≤ 12000; omega⟩ rfl (fun Ec hh hp => hp.elim) (fun r hh hp => ?_)
  rw [of_promise_0 (bi_lo hX)] at hp
  obtain ⟨hr, hhe⟩ := hp
  rw [hhe, hr]
  refine r_ldc (v := (-2000000001)) dL_refuses_351 (by decide +kernel) ?_
  refine r_icmp_ne (tgt := 587) dL_refuses_353 (by decide) (fun c9 => absurd rfl c9) (fun _ => ?_)
  refine r_aload_n dL_refuses_356 0 rfl ?_
  refine r_iload_n dL_refuses_357 2 rfl ?_
  refine r_bipush (v := nI 6) dL_refuses_358 (by decide) ?_
  refine r_irem dL_refuses_360 (by decide) ?_
  rw [nI_mod (a := X) (b := 6) (by omega) (by omega) (by omega)]
  refine r_iload_n dL_refuses_361 3 rfl ?_
  refine r_if_eq (tgt := 371) dL_refuses_362 (by decide) (fun c9 => absurd c9 (by decide)) (fun _ => ?_)
  refine r_iconst (v := (-1)) dL_refuses_365 (by decide) ?_
  refine r_iload_n dL_refuses_366 2 rfl ?_
  refine r_isub dL_refuses_367 ?_
  refine r_goto (tgt := 376) dL_refuses_368 (by decide) ?_
  refine r_callXSH (nn := 3) (As := [.ref (a 15), .int (nI (X % 6)), .int ((-1 : Int32) - nI X)]) (st := []) dL_refuses_376 (tL_promise hg hd (nI (X % 6)) ((-1 : Int32) - nI X)) gL_refuses_L_promise rfl (by decide +kernel) ⟨Nat.le_of_ble_eq_true rfl, Nat.le_of_ble_eq_true rfl⟩ ⟨rfl, rfl⟩ rfl (Nat.le_of_ble_eq_true rfl) ⟨by show _ ≤ 600; omega, by show _ ≤ 12000; omega⟩ rfl (fun Ec hh hp => hp.elim) (fun r hh hp => ?_)
  rw [of_promise_1 (gd6 (Nat.mod_lt _ (by omega))) (bd_lo1 hX)] at hp
  obtain ⟨hr, hhe⟩ := hp
  rw [hhe, hr]
  refine r_ldc (v := (-2000000002)) dL_refuses_379 (by decide +kernel) ?_
  refine r_icmp_ne (tgt := 587) dL_refuses_381 (by decide) (fun c9 => absurd rfl c9) (fun _ => ?_)
  refine r_aload_n dL_refuses_384 0 rfl ?_
  refine r_iload dL_refuses_385 8 rfl ?_
  refine r_iconst (v := nI 0) dL_refuses_387 (by decide) ?_
  refine r_callXSH (nn := 3) (As := [.ref (a 15), .int ((-1 : Int32) - nI X), .int (nI 0)]) (st := []) dL_refuses_388 (tL_slot hg hd ((-1 : Int32) - nI X) (nI 0)) gL_refuses_L_slot rfl (by decide +kernel) ⟨Nat.le_of_ble_eq_true rfl, Nat.le_of_ble_eq_true rfl⟩ ⟨rfl, rfl⟩ rfl (Nat.le_of_ble_eq_true rfl) ⟨by show _ ≤ 600; omega, by show _ ≤ 12000; omega⟩ rfl (fun Ec hh hp => hp.elim) (fun r hh hp => ?_)
  rw [of_slot_0 (bi_lo hX)] at hp
  obtain ⟨hr, hhe⟩ := hp
  rw [hhe, hr]
  refine r_ldc (v := (-2000000001)) dL_refuses_391 (by decide +kernel) ?_
  refine r_icmp_ne (tgt := 587) dL_refuses_393 (by decide) (fun c9 => absurd rfl c9) (fun _ => ?_)
  refine r_aload_n dL_refuses_396 0 rfl ?_
  refine r_iload_n dL_refuses_397 2 rfl ?_
  refine r_bipush (v := nI 6) dL_refuses_398 (by decide) ?_
  refine r_irem dL_refuses_400 (by decide) ?_
  rw [nI_mod (a := X) (b := 6) (by omega) (by omega) (by omega)]
  refine r_iload dL_refuses_401 4 rfl ?_
  refine r_callXSH (nn := 3) (As := [.ref (a 15), .int (nI (X % 6)), .int ((-1 : Int32) - nI X)]) (st := []) dL_refuses_403 (tL_slot hg hd (nI (X % 6)) ((-1 : Int32) - nI X)) gL_refuses_L_slot rfl (by decide +kernel) ⟨Nat.le_of_ble_eq_true rfl, Nat.le_of_ble_eq_true rfl⟩ ⟨rfl, rfl⟩ rfl (Nat.le_of_ble_eq_true rfl) ⟨by show _ ≤ 600; omega, by show _ ≤ 12000; omega⟩ rfl (fun Ec hh hp => hp.elim) (fun r hh hp => ?_)
  rw [of_slot_1 (gd6 (Nat.mod_lt _ (by omega))) (bi_lo hX)] at hp
  obtain ⟨hr, hhe⟩ := hp
  rw [hhe, hr]
  refine r_ldc (v := (-2000000001)) dL_refuses_406 (by decide +kernel) ?_
  refine r_icmp_ne (tgt := 587) dL_refuses_408 (by decide) (fun c9 => absurd rfl c9) (fun _ => ?_)
  refine r_aload_n dL_refuses_411 0 rfl ?_
  refine r_iload dL_refuses_412 9 rfl ?_
  refine r_iconst (v := nI 0) dL_refuses_414 (by decide) ?_
  refine r_callXSH (nn := 3) (As := [.ref (a 15), .int ((-1 : Int32) - nI X), .int (nI 0)]) (st := []) dL_refuses_415 (tR_shown D ((-1 : Int32) - nI X) (nI 0)) gL_refuses_L_shown rfl (by decide +kernel) ⟨Nat.le_of_ble_eq_true rfl, Nat.le_of_ble_eq_true rfl⟩ ⟨rfl, rfl⟩ rfl (Nat.le_of_ble_eq_true rfl) ⟨by show _ ≤ 600; omega, by show _ ≤ 12000; omega⟩ rfl (fun Ec hh hp => hp.elim) (fun r hh hp => ?_)
  obtain ⟨hr, hhe⟩ := hp
  rw [hhe, hr, of_shown_0 (bi_lo hX)]
  refine r_ldc (v := (-2000000001)) dL_refuses_418 (by decide +kernel) ?_
  refine r_icmp_ne (tgt := 587) dL_refuses_420 (by decide) (fun c9 => absurd rfl c9) (fun _ => ?_)
  refine r_aload_n dL_refuses_423 0 rfl ?_
  refine r_iload dL_refuses_424 5 rfl ?_
  refine r_iconst (v := nI 0) dL_refuses_426 (by decide) ?_
  refine r_callXSH (nn := 3) (As := [.ref (a 15), .int ((-1 : Int32) - nI X), .int (nI 0)]) (st := []) dL_refuses_427 (tR_points D ((-1 : Int32) - nI X) (nI 0)) gL_refuses_L_points rfl (by decide +kernel) ⟨Nat.le_of_ble_eq_true rfl, Nat.le_of_ble_eq_true rfl⟩ ⟨rfl, rfl⟩ rfl (Nat.le_of_ble_eq_true rfl) ⟨by show _ ≤ 600; omega, by show _ ≤ 12000; omega⟩ rfl (fun Ec hh hp => hp.elim) (fun r hh hp => ?_)
  obtain ⟨hr, hhe⟩ := hp
  rw [hhe, hr, of_points_0 (bi_lo hX)]
  refine r_ldc (v := (-2000000001)) dL_refuses_430 (by decide +kernel) ?_
  refine r_icmp_ne (tgt := 587) dL_refuses_432 (by decide) (fun c9 => absurd rfl c9) (fun _ => ?_)
  refine r_aload_n dL_refuses_435 0 rfl ?_
  refine r_iload dL_refuses_436 5 rfl ?_
  refine r_iconst (v := nI 0) dL_refuses_438 (by decide) ?_
  refine r_callXSH (nn := 3) (As := [.ref (a 15), .int ((-1 : Int32) - nI X), .int (nI 0)]) (st := []) dL_refuses_439 (tR_overlay D ((-1 : Int32) - nI X) (nI 0)) gL_refuses_L_overlay rfl (by decide +kernel) ⟨Nat.le_of_ble_eq_true rfl, Nat.le_of_ble_eq_true rfl⟩ ⟨rfl, rfl⟩ rfl (Nat.le_of_ble_eq_true rfl) ⟨by show _ ≤ 600; omega, by show _ ≤ 12000; omega⟩ rfl (fun Ec hh hp => hp.elim) (fun r hh hp => ?_)
  obtain ⟨hr, hhe⟩ := hp
  rw [hhe, hr, of_overlay_0 (bi_lo hX)]
  refine r_ldc (v := (-2000000001)) dL_refuses_442 (by decide +kernel) ?_
  refine r_icmp_ne (tgt := 587) dL_refuses_444 (by decide) (fun c9 => absurd rfl c9) (fun _ => ?_)
  refine r_aload_n dL_refuses_447 0 rfl ?_
  refine r_iload dL_refuses_448 5 rfl ?_
  refine r_iconst (v := nI 0) dL_refuses_450 (by decide) ?_
  refine r_callXSH (nn := 3) (As := [.ref (a 15), .int ((-1 : Int32) - nI X), .int (nI 0)]) (st := []) dL_refuses_451 (tR_fightOf D ((-1 : Int32) - nI X) (nI 0)) gL_refuses_L_fightOf rfl (by decide +kernel) ⟨Nat.le_of_ble_eq_true rfl, Nat.le_of_ble_eq_true rfl⟩ ⟨rfl, rfl⟩ rfl (Nat.le_of_ble_eq_true rfl) ⟨by show _ ≤ 600; omega, by show _ ≤ 12000; omega⟩ rfl (fun Ec hh hp => hp.elim) (fun r hh hp => ?_)
  obtain ⟨hr, hhe⟩ := hp
  rw [hhe, hr, of_fightOf_0 (bi_lo hX)]
  refine r_ldc (v := (-2000000001)) dL_refuses_454 (by decide +kernel) ?_
  refine r_icmp_ne (tgt := 587) dL_refuses_456 (by decide) (fun c9 => absurd rfl c9) (fun _ => ?_)
  refine r_aload_n dL_refuses_459 0 rfl ?_
  refine r_iload dL_refuses_460 6 rfl ?_
  refine r_iconst (v := nI 0) dL_refuses_462 (by decide) ?_
  refine r_callXSH (nn := 3) (As := [.ref (a 15), .int ((-1 : Int32) - nI X), .int (nI 0)]) (st := []) dL_refuses_463 (tR_cameraOf D ((-1 : Int32) - nI X) (nI 0)) gL_refuses_L_cameraOf rfl (by decide +kernel) ⟨Nat.le_of_ble_eq_true rfl, Nat.le_of_ble_eq_true rfl⟩ ⟨rfl, rfl⟩ rfl (Nat.le_of_ble_eq_true rfl) ⟨by show _ ≤ 600; omega, by show _ ≤ 12000; omega⟩ rfl (fun Ec hh hp => hp.elim) (fun r hh hp => ?_)
  obtain ⟨hr, hhe⟩ := hp
  rw [hhe, hr, of_cameraOf_0 (bi_lo hX)]
  refine r_ldc (v := (-2000000001)) dL_refuses_466 (by decide +kernel) ?_
  refine r_icmp_ne (tgt := 587) dL_refuses_468 (by decide) (fun c9 => absurd rfl c9) (fun _ => ?_)
  refine r_aload_n dL_refuses_471 0 rfl ?_
  refine r_iload dL_refuses_472 8 rfl ?_
  refine r_callXSH (nn := 2) (As := [.ref (a 15), .int ((-1 : Int32) - nI X)]) (st := []) dL_refuses_474 (tR_counted D ((-1 : Int32) - nI X)) gL_refuses_L_counted rfl (by decide +kernel) ⟨Nat.le_of_ble_eq_true rfl, Nat.le_of_ble_eq_true rfl⟩ ⟨rfl, rfl⟩ rfl (Nat.le_of_ble_eq_true rfl) ⟨by show _ ≤ 600; omega, by show _ ≤ 12000; omega⟩ rfl (fun Ec hh hp => hp.elim) (fun r hh hp => ?_)
  obtain ⟨hr, hhe⟩ := hp
  rw [hhe, hr, of_counted_0 (bi_lo hX)]
  refine r_ldc (v := (-2000000001)) dL_refuses_477 (by decide +kernel) ?_
  refine r_icmp_ne (tgt := 587) dL_refuses_479 (by decide) (fun c9 => absurd rfl c9) (fun _ => ?_)
  refine r_aload_n dL_refuses_482 0 rfl ?_
  refine r_iload dL_refuses_483 8 rfl ?_
  refine r_callXSH (nn := 2) (As := [.ref (a 15), .int ((-1 : Int32) - nI X)]) (st := []) dL_refuses_485 (tR_anew D ((-1 : Int32) - nI X)) gL_refuses_L_anew rfl (by decide +kernel) ⟨Nat.le_of_ble_eq_true rfl, Nat.le_of_ble_eq_true rfl⟩ ⟨rfl, rfl⟩ rfl (Nat.le_of_ble_eq_true rfl) ⟨by show _ ≤ 600; omega, by show _ ≤ 12000; omega⟩ rfl (fun Ec hh hp => hp.elim) (fun r hh hp => ?_)
  obtain ⟨hr, hhe⟩ := hp
  rw [hhe, hr, of_anew_0 (bi_lo hX)]
  refine r_ldc (v := (-2000000001)) dL_refuses_488 (by decide +kernel) ?_
  refine r_icmp_ne (tgt := 587) dL_refuses_490 (by decide) (fun c9 => absurd rfl c9) (fun _ => ?_)
  refine r_aload_n dL_refuses_493 0 rfl ?_
  refine r_iload dL_refuses_494 8 rfl ?_
  refine r_callXSH (nn := 2) (As := [.ref (a 15), .int ((-1 : Int32) - nI X)]) (st := []) dL_refuses_496 (tR_owed D ((-1 : Int32) - nI X)) gL_refuses_L_owed rfl (by decide +kernel) ⟨Nat.le_of_ble_eq_true rfl, Nat.le_of_ble_eq_true rfl⟩ ⟨rfl, rfl⟩ rfl (Nat.le_of_ble_eq_true rfl) ⟨by show _ ≤ 600; omega, by show _ ≤ 12000; omega⟩ rfl (fun Ec hh hp => hp.elim) (fun r hh hp => ?_)
  obtain ⟨hr, hhe⟩ := hp
  rw [hhe, hr, of_owed_0 (bi_lo hX)]
  refine r_ldc (v := (-2000000001)) dL_refuses_499 (by decide +kernel) ?_
  refine r_icmp_ne (tgt := 587) dL_refuses_501 (by decide) (fun c9 => absurd rfl c9) (fun _ => ?_)
  refine r_aload_n dL_refuses_504 0 rfl ?_
  refine r_iload dL_refuses_505 4 rfl ?_
  refine r_callXSH (nn := 2) (As := [.ref (a 15), .int ((-1 : Int32) - nI X)]) (st := []) dL_refuses_507 (tR_leader D ((-1 : Int32) - nI X)) gL_refuses_L_leader rfl (by decide +kernel) ⟨Nat.le_of_ble_eq_true rfl, Nat.le_of_ble_eq_true rfl⟩ ⟨rfl, rfl⟩ rfl (Nat.le_of_ble_eq_true rfl) ⟨by show _ ≤ 600; omega, by show _ ≤ 12000; omega⟩ rfl (fun Ec hh hp => hp.elim) (fun r hh hp => ?_)
  obtain ⟨hr, hhe⟩ := hp
  rw [hhe, PLea_bad (bi_lo hX) hr]
  refine r_ldc (v := (-2000000001)) dL_refuses_510 (by decide +kernel) ?_
  refine r_icmp_ne (tgt := 587) dL_refuses_512 (by decide) (fun c9 => absurd rfl c9) (fun _ => ?_)
  refine r_aload_n dL_refuses_515 0 rfl ?_
  refine r_callVi (nn := 0) (As := []) (st := []) dL_refuses_516 (tR_frame D) gL_refuses_X3_frame rfl (by decide +kernel) ⟨Nat.le_of_ble_eq_true rfl, Nat.le_of_ble_eq_true rfl⟩ ⟨rfl, rfl⟩ (dw_obj hg) rfl rfl (Nat.le_of_ble_eq_true rfl) ⟨by show _ ≤ 600; omega, by show _ ≤ 12000; omega⟩ rfl (fun r hh hp => ?_)
  obtain ⟨hr, hhe⟩ := hp
  rw [hhe, hr]
  refine r_if_eq (tgt := 550) dL_refuses_519 (by decide) (fun c6 => ?_) (fun c6 => ?_)
  · skip
    refine r_lo (lo' := [(0, .ref (a 15)), (1, .ref pn), (2, .int (nI X)), (3, .int (nI 1)), (4, .int ((-1 : Int32) - nI X))]) [0, 1, 2, 3, 4] rfl ?_
    exact rf_l_550 hg hd hX hpn hn_0 hn_1 hn_2 kret (by omega) (by omega)
  · skip
    have hw0 : w ≠ 0 := fun z => c6 (by rw [z]; rfl)
    refine r_aload_n dL_refuses_522 0 rfl ?_
    refine r_iload_n dL_refuses_523 2 rfl ?_
    refine r_aload_n dL_refuses_524 0 rfl ?_
    refine r_callVi (nn := 0) (As := []) (st := [.int (nI X), .ref (a 15)]) dL_refuses_525 (tR_frame D) gL_refuses_X3_frame rfl (by decide +kernel) ⟨Nat.le_of_ble_eq_true rfl, Nat.le_of_ble_eq_true rfl⟩ ⟨rfl, rfl⟩ (dw_obj hg) rfl rfl (Nat.le_of_ble_eq_true rfl) ⟨by show _ ≤ 600; omega, by show _ ≤ 12000; omega⟩ rfl (fun r hh hp => ?_)
    obtain ⟨hr, hhe⟩ := hp
    rw [hhe, hr]
    refine r_irem dL_refuses_528 (nI_ne0 (Nat.pos_of_ne_zero hw0) (by omega)) ?_
    rw [nI_mod (a := X) (b := w) (by omega) (Nat.pos_of_ne_zero hw0) (by omega)]
    refine r_iload_n dL_refuses_529 3 rfl ?_
    refine r_if_eq (tgt := 539) dL_refuses_530 (by decide) (fun c9 => absurd c9 (by decide)) (fun _ => ?_)
    refine r_iconst (v := (-1)) dL_refuses_533 (by decide) ?_
    refine r_iload_n dL_refuses_534 2 rfl ?_
    refine r_isub dL_refuses_535 ?_
    refine r_goto (tgt := 542) dL_refuses_536 (by decide) ?_
    refine r_callXSH (nn := 3) (As := [.ref (a 15), .int (nI (X % w)), .int ((-1 : Int32) - nI X)]) (st := []) dL_refuses_542 (tR_shown D (nI (X % w)) ((-1 : Int32) - nI X)) gL_refuses_L_shown rfl (by decide +kernel) ⟨Nat.le_of_ble_eq_true rfl, Nat.le_of_ble_eq_true rfl⟩ ⟨rfl, rfl⟩ rfl (Nat.le_of_ble_eq_true rfl) ⟨by show _ ≤ 600; omega, by show _ ≤ 12000; omega⟩ rfl (fun Ec hh hp => hp.elim) (fun r hh hp => ?_)
    obtain ⟨hr, hhe⟩ := hp
    rw [hhe, hr, of_shown_1 (nI_rng (Nat.mod_lt _ (Nat.pos_of_ne_zero hw0)) (by omega)) (be2_lo hX)]
    refine r_ldc (v := (-2000000002)) dL_refuses_545 (by decide +kernel) ?_
    refine r_icmp_ne (tgt := 587) dL_refuses_547 (by decide) (fun c9 => absurd rfl c9) (fun _ => ?_)
    refine r_lo (lo' := [(0, .ref (a 15)), (1, .ref pn), (2, .int (nI X)), (3, .int (nI 1)), (4, .int ((-1 : Int32) - nI X))]) [0, 1, 2, 3, 4] rfl ?_
    exact rf_l_550 hg hd hX hpn hn_0 hn_1 hn_2 kret (by omega) (by omega)

set_option maxHeartbeats 8000000 in
set_option maxRecDepth 100000 in
theorem rf_l_12 {E : kE} {a cap : Nat → Nat} {h0 : kH} {dt : kM} {nF nC nE w X pn : Nat} {fn : Nat → Int32} {X9 : kX} (hg : dgeo E a cap nF nC nE h0) (hd : dwf dt nF nC nE w) (hX : X < 100000) (hpn : h0 pn = some (.inl (kI E, 3, .inl fn))) (hn_0 : fn 0 = nI nF) (hn_1 : fn 1 = nI nC) (hn_2 : fn 2 = nI nE) (kret : ∀ (k n : Nat) (h' : kH) (lo : List (Nat × Value)) (pc : Nat) (r : Int32), k ≤ 600 → n ≤ 12000 → decode cL_refuses pc = .ok (.ireturn, 1) → narrow .boolean (.int r) = .int r → (r = 1 ∧ h' = dw E a cap nF nC nE dt h0) → V E X9 rmL_refuses cL_refuses 14 wsL_refuses RL k n h' lo pc [.int r]) {k n : Nat} (hk : k ≤ 0) (hn : n ≤ 0) : V E X9 rmL_refuses cL_refuses 14 wsL_refuses RL k n (dw E a cap nF nC nE dt h0) [(3, .int (nI 1)), (0, .ref (a 15)), (1, .ref pn), (2, .int (nI X))] 12 [] := by
  obtain ⟨hF, hF20, hC, hC6, hE, hE80, hW, hW3, hpl, hof, hsp⟩ := id hd
  have D : Dk E (a 15) dt nF nC nE w (dw E a cap nF nC nE dt h0) := ⟨a, cap, h0, rfl, hg, hd, rfl⟩
  refine r_iload_n dL_refuses_12 0 rfl ?_
  refine r_if_eq (tgt := 22) dL_refuses_13 (by decide) (fun c9 => absurd c9 (by decide)) (fun _ => ?_)
  refine r_iconst (v := (-1)) dL_refuses_16 (by decide) ?_
  refine r_iload_n dL_refuses_17 3 rfl ?_
  refine r_isub dL_refuses_18 ?_
  refine r_goto (tgt := 26) dL_refuses_19 (by decide) ?_
  refine r_istore (lo' := [(4, .int ((-1 : Int32) - nI X)), (3, .int (nI 1)), (0, .ref (a 15)), (1, .ref pn), (2, .int (nI X))]) dL_refuses_26 (by decide) rfl ?_
  refine r_iload_n dL_refuses_28 1 rfl ?_
  refine r_if_eq (tgt := 38) dL_refuses_29 (by decide) (fun c9 => absurd c9 (by decide)) (fun _ => ?_)
  refine r_iconst (v := (-1)) dL_refuses_32 (by decide) ?_
  refine r_iload_n dL_refuses_33 4 rfl ?_
  refine r_isub dL_refuses_34 ?_
  refine r_goto (tgt := 43) dL_refuses_35 (by decide) ?_
  refine r_istore (lo' := [(5, .int ((-1 : Int32) - nI X)), (4, .int ((-1 : Int32) - nI X)), (3, .int (nI 1)), (0, .ref (a 15)), (1, .ref pn), (2, .int (nI X))]) dL_refuses_43 (by decide) rfl ?_
  refine r_iload_n dL_refuses_45 2 rfl ?_
  refine r_if_eq (tgt := 55) dL_refuses_46 (by decide) (fun c9 => absurd c9 (by decide)) (fun _ => ?_)
  refine r_iconst (v := (-1)) dL_refuses_49 (by decide) ?_
  refine r_iload_n dL_refuses_50 5 rfl ?_
  refine r_isub dL_refuses_51 ?_
  refine r_goto (tgt := 60) dL_refuses_52 (by decide) ?_
  refine r_istore (lo' := [(6, .int ((-1 : Int32) - nI X)), (5, .int ((-1 : Int32) - nI X)), (4, .int ((-1 : Int32) - nI X)), (3, .int (nI 1)), (0, .ref (a 15)), (1, .ref pn), (2, .int (nI X))]) dL_refuses_60 (by decide) rfl ?_
  refine r_iload_n dL_refuses_62 3 rfl ?_
  refine r_if_eq (tgt := 72) dL_refuses_63 (by decide) (fun c9 => absurd c9 (by decide)) (fun _ => ?_)
  refine r_iconst (v := (-1)) dL_refuses_66 (by decide) ?_
  refine r_iload_n dL_refuses_67 6 rfl ?_
  refine r_isub dL_refuses_68 ?_
  refine r_goto (tgt := 77) dL_refuses_69 (by decide) ?_
  refine r_istore (lo' := [(7, .int ((-1 : Int32) - nI X)), (6, .int ((-1 : Int32) - nI X)), (5, .int ((-1 : Int32) - nI X)), (4, .int ((-1 : Int32) - nI X)), (3, .int (nI 1)), (0, .ref (a 15)), (1, .ref pn), (2, .int (nI X))]) dL_refuses_77 (by decide) rfl ?_
  refine r_iload_n dL_refuses_79 4 rfl ?_
  refine r_if_eq (tgt := 89) dL_refuses_80 (by decide) (fun c9 => absurd c9 (by decide)) (fun _ => ?_)
  refine r_iconst (v := (-1)) dL_refuses_83 (by decide) ?_
  refine r_iload_n dL_refuses_84 7 rfl ?_
  refine r_isub dL_refuses_85 ?_
  refine r_goto (tgt := 93) dL_refuses_86 (by decide) ?_
  refine r_istore (lo' := [(8, .int ((-1 : Int32) - nI X)), (7, .int ((-1 : Int32) - nI X)), (6, .int ((-1 : Int32) - nI X)), (5, .int ((-1 : Int32) - nI X)), (4, .int ((-1 : Int32) - nI X)), (3, .int (nI 1)), (0, .ref (a 15)), (1, .ref pn), (2, .int (nI X))]) dL_refuses_93 (by decide) rfl ?_
  refine r_iload_n dL_refuses_95 5 rfl ?_
  refine r_if_eq (tgt := 105) dL_refuses_96 (by decide) (fun c9 => absurd c9 (by decide)) (fun _ => ?_)
  refine r_iconst (v := (-1)) dL_refuses_99 (by decide) ?_
  refine r_iload_n dL_refuses_100 8 rfl ?_
  refine r_isub dL_refuses_101 ?_
  refine r_goto (tgt := 111) dL_refuses_102 (by decide) ?_
  refine r_istore (lo' := [(9, .int ((-1 : Int32) - nI X)), (8, .int ((-1 : Int32) - nI X)), (7, .int ((-1 : Int32) - nI X)), (6, .int ((-1 : Int32) - nI X)), (5, .int ((-1 : Int32) - nI X)), (4, .int ((-1 : Int32) - nI X)), (3, .int (nI 1)), (0, .ref (a 15)), (1, .ref pn), (2, .int (nI X))]) dL_refuses_111 (by decide) rfl ?_
  refine r_aload_n dL_refuses_113 7 rfl ?_
  refine r_iload dL_refuses_114 5 rfl ?_
  refine r_iconst (v := nI 0) dL_refuses_116 (by decide) ?_
  refine r_callXSH (nn := 3) (As := [.ref (a 15), .int ((-1 : Int32) - nI X), .int (nI 0)]) (st := []) dL_refuses_117 (tL_rank hg hd ((-1 : Int32) - nI X) (nI 0)) gL_refuses_L_rank rfl (by decide +kernel) ⟨Nat.le_of_ble_eq_true rfl, Nat.le_of_ble_eq_true rfl⟩ ⟨rfl, rfl⟩ rfl (Nat.le_of_ble_eq_true rfl) ⟨by show _ ≤ 600; omega, by show _ ≤ 12000; omega⟩ rfl (fun Ec hh hp => hp.elim) (fun r hh hp => ?_)
  rw [of_rank_0 (bi_lo hX)] at hp
  obtain ⟨hr, hhe⟩ := hp
  rw [hhe, hr]
  refine r_ldc (v := (-2000000001)) dL_refuses_120 (by decide +kernel) ?_
  refine r_icmp_ne (tgt := 587) dL_refuses_122 (by decide) (fun c9 => absurd rfl c9) (fun _ => ?_)
  refine r_aload_n dL_refuses_125 7 rfl ?_
  refine r_iload_n dL_refuses_126 9 rfl ?_
  refine r_bipush (v := nI 10) dL_refuses_127 (by decide) ?_
  refine r_irem dL_refuses_129 (by decide) ?_
  rw [nI_mod (a := X) (b := 10) (by omega) (by omega) (by omega)]
  refine r_iload_n dL_refuses_130 6 rfl ?_
  refine r_if_eq (tgt := 140) dL_refuses_131 (by decide) (fun c9 => absurd c9 (by decide)) (fun _ => ?_)
  refine r_iconst (v := (-1)) dL_refuses_134 (by decide) ?_
  refine r_iload_n dL_refuses_135 9 rfl ?_
  refine r_isub dL_refuses_136 ?_
  refine r_goto (tgt := 144) dL_refuses_137 (by decide) ?_
  refine r_callXSH (nn := 3) (As := [.ref (a 15), .int (nI (X % 10)), .int ((-1 : Int32) - nI X)]) (st := []) dL_refuses_144 (tL_rank hg hd (nI (X % 10)) ((-1 : Int32) - nI X)) gL_refuses_L_rank rfl (by decide +kernel) ⟨Nat.le_of_ble_eq_true rfl, Nat.le_of_ble_eq_true rfl⟩ ⟨rfl, rfl⟩ rfl (Nat.le_of_ble_eq_true rfl) ⟨by show _ ≤ 600; omega, by show _ ≤ 12000; omega⟩ rfl (fun Ec hh hp => hp.elim) (fun r hh hp => ?_)
  rw [of_rank_1 (gd10 (Nat.mod_lt _ (by omega))) (bd_lo1 hX)] at hp
  obtain ⟨hr, hhe⟩ := hp
  rw [hhe, hr]
  refine r_ldc (v := (-2000000002)) dL_refuses_147 (by decide +kernel) ?_
  refine r_icmp_ne (tgt := 587) dL_refuses_149 (by decide) (fun c9 => absurd rfl c9) (fun _ => ?_)
  refine r_aload_n dL_refuses_152 7 rfl ?_
  refine r_iload dL_refuses_153 5 rfl ?_
  refine r_iconst (v := nI 0) dL_refuses_155 (by decide) ?_
  refine r_callXSH (nn := 3) (As := [.ref (a 15), .int ((-1 : Int32) - nI X), .int (nI 0)]) (st := []) dL_refuses_156 (tL_fight hg hd ((-1 : Int32) - nI X) (nI 0)) gL_refuses_L_fight rfl (by decide +kernel) ⟨Nat.le_of_ble_eq_true rfl, Nat.le_of_ble_eq_true rfl⟩ ⟨rfl, rfl⟩ rfl (Nat.le_of_ble_eq_true rfl) ⟨by show _ ≤ 600; omega, by show _ ≤ 12000; omega⟩ rfl (fun Ec hh hp => hp.elim) (fun r hh hp => ?_)
  rw [of_fight_0 (bi_lo hX)] at hp
  obtain ⟨hr, hhe⟩ := hp
  rw [hhe, hr]
  refine r_ldc (v := (-2000000001)) dL_refuses_159 (by decide +kernel) ?_
  refine r_icmp_ne (tgt := 587) dL_refuses_161 (by decide) (fun c9 => absurd rfl c9) (fun _ => ?_)
  refine r_aload_n dL_refuses_164 7 rfl ?_
  refine r_iconst (v := nI 0) dL_refuses_165 (by decide) ?_
  refine r_iload dL_refuses_166 5 rfl ?_
  refine r_callXSH (nn := 3) (As := [.ref (a 15), .int (nI 0), .int ((-1 : Int32) - nI X)]) (st := []) dL_refuses_168 (tL_fight hg hd (nI 0) ((-1 : Int32) - nI X)) gL_refuses_L_fight rfl (by decide +kernel) ⟨Nat.le_of_ble_eq_true rfl, Nat.le_of_ble_eq_true rfl⟩ ⟨rfl, rfl⟩ rfl (Nat.le_of_ble_eq_true rfl) ⟨by show _ ≤ 600; omega, by show _ ≤ 12000; omega⟩ rfl (fun Ec hh hp => hp.elim) (fun r hh hp => ?_)
  rw [of_fight_1 (gd10 (by omega)) (bi_lo hX)] at hp
  obtain ⟨hr, hhe⟩ := hp
  rw [hhe, hr]
  refine r_ldc (v := (-2000000001)) dL_refuses_171 (by decide +kernel) ?_
  refine r_icmp_ne (tgt := 587) dL_refuses_173 (by decide) (fun c9 => absurd rfl c9) (fun _ => ?_)
  refine r_aload_n dL_refuses_176 7 rfl ?_
  refine r_iload_n dL_refuses_177 9 rfl ?_
  refine r_bipush (v := nI 10) dL_refuses_178 (by decide) ?_
  refine r_irem dL_refuses_180 (by decide) ?_
  rw [nI_mod (a := X) (b := 10) (by omega) (by omega) (by omega)]
  refine r_iload_n dL_refuses_181 9 rfl ?_
  refine r_bipush (v := nI 10) dL_refuses_182 (by decide) ?_
  refine r_irem dL_refuses_184 (by decide) ?_
  rw [nI_mod (a := X) (b := 10) (by omega) (by omega) (by omega)]
  refine r_callXSH (nn := 3) (As := [.ref (a 15), .int (nI (X % 10)), .int (nI (X % 10))]) (st := []) dL_refuses_185 (tL_fight hg hd (nI (X % 10)) (nI (X % 10))) gL_refuses_L_fight rfl (by decide +kernel) ⟨Nat.le_of_ble_eq_true rfl, Nat.le_of_ble_eq_true rfl⟩ ⟨rfl, rfl⟩ rfl (Nat.le_of_ble_eq_true rfl) ⟨by show _ ≤ 600; omega, by show _ ≤ 12000; omega⟩ rfl (fun Ec hh hp => hp.elim) (fun r hh hp => ?_)
  rw [of_fight_2 (gd10 (Nat.mod_lt _ (by omega))) (gd10 (Nat.mod_lt _ (by omega))) (fun h => h rfl)] at hp
  obtain ⟨hr, hhe⟩ := hp
  rw [hhe, hr]
  refine r_ldc (v := (-2000000002)) dL_refuses_188 (by decide +kernel) ?_
  refine r_icmp_ne (tgt := 587) dL_refuses_190 (by decide) (fun c9 => absurd rfl c9) (fun _ => ?_)
  refine r_aload_n dL_refuses_193 7 rfl ?_
  refine r_iload dL_refuses_194 4 rfl ?_
  refine r_callXSH (nn := 2) (As := [.ref (a 15), .int ((-1 : Int32) - nI X)]) (st := []) dL_refuses_196 (tL_end hg hd ((-1 : Int32) - nI X)) gL_refuses_L_end rfl (by decide +kernel) ⟨Nat.le_of_ble_eq_true rfl, Nat.le_of_ble_eq_true rfl⟩ ⟨rfl, rfl⟩ rfl (Nat.le_of_ble_eq_true rfl) ⟨by show _ ≤ 600; omega, by show _ ≤ 12000; omega⟩ rfl (fun Ec hh hp => hp.elim) (fun r hh hp => ?_)
  rw [of_end_0 (bi_lo hX)] at hp
  obtain ⟨hr, hhe⟩ := hp
  rw [hhe, hr]
  refine r_ldc (v := (-2000000001)) dL_refuses_199 (by decide +kernel) ?_
  refine r_icmp_ne (tgt := 587) dL_refuses_201 (by decide) (fun c9 => absurd rfl c9) (fun _ => ?_)
  refine r_aload_n dL_refuses_204 7 rfl ?_
  refine r_iload dL_refuses_205 4 rfl ?_
  refine r_callXSH (nn := 2) (As := [.ref (a 15), .int ((-1 : Int32) - nI X)]) (st := []) dL_refuses_207 (tL_replay hg hd ((-1 : Int32) - nI X)) gL_refuses_L_replay rfl (by decide +kernel) ⟨Nat.le_of_ble_eq_true rfl, Nat.le_of_ble_eq_true rfl⟩ ⟨rfl, rfl⟩ rfl (Nat.le_of_ble_eq_true rfl) ⟨by show _ ≤ 600; omega, by show _ ≤ 12000; omega⟩ rfl (fun Ec hh hp => hp.elim) (fun r hh hp => ?_)
  rw [of_replay_0 (bi_lo hX)] at hp
  obtain ⟨hr, hhe⟩ := hp
  rw [hhe, hr]
  refine r_ldc (v := (-2000000001)) dL_refuses_210 (by decide +kernel) ?_
  refine r_icmp_ne (tgt := 587) dL_refuses_212 (by decide) (fun c9 => absurd rfl c9) (fun _ => ?_)
  refine r_aload_n dL_refuses_215 7 rfl ?_
  refine r_iload_n dL_refuses_216 6 rfl ?_
  refine r_if_eq (tgt := 225) dL_refuses_217 (by decide) (fun c9 => absurd c9 (by decide)) (fun _ => ?_)
  refine r_iload_n dL_refuses_220 9 rfl ?_
  refine r_ineg dL_refuses_221 ?_
  refine r_goto (tgt := 229) dL_refuses_222 (by decide) ?_
  refine r_iconst (v := nI 0) dL_refuses_229 (by decide) ?_
  refine r_callXSH (nn := 3) (As := [.ref (a 15), .int (-nI X), .int (nI 0)]) (st := []) dL_refuses_230 (tL_camera hg hd (-nI X) (nI 0)) gL_refuses_L_camera rfl (by decide +kernel) ⟨Nat.le_of_ble_eq_true rfl, Nat.le_of_ble_eq_true rfl⟩ ⟨rfl, rfl⟩ rfl (Nat.le_of_ble_eq_true rfl) ⟨by show _ ≤ 600; omega, by show _ ≤ 12000; omega⟩ rfl (fun Ec hh hp => hp.elim) (fun r hh hp => ?_)
  rw [of_camera_0 (bd_lo0 hX)] at hp
  obtain ⟨hr, hhe⟩ := hp
  rw [hhe, hr]
  refine r_ldc (v := (-2000000002)) dL_refuses_233 (by decide +kernel) ?_
  refine r_icmp_ne (tgt := 587) dL_refuses_235 (by decide) (fun c9 => absurd rfl c9) (fun _ => ?_)
  refine r_aload_n dL_refuses_238 7 rfl ?_
  refine r_iconst (v := nI 1) dL_refuses_239 (by decide) ?_
  refine r_iload_n dL_refuses_240 6 rfl ?_
  refine r_if_eq (tgt := 250) dL_refuses_241 (by decide) (fun c9 => absurd c9 (by decide)) (fun _ => ?_)
  refine r_iconst (v := (-1)) dL_refuses_244 (by decide) ?_
  refine r_iload_n dL_refuses_245 9 rfl ?_
  refine r_isub dL_refuses_246 ?_
  refine r_goto (tgt := 254) dL_refuses_247 (by decide) ?_
  refine r_callXSH (nn := 3) (As := [.ref (a 15), .int (nI 1), .int ((-1 : Int32) - nI X)]) (st := []) dL_refuses_254 (tL_camera hg hd (nI 1) ((-1 : Int32) - nI X)) gL_refuses_L_camera rfl (by decide +kernel) ⟨Nat.le_of_ble_eq_true rfl, Nat.le_of_ble_eq_true rfl⟩ ⟨rfl, rfl⟩ rfl (Nat.le_of_ble_eq_true rfl) ⟨by show _ ≤ 600; omega, by show _ ≤ 12000; omega⟩ rfl (fun Ec hh hp => hp.elim) (fun r hh hp => ?_)
  rw [of_camera_1 (by decide) (bd_lo1 hX)] at hp
  obtain ⟨hr, hhe⟩ := hp
  rw [hhe, hr]
  refine r_ldc (v := (-2000000002)) dL_refuses_257 (by decide +kernel) ?_
  refine r_icmp_ne (tgt := 587) dL_refuses_259 (by decide) (fun c9 => absurd rfl c9) (fun _ => ?_)
  refine r_aload_n dL_refuses_262 7 rfl ?_
  refine r_iload_n dL_refuses_263 6 rfl ?_
  refine r_if_eq (tgt := 273) dL_refuses_264 (by decide) (fun c9 => absurd c9 (by decide)) (fun _ => ?_)
  refine r_iconst (v := (-1)) dL_refuses_267 (by decide) ?_
  refine r_iload_n dL_refuses_268 9 rfl ?_
  refine r_isub dL_refuses_269 ?_
  refine r_goto (tgt := 277) dL_refuses_270 (by decide) ?_
  refine r_callXSH (nn := 2) (As := [.ref (a 15), .int ((-1 : Int32) - nI X)]) (st := []) dL_refuses_277 (tL_delay hg hd ((-1 : Int32) - nI X)) gL_refuses_L_delay rfl (by decide +kernel) ⟨Nat.le_of_ble_eq_true rfl, Nat.le_of_ble_eq_true rfl⟩ ⟨rfl, rfl⟩ rfl (Nat.le_of_ble_eq_true rfl) ⟨by show _ ≤ 600; omega, by show _ ≤ 12000; omega⟩ rfl (fun Ec hh hp => hp.elim) (fun r hh hp => ?_)
  rw [of_delay_0 (bd_lo1 hX)] at hp
  obtain ⟨hr, hhe⟩ := hp
  rw [hhe, hr]
  refine r_ldc (v := (-2000000002)) dL_refuses_280 (by decide +kernel) ?_
  refine r_icmp_ne (tgt := 587) dL_refuses_282 (by decide) (fun c9 => absurd rfl c9) (fun _ => ?_)
  refine r_aload_n dL_refuses_285 7 rfl ?_
  refine r_iload_n dL_refuses_286 6 rfl ?_
  refine r_if_eq (tgt := 295) dL_refuses_287 (by decide) (fun c9 => absurd c9 (by decide)) (fun _ => ?_)
  refine r_iload_n dL_refuses_290 9 rfl ?_
  refine r_ineg dL_refuses_291 ?_
  refine r_goto (tgt := 300) dL_refuses_292 (by decide) ?_
  refine r_callXSH (nn := 2) (As := [.ref (a 15), .int (-nI X)]) (st := []) dL_refuses_300 (tL_pass hg hd (-nI X)) gL_refuses_L_pass rfl (by decide +kernel) ⟨Nat.le_of_ble_eq_true rfl, Nat.le_of_ble_eq_true rfl⟩ ⟨rfl, rfl⟩ rfl (Nat.le_of_ble_eq_true rfl) ⟨by show _ ≤ 600; omega, by show _ ≤ 12000; omega⟩ rfl (fun Ec hh hp => hp.elim) (fun r hh hp => ?_)
  rw [of_pass_0 (bd_lo0 hX)] at hp
  obtain ⟨hr, hhe⟩ := hp
  rw [hhe, hr]
  refine r_ldc (v := (-2000000002)) dL_refuses_303 (by decide +kernel) ?_
  refine r_icmp_ne (tgt := 587) dL_refuses_305 (by decide) (fun c9 => absurd rfl c9) (fun _ => ?_)
  refine r_lo (lo' := [(0, .ref (a 15)), (1, .ref pn), (2, .int (nI X)), (3, .int (nI 1)), (4, .int ((-1 : Int32) - nI X)), (5, .int ((-1 : Int32) - nI X)), (6, .int ((-1 : Int32) - nI X)), (7, .int ((-1 : Int32) - nI X)), (8, .int ((-1 : Int32) - nI X)), (9, .int ((-1 : Int32) - nI X))]) [7, 8, 9, 6, 5, 4, 3, 2, 1, 0] rfl ?_
  exact rf_l_308 hg hd hX hpn hn_0 hn_1 hn_2 kret (by omega) (by omega)
