/-! isWhole: a desk holds together -/
abbrev rmL_isWhole : Room := { frames := 9, cells := 16000, slots := 96000, locals := 157 }
set_option maxHeartbeats 8000000 in
set_option maxRecDepth 100000 in
theorem wh_538 {E : kE} {H : kH} {dt : kM} {nF nC nE w X q pn ps : Nat} {fn fs : Nat → Int32} {X9 : kX} (D : Dk E q dt nF nC nE w H) (hX : X < 2 ^ 31) (hH : H pn = some (.inl (kI E, 3, .inl fn))) (hn_0 : fn 0 = nI nF) (hn_1 : fn 1 = nI nC) (hS : H ps = some (.inl (kI E, 6, .inl fs))) (hfs : ∀ k, k < nC → fs k = dt 11 k) (hwh : WH dt nF nC nE w) (kret : ∀ (k n : Nat) (h' : kH) (lo : List (Nat × Value)) (pc : Nat) (r : Int32), k ≤ 16000 → n ≤ 96000 → decode cL_isWhole pc = .ok (.ireturn, 1) → narrow .boolean (.int r) = .int r → (r = 1 ∧ h' = H) → V E X9 rmL_isWhole cL_isWhole 11 wsL_isWhole RL k n h' lo pc [.int r]) {k n : Nat} (hk : k ≤ 16000) (hn : n ≤ 96000) : V E X9 rmL_isWhole cL_isWhole 11 wsL_isWhole RL k n H [(0, .ref q), (1, .ref pn), (2, .ref ps), (3, .int (nI X)), (4, .int (nI 1)), (5, .int (nI (sN (dt 19) w 6))), (6, .int (nI (sN (dt 17) w nF))), (7, .int (nI (pN (dt 17) w)))] 538 [] := by
  obtain ⟨hF, hF20, hC, hC6, hE, hE80, hW, hW3, hpl, hof, hsp⟩ := id D.wf
  have hd := D.wf
  obtain ⟨fs1, hf1⟩ := D.at
  obtain ⟨w1, w2, w3, w4, w5, w6, w7⟩ := id hwh
  refine r_iload dL_isWhole_538 4 rfl ?_
  refine r_if_eq (tgt := 561) dL_isWhole_540 (by decide) (fun c9 => absurd c9 (by decide)) (fun _ => ?_)
  refine r_iload dL_isWhole_543 7 rfl ?_
  refine r_iload dL_isWhole_545 6 rfl ?_
  refine r_icmp_ne (tgt := 561) dL_isWhole_547 (by decide) (fun c9 => absurd (by rw [w6]) c9) (fun _ => ?_)
  refine r_iload dL_isWhole_550 5 rfl ?_
  refine r_iload dL_isWhole_552 7 rfl ?_
  refine r_icmp_gt (tgt := 561) dL_isWhole_554 (by decide) (fun c9 => absurd c9 (nI_nlt w7 (by have := pN_le (dt 17) w; omega))) (fun _ => ?_)
  refine r_iconst (v := nI 1) dL_isWhole_557 (by decide) ?_
  refine r_goto (tgt := 562) dL_isWhole_558 (by decide) ?_
  exact kret _ _ _ _ _ _ (by omega) (by omega) dL_isWhole_562 rfl ⟨rfl, rfl⟩

set_option maxHeartbeats 8000000 in
set_option maxRecDepth 100000 in
theorem wh_432 {E : kE} {H : kH} {dt : kM} {nF nC nE w X q pn ps : Nat} {fn fs : Nat → Int32} {X9 : kX} (D : Dk E q dt nF nC nE w H) (hX : X < 2 ^ 31) (hH : H pn = some (.inl (kI E, 3, .inl fn))) (hn_0 : fn 0 = nI nF) (hn_1 : fn 1 = nI nC) (hS : H ps = some (.inl (kI E, 6, .inl fs))) (hfs : ∀ k, k < nC → fs k = dt 11 k) (hwh : WH dt nF nC nE w) (kret : ∀ (k n : Nat) (h' : kH) (lo : List (Nat × Value)) (pc : Nat) (r : Int32), k ≤ 16000 → n ≤ 96000 → decode cL_isWhole pc = .ok (.ireturn, 1) → narrow .boolean (.int r) = .int r → (r = 1 ∧ h' = H) → V E X9 rmL_isWhole cL_isWhole 11 wsL_isWhole RL k n h' lo pc [.int r]) : ∀ (d j k n : Nat), w < j + d → j ≤ w → k ≤ 960 + 5 * j → n ≤ 5760 + 30 * j → V E X9 rmL_isWhole cL_isWhole 11 wsL_isWhole RL k n H [(0, .ref q), (1, .ref pn), (2, .ref ps), (3, .int (nI X)), (4, .int (nI 1)), (5, .int (nI (sN (dt 19) w 6))), (6, .int (nI (sN (dt 17) w nF))), (7, .int (nI (pN (dt 17) j))), (8, .int (nI j))] 432 [] := by
  obtain ⟨hF, hF20, hC, hC6, hE, hE80, hW, hW3, hpl, hof, hsp⟩ := id D.wf
  have hd := D.wf
  obtain ⟨fs1, hf1⟩ := D.at
  obtain ⟨w1, w2, w3, w4, w5, w6, w7⟩ := id hwh
  intro d
  induction d with
  | zero =>
    intro j k n h1 h2
    exact absurd h1 (by omega)
  | succ d ih =>
    intro j k n h1 h2 hk hn
    refine r_iload dL_isWhole_432 8 rfl ?_
    refine r_aload_n dL_isWhole_434 0 rfl ?_
    refine r_callVi (nn := 0) (As := []) (st := [.int (nI j)]) dL_isWhole_435 (tR_frame D) gL_isWhole_X3_frame rfl (by decide +kernel) ⟨Nat.le_of_ble_eq_true rfl, Nat.le_of_ble_eq_true rfl⟩ ⟨rfl, rfl⟩ hf1 rfl rfl (Nat.le_of_ble_eq_true rfl) ⟨by show _ ≤ 16000; omega, by show _ ≤ 96000; omega⟩ rfl (fun r hh hp => ?_)
    obtain ⟨hr, hhe⟩ := hp
    rw [hhe, hr]
    refine r_icmp_ge (tgt := 538) dL_isWhole_438 (by decide) (fun c6 => ?_) (fun c6 => ?_)
    · skip
      have hge : w ≤ j := Nat.le_of_not_lt (fun z => c6 (nI_lt z (by omega)))
      have hjw : j = w := by omega
      rw [hjw]
      refine r_lo (lo' := [(0, .ref q), (1, .ref pn), (2, .ref ps), (3, .int (nI X)), (4, .int (nI 1)), (5, .int (nI (sN (dt 19) w 6))), (6, .int (nI (sN (dt 17) w nF))), (7, .int (nI (pN (dt 17) w)))]) [0, 1, 2, 3, 4, 5, 6, 7] rfl ?_
      exact wh_538 D hX hH hn_0 hn_1 hS hfs hwh kret (by omega) (by omega)
    · skip
      have hj : j < w := (nI_ltI (by omega) (by omega)).mp c6
      obtain ⟨z1, z2, z3⟩ := w5 j hj
      refine r_iload dL_isWhole_441 4 rfl ?_
      refine r_if_eq (tgt := 538) dL_isWhole_443 (by decide) (fun c9 => absurd c9 (by decide)) (fun _ => ?_)
      refine r_aload_n dL_isWhole_446 0 rfl ?_
      refine r_iload dL_isWhole_447 8 rfl ?_
      refine r_iconst (v := nI 0) dL_isWhole_449 (by decide) ?_
      refine r_callXSH (nn := 3) (As := [.ref q, .int (nI j), .int (nI 0)]) (st := []) dL_isWhole_450 (tR_shown D (nI j) (nI 0)) gL_isWhole_L_shown rfl (by decide +kernel) ⟨Nat.le_of_ble_eq_true rfl, Nat.le_of_ble_eq_true rfl⟩ ⟨rfl, rfl⟩ rfl (Nat.le_of_ble_eq_true rfl) ⟨by show _ ≤ 16000; omega, by show _ ≤ 96000; omega⟩ rfl (fun Ec hh hp => hp.elim) (fun r hh hp => ?_)
      obtain ⟨hr, hhe⟩ := hp
      rw [hhe, hr, sh0 hj hW3]
      refine r_istore (lo' := [(9, .int (dt 17 j)), (0, .ref q), (1, .ref pn), (2, .ref ps), (3, .int (nI X)), (4, .int (nI 1)), (5, .int (nI (sN (dt 19) w 6))), (6, .int (nI (sN (dt 17) w nF))), (7, .int (nI (pN (dt 17) j))), (8, .int (nI j))]) dL_isWhole_453 (by decide) rfl ?_
      refine r_iload dL_isWhole_455 8 rfl ?_
      refine r_iload dL_isWhole_457 0 rfl ?_
      refine r_if_lt (tgt := 466) dL_isWhole_459 (by decide) (fun c7 => ?_) (fun c7 => ?_)
      · skip
        refine r_iconst (v := nI 0) dL_isWhole_466 (by decide) ?_
        refine r_iadd dL_isWhole_467 ?_
        rw [nI_add (pN (dt 17) j) 0]
        refine r_istore (lo' := [(7, .int (nI (pN (dt 17) j + 0))), (9, .int (dt 17 j)), (0, .ref q), (1, .ref pn), (2, .ref ps), (3, .int (nI X)), (4, .int (nI 1)), (5, .int (nI (sN (dt 19) w 6))), (6, .int (nI (sN (dt 17) w nF))), (8, .int (nI j))]) dL_isWhole_468 (by decide) rfl ?_
        refine r_iload dL_isWhole_470 1 rfl ?_
        refine r_if_lt (tgt := 479) dL_isWhole_472 (by decide) (fun _ => ?_) (fun c9 => absurd c7 c9)
        refine r_iconst (v := nI 0) dL_isWhole_479 (by decide) ?_
        refine r_aload_n dL_isWhole_480 2 rfl ?_
        refine r_iload dL_isWhole_481 9 rfl ?_
        refine r_iconst (v := nI 1) dL_isWhole_483 (by decide) ?_
        refine r_callXSH (nn := 3) (As := [.ref q, .int (nI j), .int (nI 1)]) (st := [.int (nI 0)]) dL_isWhole_484 (tR_shown D (nI j) (nI 1)) gL_isWhole_L_shown rfl (by decide +kernel) ⟨Nat.le_of_ble_eq_true rfl, Nat.le_of_ble_eq_true rfl⟩ ⟨rfl, rfl⟩ rfl (Nat.le_of_ble_eq_true rfl) ⟨by show _ ≤ 16000; omega, by show _ ≤ 96000; omega⟩ rfl (fun Ec hh hp => hp.elim) (fun r hh hp => ?_)
        obtain ⟨hr, hhe⟩ := hp
        rw [hhe, hr, sh1 hj hW3]
        refine r_if_lt (tgt := 494) dL_isWhole_487 (by decide) (fun _ => ?_) (fun c9 => absurd (z1.mp c7) c9)
        refine r_iconst (v := nI 0) dL_isWhole_494 (by decide) ?_
        refine r_icmp_ne (tgt := 529) dL_isWhole_495 (by decide) (fun c9 => absurd c9 (by decide)) (fun _ => ?_)
        refine r_aload_n dL_isWhole_498 2 rfl ?_
        refine r_iload dL_isWhole_499 9 rfl ?_
        refine r_iconst (v := nI 2) dL_isWhole_501 (by decide) ?_
        refine r_callXSH (nn := 3) (As := [.ref q, .int (nI j), .int (nI 2)]) (st := []) dL_isWhole_502 (tR_shown D (nI j) (nI 2)) gL_isWhole_L_shown rfl (by decide +kernel) ⟨Nat.le_of_ble_eq_true rfl, Nat.le_of_ble_eq_true rfl⟩ ⟨rfl, rfl⟩ rfl (Nat.le_of_ble_eq_true rfl) ⟨by show _ ≤ 16000; omega, by show _ ≤ 96000; omega⟩ rfl (fun Ec hh hp => hp.elim) (fun r hh hp => ?_)
        obtain ⟨hr, hhe⟩ := hp
        rw [hhe, hr, sh2 hj hW3]
        refine r_iconst (v := (-1)) dL_isWhole_505 (by decide) ?_
        refine r_icmp_eq (tgt := 525) dL_isWhole_506 (by decide) (fun _ => ?_) (fun c9 => absurd (z2 c7) c9)
        refine r_iconst (v := nI 1) dL_isWhole_525 (by decide) ?_
        refine r_goto (tgt := 530) dL_isWhole_526 (by decide) ?_
        refine r_istore (lo' := [(4, .int (nI 1)), (7, .int (nI (pN (dt 17) j + 0))), (9, .int (dt 17 j)), (0, .ref q), (1, .ref pn), (2, .ref ps), (3, .int (nI X)), (5, .int (nI (sN (dt 19) w 6))), (6, .int (nI (sN (dt 17) w nF))), (8, .int (nI j))]) dL_isWhole_530 (by decide) rfl ?_
        refine r_iinc (v := nI (j + 1)) (lo' := [(8, .int (nI (j + 1))), (4, .int (nI 1)), (7, .int (nI (pN (dt 17) j + 0))), (9, .int (dt 17 j)), (0, .ref q), (1, .ref pn), (2, .ref ps), (3, .int (nI X)), (5, .int (nI (sN (dt 19) w 6))), (6, .int (nI (sN (dt 17) w nF)))]) dL_isWhole_532 9 rfl (nI_1 j) (by decide) rfl ?_
        refine r_goto (tgt := 432) dL_isWhole_535 (by decide) ?_
        rw [show nI (pN (dt 17) j + 0) = nI (pN (dt 17) (j + 1)) from by rw [pN, if_pos c7]]
        refine r_lo (lo' := [(0, .ref q), (1, .ref pn), (2, .ref ps), (3, .int (nI X)), (4, .int (nI 1)), (5, .int (nI (sN (dt 19) w 6))), (6, .int (nI (sN (dt 17) w nF))), (7, .int (nI (pN (dt 17) (j + 1)))), (8, .int (nI (j + 1)))]) [4, 5, 6, 7, 1, 8, 9, 2, 0] rfl ?_
        exact ih (j + 1) _ _ (by omega) (by omega) (by omega) (by omega)
      · skip
        refine r_iconst (v := nI 1) dL_isWhole_462 (by decide) ?_
        refine r_goto (tgt := 467) dL_isWhole_463 (by decide) ?_
        refine r_iadd dL_isWhole_467 ?_
        rw [nI_add (pN (dt 17) j) 1]
        refine r_istore (lo' := [(7, .int (nI (pN (dt 17) j + 1))), (9, .int (dt 17 j)), (0, .ref q), (1, .ref pn), (2, .ref ps), (3, .int (nI X)), (4, .int (nI 1)), (5, .int (nI (sN (dt 19) w 6))), (6, .int (nI (sN (dt 17) w nF))), (8, .int (nI j))]) dL_isWhole_468 (by decide) rfl ?_
        refine r_iload dL_isWhole_470 1 rfl ?_
        refine r_if_lt (tgt := 479) dL_isWhole_472 (by decide) (fun c9 => absurd c9 c7) (fun _ => ?_)
        refine r_iconst (v := nI 1) dL_isWhole_475 (by decide) ?_
        refine r_goto (tgt := 480) dL_isWhole_476 (by decide) ?_
        refine r_aload_n dL_isWhole_480 2 rfl ?_
        refine r_iload dL_isWhole_481 9 rfl ?_
        refine r_iconst (v := nI 1) dL_isWhole_483 (by decide) ?_
        refine r_callXSH (nn := 3) (As := [.ref q, .int (nI j), .int (nI 1)]) (st := [.int (nI 1)]) dL_isWhole_484 (tR_shown D (nI j) (nI 1)) gL_isWhole_L_shown rfl (by decide +kernel) ⟨Nat.le_of_ble_eq_true rfl, Nat.le_of_ble_eq_true rfl⟩ ⟨rfl, rfl⟩ rfl (Nat.le_of_ble_eq_true rfl) ⟨by show _ ≤ 16000; omega, by show _ ≤ 96000; omega⟩ rfl (fun Ec hh hp => hp.elim) (fun r hh hp => ?_)
        obtain ⟨hr, hhe⟩ := hp
        rw [hhe, hr, sh1 hj hW3]
        refine r_if_lt (tgt := 494) dL_isWhole_487 (by decide) (fun c9 => absurd (z1.mpr c9) c7) (fun _ => ?_)
        refine r_iconst (v := nI 1) dL_isWhole_490 (by decide) ?_
        refine r_goto (tgt := 495) dL_isWhole_491 (by decide) ?_
        refine r_icmp_ne (tgt := 529) dL_isWhole_495 (by decide) (fun c9 => absurd c9 (by decide)) (fun _ => ?_)
        refine r_aload_n dL_isWhole_498 2 rfl ?_
        refine r_iload dL_isWhole_499 9 rfl ?_
        refine r_iconst (v := nI 2) dL_isWhole_501 (by decide) ?_
        refine r_callXSH (nn := 3) (As := [.ref q, .int (nI j), .int (nI 2)]) (st := []) dL_isWhole_502 (tR_shown D (nI j) (nI 2)) gL_isWhole_L_shown rfl (by decide +kernel) ⟨Nat.le_of_ble_eq_true rfl, Nat.le_of_ble_eq_true rfl⟩ ⟨rfl, rfl⟩ rfl (Nat.le_of_ble_eq_true rfl) ⟨by show _ ≤ 16000; omega, by show _ ≤ 96000; omega⟩ rfl (fun Ec hh hp => hp.elim) (fun r hh hp => ?_)
        obtain ⟨hr, hhe⟩ := hp
        rw [hhe, hr, sh2 hj hW3]
        refine r_iconst (v := (-1)) dL_isWhole_505 (by decide) ?_
        refine r_icmp_eq (tgt := 525) dL_isWhole_506 (by decide) (fun c8 => ?_) (fun c8 => ?_)
        · skip
          refine r_iconst (v := nI 1) dL_isWhole_525 (by decide) ?_
          refine r_goto (tgt := 530) dL_isWhole_526 (by decide) ?_
          refine r_istore (lo' := [(4, .int (nI 1)), (7, .int (nI (pN (dt 17) j + 1))), (9, .int (dt 17 j)), (0, .ref q), (1, .ref pn), (2, .ref ps), (3, .int (nI X)), (5, .int (nI (sN (dt 19) w 6))), (6, .int (nI (sN (dt 17) w nF))), (8, .int (nI j))]) dL_isWhole_530 (by decide) rfl ?_
          refine r_iinc (v := nI (j + 1)) (lo' := [(8, .int (nI (j + 1))), (4, .int (nI 1)), (7, .int (nI (pN (dt 17) j + 1))), (9, .int (dt 17 j)), (0, .ref q), (1, .ref pn), (2, .ref ps), (3, .int (nI X)), (5, .int (nI (sN (dt 19) w 6))), (6, .int (nI (sN (dt 17) w nF)))]) dL_isWhole_532 9 rfl (nI_1 j) (by decide) rfl ?_
          refine r_goto (tgt := 432) dL_isWhole_535 (by decide) ?_
          rw [show nI (pN (dt 17) j + 1) = nI (pN (dt 17) (j + 1)) from by rw [pN, if_neg c7]]
          refine r_lo (lo' := [(0, .ref q), (1, .ref pn), (2, .ref ps), (3, .int (nI X)), (4, .int (nI 1)), (5, .int (nI (sN (dt 19) w 6))), (6, .int (nI (sN (dt 17) w nF))), (7, .int (nI (pN (dt 17) (j + 1)))), (8, .int (nI (j + 1)))]) [4, 5, 6, 7, 1, 8, 9, 2, 0] rfl ?_
          exact ih (j + 1) _ _ (by omega) (by omega) (by omega) (by omega)
        · skip
          obtain ⟨k9, hk9, e17, h62⟩ := z3.resolve_left c8
          have hv6 : vFightOf dt nF nC nE w (dt 17 j) (nI 0) = dt 6 k9 := by rw [e17]; exact fo0 hd hk9
          refine r_iload dL_isWhole_509 1 rfl ?_
          refine r_if_lt (tgt := 529) dL_isWhole_511 (by decide) (fun c9 => absurd c9 c7) (fun _ => ?_)
          refine r_aload_n dL_isWhole_514 2 rfl ?_
          refine r_iload dL_isWhole_515 1 rfl ?_
          refine r_iconst (v := nI 0) dL_isWhole_517 (by decide) ?_
          refine r_callXSH (nn := 3) (As := [.ref q, .int (dt 17 j), .int (nI 0)]) (st := []) dL_isWhole_518 (tR_fightOf D (dt 17 j) (nI 0)) gL_isWhole_L_fightOf rfl (by decide +kernel) ⟨Nat.le_of_ble_eq_true rfl, Nat.le_of_ble_eq_true rfl⟩ ⟨rfl, rfl⟩ rfl (Nat.le_of_ble_eq_true rfl) ⟨by show _ ≤ 16000; omega, by show _ ≤ 96000; omega⟩ rfl (fun Ec hh hp => hp.elim) (fun r hh hp => ?_)
          obtain ⟨hr, hhe⟩ := hp
          rw [hhe, hr, hv6]
          refine r_iconst (v := nI 2) dL_isWhole_521 (by decide) ?_
          refine r_icmp_eq (tgt := 529) dL_isWhole_522 (by decide) (fun c9 => absurd c9 h62) (fun _ => ?_)
          refine r_iconst (v := nI 1) dL_isWhole_525 (by decide) ?_
          refine r_goto (tgt := 530) dL_isWhole_526 (by decide) ?_
          refine r_istore (lo' := [(4, .int (nI 1)), (7, .int (nI (pN (dt 17) j + 1))), (9, .int (dt 17 j)), (0, .ref q), (1, .ref pn), (2, .ref ps), (3, .int (nI X)), (5, .int (nI (sN (dt 19) w 6))), (6, .int (nI (sN (dt 17) w nF))), (8, .int (nI j))]) dL_isWhole_530 (by decide) rfl ?_
          refine r_iinc (v := nI (j + 1)) (lo' := [(8, .int (nI (j + 1))), (4, .int (nI 1)), (7, .int (nI (pN (dt 17) j + 1))), (9, .int (dt 17 j)), (0, .ref q), (1, .ref pn), (2, .ref ps), (3, .int (nI X)), (5, .int (nI (sN (dt 19) w 6))), (6, .int (nI (sN (dt 17) w nF)))]) dL_isWhole_532 9 rfl (nI_1 j) (by decide) rfl ?_
          refine r_goto (tgt := 432) dL_isWhole_535 (by decide) ?_
          rw [show nI (pN (dt 17) j + 1) = nI (pN (dt 17) (j + 1)) from by rw [pN, if_neg c7]]
          refine r_lo (lo' := [(0, .ref q), (1, .ref pn), (2, .ref ps), (3, .int (nI X)), (4, .int (nI 1)), (5, .int (nI (sN (dt 19) w 6))), (6, .int (nI (sN (dt 17) w nF))), (7, .int (nI (pN (dt 17) (j + 1)))), (8, .int (nI (j + 1)))]) [4, 5, 6, 7, 1, 8, 9, 2, 0] rfl ?_
          exact ih (j + 1) _ _ (by omega) (by omega) (by omega) (by omega)

set_option maxHeartbeats 8000000 in
set_option maxRecDepth 100000 in
theorem wh_329 {E : kE} {H : kH} {dt : kM} {nF nC nE w X q pn ps : Nat} {fn fs : Nat → Int32} {X9 : kX} (D : Dk E q dt nF nC nE w H) (hX : X < 2 ^ 31) (hH : H pn = some (.inl (kI E, 3, .inl fn))) (hn_0 : fn 0 = nI nF) (hn_1 : fn 1 = nI nC) (hS : H ps = some (.inl (kI E, 6, .inl fs))) (hfs : ∀ k, k < nC → fs k = dt 11 k) (hwh : WH dt nF nC nE w) (kret : ∀ (k n : Nat) (h' : kH) (lo : List (Nat × Value)) (pc : Nat) (r : Int32), k ≤ 16000 → n ≤ 96000 → decode cL_isWhole pc = .ok (.ireturn, 1) → narrow .boolean (.int r) = .int r → (r = 1 ∧ h' = H) → V E X9 rmL_isWhole cL_isWhole 11 wsL_isWhole RL k n h' lo pc [.int r]) : ∀ (d j k n : Nat), nC < j + d → j ≤ nC → k ≤ 900 + 10 * j → n ≤ 5400 + 60 * j → V E X9 rmL_isWhole cL_isWhole 11 wsL_isWhole RL k n H [(0, .ref q), (1, .ref pn), (2, .ref ps), (3, .int (nI X)), (4, .int (nI 1)), (5, .int (nI (sN (dt 19) w 6))), (6, .int (nI (sN (dt 17) w nF))), (7, .int (nI j))] 329 [] := by
  obtain ⟨hF, hF20, hC, hC6, hE, hE80, hW, hW3, hpl, hof, hsp⟩ := id D.wf
  have hd := D.wf
  obtain ⟨fs1, hf1⟩ := D.at
  obtain ⟨w1, w2, w3, w4, w5, w6, w7⟩ := id hwh
  intro d
  induction d with
  | zero =>
    intro j k n h1 h2
    exact absurd h1 (by omega)
  | succ d ih =>
    intro j k n h1 h2 hk hn
    refine r_iload dL_isWhole_329 7 rfl ?_
    refine r_aload_n dL_isWhole_331 1 rfl ?_
    refine r_iconst (v := nI 1) dL_isWhole_332 (by decide) ?_
    refine r_iald dL_isWhole_333 hH (vp_in_nI (by decide) (by decide)) ?_
    rw [show fn (nI 1).toNatClampNeg = nI nC from hn_1]
    refine r_icmp_ge (tgt := 426) dL_isWhole_334 (by decide) (fun c6 => ?_) (fun c6 => ?_)
    · skip
      refine r_iconst (v := nI 0) dL_isWhole_426 (by decide) ?_
      refine r_istore (lo' := [(7, .int (nI 0)), (0, .ref q), (1, .ref pn), (2, .ref ps), (3, .int (nI X)), (4, .int (nI 1)), (5, .int (nI (sN (dt 19) w 6))), (6, .int (nI (sN (dt 17) w nF)))]) dL_isWhole_427 (by decide) rfl ?_
      refine r_iconst (v := nI 0) dL_isWhole_429 (by decide) ?_
      refine r_istore (lo' := [(8, .int (nI 0)), (7, .int (nI 0)), (0, .ref q), (1, .ref pn), (2, .ref ps), (3, .int (nI X)), (4, .int (nI 1)), (5, .int (nI (sN (dt 19) w 6))), (6, .int (nI (sN (dt 17) w nF)))]) dL_isWhole_430 (by decide) rfl ?_
      refine r_lo (lo' := [(0, .ref q), (1, .ref pn), (2, .ref ps), (3, .int (nI X)), (4, .int (nI 1)), (5, .int (nI (sN (dt 19) w 6))), (6, .int (nI (sN (dt 17) w nF))), (7, .int (nI (pN (dt 17) 0))), (8, .int (nI 0))]) [2, 3, 4, 5, 6, 7, 8, 1, 0] rfl ?_
      exact wh_432 D hX hH hn_0 hn_1 hS hfs hwh kret (w + 1) 0 _ _ (by omega) (by omega) (by omega) (by omega)
    · skip
      have hj : j < nC := (nI_ltI (by omega) (by omega)).mp c6
      obtain ⟨z1, z2, z3⟩ := w4 j hj
      refine r_iload dL_isWhole_337 4 rfl ?_
      refine r_if_eq (tgt := 426) dL_isWhole_339 (by decide) (fun c9 => absurd c9 (by decide)) (fun _ => ?_)
      refine r_aload_n dL_isWhole_342 0 rfl ?_
      refine r_iload dL_isWhole_343 7 rfl ?_
      refine r_iconst (v := nI 0) dL_isWhole_345 (by decide) ?_
      refine r_callXSH (nn := 3) (As := [.ref q, .int (nI j), .int (nI 0)]) (st := []) dL_isWhole_346 (tR_cameraOf D (nI j) (nI 0)) gL_isWhole_L_cameraOf rfl (by decide +kernel) ⟨Nat.le_of_ble_eq_true rfl, Nat.le_of_ble_eq_true rfl⟩ ⟨rfl, rfl⟩ rfl (Nat.le_of_ble_eq_true rfl) ⟨by show _ ≤ 16000; omega, by show _ ≤ 96000; omega⟩ rfl (fun Ec hh hp => hp.elim) (fun r hh hp => ?_)
      obtain ⟨hr, hhe⟩ := hp
      rw [hhe, hr, ca0 hd hj]
      refine r_aload_n dL_isWhole_349 2 rfl ?_
      refine r_iload dL_isWhole_350 7 rfl ?_
      refine r_iald dL_isWhole_352 hS (vp_in_nI (by omega) (by decide)) ?_
      rw [show fs (nI j).toNatClampNeg = dt 11 j from by rw [nI_clamp (by omega)]; exact hfs j hj]
      refine r_icmp_gt (tgt := 417) dL_isWhole_353 (by decide) (fun c9 => absurd c9 z1) (fun _ => ?_)
      refine r_aload_n dL_isWhole_356 0 rfl ?_
      refine r_iload dL_isWhole_357 7 rfl ?_
      refine r_iconst (v := nI 1) dL_isWhole_359 (by decide) ?_
      refine r_callXSH (nn := 3) (As := [.ref q, .int (nI j), .int (nI 1)]) (st := []) dL_isWhole_360 (tR_cameraOf D (nI j) (nI 1)) gL_isWhole_L_cameraOf rfl (by decide +kernel) ⟨Nat.le_of_ble_eq_true rfl, Nat.le_of_ble_eq_true rfl⟩ ⟨rfl, rfl⟩ rfl (Nat.le_of_ble_eq_true rfl) ⟨by show _ ≤ 16000; omega, by show _ ≤ 96000; omega⟩ rfl (fun Ec hh hp => hp.elim) (fun r hh hp => ?_)
      obtain ⟨hr, hhe⟩ := hp
      rw [hhe, hr, ca1 hd hj]
      refine r_if_lt (tgt := 417) dL_isWhole_363 (by decide) (fun c9 => absurd c9 z2) (fun _ => ?_)
      refine r_aload_n dL_isWhole_366 0 rfl ?_
      refine r_iload dL_isWhole_367 7 rfl ?_
      refine r_iconst (v := nI 0) dL_isWhole_369 (by decide) ?_
      refine r_callXSH (nn := 3) (As := [.ref q, .int (nI j), .int (nI 0)]) (st := []) dL_isWhole_370 (tR_cameraOf D (nI j) (nI 0)) gL_isWhole_L_cameraOf rfl (by decide +kernel) ⟨Nat.le_of_ble_eq_true rfl, Nat.le_of_ble_eq_true rfl⟩ ⟨rfl, rfl⟩ rfl (Nat.le_of_ble_eq_true rfl) ⟨by show _ ≤ 16000; omega, by show _ ≤ 96000; omega⟩ rfl (fun Ec hh hp => hp.elim) (fun r hh hp => ?_)
      obtain ⟨hr, hhe⟩ := hp
      rw [hhe, hr, ca0 hd hj]
      refine r_aload_n dL_isWhole_373 2 rfl ?_
      refine r_iload dL_isWhole_374 7 rfl ?_
      refine r_iald dL_isWhole_376 hS (vp_in_nI (by omega) (by decide)) ?_
      rw [show fs (nI j).toNatClampNeg = dt 11 j from by rw [nI_clamp (by omega)]; exact hfs j hj]
      refine r_icmp_ne (tgt := 384) dL_isWhole_377 (by decide) (fun c7 => ?_) (fun c7 => ?_)
      · skip
        refine r_iconst (v := nI 0) dL_isWhole_384 (by decide) ?_
        refine r_aload_n dL_isWhole_385 0 rfl ?_
        refine r_iload dL_isWhole_386 7 rfl ?_
        refine r_iconst (v := nI 0) dL_isWhole_388 (by decide) ?_
        refine r_callXSH (nn := 3) (As := [.ref q, .int (nI j), .int (nI 0)]) (st := [.int (nI 0)]) dL_isWhole_389 (tR_cameraOf D (nI j) (nI 0)) gL_isWhole_L_cameraOf rfl (by decide +kernel) ⟨Nat.le_of_ble_eq_true rfl, Nat.le_of_ble_eq_true rfl⟩ ⟨rfl, rfl⟩ rfl (Nat.le_of_ble_eq_true rfl) ⟨by show _ ≤ 16000; omega, by show _ ≤ 96000; omega⟩ rfl (fun Ec hh hp => hp.elim) (fun r hh hp => ?_)
        obtain ⟨hr, hhe⟩ := hp
        rw [hhe, hr, ca0 hd hj]
        refine r_if_le (tgt := 409) dL_isWhole_392 (by decide) (fun c8 => ?_) (fun c8 => ?_)
        · skip
          refine r_iconst (v := nI 0) dL_isWhole_409 (by decide) ?_
          refine r_icmp_ne (tgt := 417) dL_isWhole_410 (by decide) (fun c9 => absurd c9 (by decide)) (fun _ => ?_)
          refine r_iconst (v := nI 1) dL_isWhole_413 (by decide) ?_
          refine r_goto (tgt := 418) dL_isWhole_414 (by decide) ?_
          refine r_istore (lo' := [(4, .int (nI 1)), (0, .ref q), (1, .ref pn), (2, .ref ps), (3, .int (nI X)), (5, .int (nI (sN (dt 19) w 6))), (6, .int (nI (sN (dt 17) w nF))), (7, .int (nI j))]) dL_isWhole_418 (by decide) rfl ?_
          refine r_iinc (v := nI (j + 1)) (lo' := [(7, .int (nI (j + 1))), (4, .int (nI 1)), (0, .ref q), (1, .ref pn), (2, .ref ps), (3, .int (nI X)), (5, .int (nI (sN (dt 19) w 6))), (6, .int (nI (sN (dt 17) w nF)))]) dL_isWhole_420 7 rfl (nI_1 j) (by decide) rfl ?_
          refine r_goto (tgt := 329) dL_isWhole_423 (by decide) ?_
          refine r_lo (lo' := [(0, .ref q), (1, .ref pn), (2, .ref ps), (3, .int (nI X)), (4, .int (nI 1)), (5, .int (nI (sN (dt 19) w 6))), (6, .int (nI (sN (dt 17) w nF))), (7, .int (nI (j + 1)))]) [2, 3, 4, 5, 1, 6, 7, 0] rfl ?_
          exact ih (j + 1) _ _ (by omega) (by omega) (by omega) (by omega)
        · skip
          refine r_aload_n dL_isWhole_395 0 rfl ?_
          refine r_iload dL_isWhole_396 7 rfl ?_
          refine r_iconst (v := nI 1) dL_isWhole_398 (by decide) ?_
          refine r_callXSH (nn := 3) (As := [.ref q, .int (nI j), .int (nI 1)]) (st := [.int (nI 0)]) dL_isWhole_399 (tR_cameraOf D (nI j) (nI 1)) gL_isWhole_L_cameraOf rfl (by decide +kernel) ⟨Nat.le_of_ble_eq_true rfl, Nat.le_of_ble_eq_true rfl⟩ ⟨rfl, rfl⟩ rfl (Nat.le_of_ble_eq_true rfl) ⟨by show _ ≤ 16000; omega, by show _ ≤ 96000; omega⟩ rfl (fun Ec hh hp => hp.elim) (fun r hh hp => ?_)
          obtain ⟨hr, hhe⟩ := hp
          rw [hhe, hr, ca1 hd hj]
          refine r_if_le (tgt := 409) dL_isWhole_402 (by decide) (fun _ => ?_) (fun c9 => absurd (z3.mpr ⟨c8, c9⟩) c7)
          refine r_iconst (v := nI 0) dL_isWhole_409 (by decide) ?_
          refine r_icmp_ne (tgt := 417) dL_isWhole_410 (by decide) (fun c9 => absurd c9 (by decide)) (fun _ => ?_)
          refine r_iconst (v := nI 1) dL_isWhole_413 (by decide) ?_
          refine r_goto (tgt := 418) dL_isWhole_414 (by decide) ?_
          refine r_istore (lo' := [(4, .int (nI 1)), (0, .ref q), (1, .ref pn), (2, .ref ps), (3, .int (nI X)), (5, .int (nI (sN (dt 19) w 6))), (6, .int (nI (sN (dt 17) w nF))), (7, .int (nI j))]) dL_isWhole_418 (by decide) rfl ?_
          refine r_iinc (v := nI (j + 1)) (lo' := [(7, .int (nI (j + 1))), (4, .int (nI 1)), (0, .ref q), (1, .ref pn), (2, .ref ps), (3, .int (nI X)), (5, .int (nI (sN (dt 19) w 6))), (6, .int (nI (sN (dt 17) w nF)))]) dL_isWhole_420 7 rfl (nI_1 j) (by decide) rfl ?_
          refine r_goto (tgt := 329) dL_isWhole_423 (by decide) ?_
          refine r_lo (lo' := [(0, .ref q), (1, .ref pn), (2, .ref ps), (3, .int (nI X)), (4, .int (nI 1)), (5, .int (nI (sN (dt 19) w 6))), (6, .int (nI (sN (dt 17) w nF))), (7, .int (nI (j + 1)))]) [2, 3, 4, 5, 1, 6, 7, 0] rfl ?_
          exact ih (j + 1) _ _ (by omega) (by omega) (by omega) (by omega)
      · skip
        refine r_iconst (v := nI 1) dL_isWhole_380 (by decide) ?_
        refine r_goto (tgt := 385) dL_isWhole_381 (by decide) ?_
        refine r_aload_n dL_isWhole_385 0 rfl ?_
        refine r_iload dL_isWhole_386 7 rfl ?_
        refine r_iconst (v := nI 0) dL_isWhole_388 (by decide) ?_
        refine r_callXSH (nn := 3) (As := [.ref q, .int (nI j), .int (nI 0)]) (st := [.int (nI 1)]) dL_isWhole_389 (tR_cameraOf D (nI j) (nI 0)) gL_isWhole_L_cameraOf rfl (by decide +kernel) ⟨Nat.le_of_ble_eq_true rfl, Nat.le_of_ble_eq_true rfl⟩ ⟨rfl, rfl⟩ rfl (Nat.le_of_ble_eq_true rfl) ⟨by show _ ≤ 16000; omega, by show _ ≤ 96000; omega⟩ rfl (fun Ec hh hp => hp.elim) (fun r hh hp => ?_)
        obtain ⟨hr, hhe⟩ := hp
        rw [hhe, hr, ca0 hd hj]
        refine r_if_le (tgt := 409) dL_isWhole_392 (by decide) (fun c9 => absurd (z3.mp c7).1 c9) (fun _ => ?_)
        refine r_aload_n dL_isWhole_395 0 rfl ?_
        refine r_iload dL_isWhole_396 7 rfl ?_
        refine r_iconst (v := nI 1) dL_isWhole_398 (by decide) ?_
        refine r_callXSH (nn := 3) (As := [.ref q, .int (nI j), .int (nI 1)]) (st := [.int (nI 1)]) dL_isWhole_399 (tR_cameraOf D (nI j) (nI 1)) gL_isWhole_L_cameraOf rfl (by decide +kernel) ⟨Nat.le_of_ble_eq_true rfl, Nat.le_of_ble_eq_true rfl⟩ ⟨rfl, rfl⟩ rfl (Nat.le_of_ble_eq_true rfl) ⟨by show _ ≤ 16000; omega, by show _ ≤ 96000; omega⟩ rfl (fun Ec hh hp => hp.elim) (fun r hh hp => ?_)
        obtain ⟨hr, hhe⟩ := hp
        rw [hhe, hr, ca1 hd hj]
        refine r_if_le (tgt := 409) dL_isWhole_402 (by decide) (fun c9 => absurd (z3.mp c7).2 c9) (fun _ => ?_)
        refine r_iconst (v := nI 1) dL_isWhole_405 (by decide) ?_
        refine r_goto (tgt := 410) dL_isWhole_406 (by decide) ?_
        refine r_icmp_ne (tgt := 417) dL_isWhole_410 (by decide) (fun c9 => absurd c9 (by decide)) (fun _ => ?_)
        refine r_iconst (v := nI 1) dL_isWhole_413 (by decide) ?_
        refine r_goto (tgt := 418) dL_isWhole_414 (by decide) ?_
        refine r_istore (lo' := [(4, .int (nI 1)), (0, .ref q), (1, .ref pn), (2, .ref ps), (3, .int (nI X)), (5, .int (nI (sN (dt 19) w 6))), (6, .int (nI (sN (dt 17) w nF))), (7, .int (nI j))]) dL_isWhole_418 (by decide) rfl ?_
        refine r_iinc (v := nI (j + 1)) (lo' := [(7, .int (nI (j + 1))), (4, .int (nI 1)), (0, .ref q), (1, .ref pn), (2, .ref ps), (3, .int (nI X)), (5, .int (nI (sN (dt 19) w 6))), (6, .int (nI (sN (dt 17) w nF)))]) dL_isWhole_420 7 rfl (nI_1 j) (by decide) rfl ?_
        refine r_goto (tgt := 329) dL_isWhole_423 (by decide) ?_
        refine r_lo (lo' := [(0, .ref q), (1, .ref pn), (2, .ref ps), (3, .int (nI X)), (4, .int (nI 1)), (5, .int (nI (sN (dt 19) w 6))), (6, .int (nI (sN (dt 17) w nF))), (7, .int (nI (j + 1)))]) [2, 3, 4, 5, 1, 6, 7, 0] rfl ?_
        exact ih (j + 1) _ _ (by omega) (by omega) (by omega) (by omega)

set_option maxHeartbeats 8000000 in
set_option maxRecDepth 100000 in
theorem wh_313 {E : kE} {H : kH} {dt : kM} {nF nC nE w X q pn ps : Nat} {fn fs : Nat → Int32} {X9 : kX} (D : Dk E q dt nF nC nE w H) (hX : X < 2 ^ 31) (hH : H pn = some (.inl (kI E, 3, .inl fn))) (hn_0 : fn 0 = nI nF) (hn_1 : fn 1 = nI nC) (hS : H ps = some (.inl (kI E, 6, .inl fs))) (hfs : ∀ k, k < nC → fs k = dt 11 k) (hwh : WH dt nF nC nE w) {j c0 n0 : Nat} (hj : j < nF) (hc0 : c0 + 40 ≤ 15000) (hn0 : n0 + 240 ≤ 90000) (kk : ∀ k n, k ≤ c0 + 40 → n ≤ n0 + 240 → V E X9 rmL_isWhole cL_isWhole 11 wsL_isWhole RL k n H [(0, .ref q), (1, .ref pn), (2, .ref ps), (3, .int (nI X)), (4, .int (nI 1)), (5, .int (nI (sN (dt 19) w 6))), (6, .int (nI (sN (dt 17) w (j + 1)))), (7, .int (nI (j + 1)))] 105 []) {k n : Nat} (hk : k ≤ c0 + 40) (hn : n ≤ n0 + 240) : V E X9 rmL_isWhole cL_isWhole 11 wsL_isWhole RL k n H [(0, .ref q), (1, .ref pn), (2, .ref ps), (3, .int (nI X)), (4, .int (nI 1)), (5, .int (nI (sN (dt 19) w 6))), (6, .int (nI (sN (dt 17) w j + nct (dt 17) (nI j) w))), (7, .int (nI j)), (8, .int (dt 9 j)), (9, .int (dt 6 j)), (10, .int (nI (X % 10)))] 313 [] := by
  obtain ⟨hF, hF20, hC, hC6, hE, hE80, hW, hW3, hpl, hof, hsp⟩ := id D.wf
  have hd := D.wf
  obtain ⟨fs1, hf1⟩ := D.at
  obtain ⟨w1, w2, w3, w4, w5, w6, w7⟩ := id hwh
  obtain ⟨g1, g2, g3, g4, g5⟩ := w3 j hj
  obtain ⟨p1, p2, p3⟩ := g4 (X % 10) (Nat.mod_lt _ (by omega))
  have r7 := vp_rng (hpl j hj).1
  have r8 := vp_rng (hpl j hj).2.1
  refine r_iconst (v := nI 1) dL_isWhole_313 (by decide) ?_
  refine r_goto (tgt := 318) dL_isWhole_314 (by decide) ?_
  refine r_istore (lo' := [(4, .int (nI 1)), (0, .ref q), (1, .ref pn), (2, .ref ps), (3, .int (nI X)), (5, .int (nI (sN (dt 19) w 6))), (6, .int (nI (sN (dt 17) w j + nct (dt 17) (nI j) w))), (7, .int (nI j)), (8, .int (dt 9 j)), (9, .int (dt 6 j)), (10, .int (nI (X % 10)))]) dL_isWhole_318 (by decide) rfl ?_
  refine r_iinc (v := nI (j + 1)) (lo' := [(7, .int (nI (j + 1))), (4, .int (nI 1)), (0, .ref q), (1, .ref pn), (2, .ref ps), (3, .int (nI X)), (5, .int (nI (sN (dt 19) w 6))), (6, .int (nI (sN (dt 17) w j + nct (dt 17) (nI j) w))), (8, .int (dt 9 j)), (9, .int (dt 6 j)), (10, .int (nI (X % 10)))]) dL_isWhole_320 7 rfl (nI_1 j) (by decide) rfl ?_
  refine r_goto (tgt := 105) dL_isWhole_323 (by decide) ?_
  refine r_lo (lo' := [(0, .ref q), (1, .ref pn), (2, .ref ps), (3, .int (nI X)), (4, .int (nI 1)), (5, .int (nI (sN (dt 19) w 6))), (6, .int (nI (sN (dt 17) w (j + 1)))), (7, .int (nI (j + 1)))]) [2, 3, 4, 5, 1, 6, 7, 0] rfl ?_
  exact kk _ _ (by omega) (by omega)

set_option maxHeartbeats 8000000 in
set_option maxRecDepth 100000 in
theorem wh_267 {E : kE} {H : kH} {dt : kM} {nF nC nE w X q pn ps : Nat} {fn fs : Nat → Int32} {X9 : kX} (D : Dk E q dt nF nC nE w H) (hX : X < 2 ^ 31) (hH : H pn = some (.inl (kI E, 3, .inl fn))) (hn_0 : fn 0 = nI nF) (hn_1 : fn 1 = nI nC) (hS : H ps = some (.inl (kI E, 6, .inl fs))) (hfs : ∀ k, k < nC → fs k = dt 11 k) (hwh : WH dt nF nC nE w) {j c0 n0 : Nat} (hj : j < nF) (hc0 : c0 + 40 ≤ 15000) (hn0 : n0 + 240 ≤ 90000) (kk : ∀ k n, k ≤ c0 + 40 → n ≤ n0 + 240 → V E X9 rmL_isWhole cL_isWhole 11 wsL_isWhole RL k n H [(0, .ref q), (1, .ref pn), (2, .ref ps), (3, .int (nI X)), (4, .int (nI 1)), (5, .int (nI (sN (dt 19) w 6))), (6, .int (nI (sN (dt 17) w (j + 1)))), (7, .int (nI (j + 1)))] 105 []) {k n : Nat} (hk : k ≤ c0 + 30) (hn : n ≤ n0 + 180) : V E X9 rmL_isWhole cL_isWhole 11 wsL_isWhole RL k n H [(0, .ref q), (1, .ref pn), (2, .ref ps), (3, .int (nI X)), (4, .int (nI 1)), (5, .int (nI (sN (dt 19) w 6))), (6, .int (nI (sN (dt 17) w j + nct (dt 17) (nI j) w))), (7, .int (nI j)), (8, .int (dt 9 j)), (9, .int (dt 6 j)), (10, .int (nI (X % 10)))] 267 [] := by
  obtain ⟨hF, hF20, hC, hC6, hE, hE80, hW, hW3, hpl, hof, hsp⟩ := id D.wf
  have hd := D.wf
  obtain ⟨fs1, hf1⟩ := D.at
  obtain ⟨w1, w2, w3, w4, w5, w6, w7⟩ := id hwh
  obtain ⟨g1, g2, g3, g4, g5⟩ := w3 j hj
  obtain ⟨p1, p2, p3⟩ := g4 (X % 10) (Nat.mod_lt _ (by omega))
  have r7 := vp_rng (hpl j hj).1
  have r8 := vp_rng (hpl j hj).2.1
  refine r_iload dL_isWhole_267 8 rfl ?_
  refine r_iconst (v := (-1)) dL_isWhole_269 (by decide) ?_
  refine r_icmp_eq (tgt := 313) dL_isWhole_270 (by decide) (fun c7 => ?_) (fun c7 => ?_)
  · skip
    refine r_lo (lo' := [(0, .ref q), (1, .ref pn), (2, .ref ps), (3, .int (nI X)), (4, .int (nI 1)), (5, .int (nI (sN (dt 19) w 6))), (6, .int (nI (sN (dt 17) w j + nct (dt 17) (nI j) w))), (7, .int (nI j)), (8, .int (dt 9 j)), (9, .int (dt 6 j)), (10, .int (nI (X % 10)))]) [0, 1, 2, 3, 4, 5, 6, 7, 8, 9, 10] rfl ?_
    exact wh_313 D hX hH hn_0 hn_1 hS hfs hwh hj hc0 hn0 kk (by omega) (by omega)
  · skip
    have r9 : ¬ dt 9 j < 0 ∧ dt 9 j < 10 := by
      rcases g2.resolve_left c7 with z | z
      · rw [z]; exact r7
      · rw [z]; exact r8
    refine r_aload_n dL_isWhole_273 0 rfl ?_
    refine r_iload dL_isWhole_274 7 rfl ?_
    refine r_iload dL_isWhole_276 8 rfl ?_
    refine r_callXSH (nn := 3) (As := [.ref q, .int (nI j), .int (dt 9 j)]) (st := []) dL_isWhole_278 (tR_points D (nI j) (dt 9 j)) gL_isWhole_L_points rfl (by decide +kernel) ⟨Nat.le_of_ble_eq_true rfl, Nat.le_of_ble_eq_true rfl⟩ ⟨rfl, rfl⟩ rfl (Nat.le_of_ble_eq_true rfl) ⟨by show _ ≤ 16000; omega, by show _ ≤ 96000; omega⟩ rfl (fun Ec hh hp => hp.elim) (fun r hh hp => ?_)
    obtain ⟨hr, hhe⟩ := hp
    rw [hhe, hr, ok_points hd hj r9]
    refine r_iconst (v := nI 2) dL_isWhole_281 (by decide) ?_
    refine r_imul dL_isWhole_282 ?_
    refine r_aload_n dL_isWhole_283 0 rfl ?_
    refine r_iload dL_isWhole_284 7 rfl ?_
    refine r_aload_n dL_isWhole_286 0 rfl ?_
    refine r_iload dL_isWhole_287 7 rfl ?_
    refine r_iconst (v := nI 1) dL_isWhole_289 (by decide) ?_
    refine r_callXSH (nn := 3) (As := [.ref q, .int (nI j), .int (nI 1)]) (st := [.int (nI j), .ref q, .int ((dPts dt (nI w) j (dt 9 j) nE) * nI 2)]) dL_isWhole_290 (tR_fightOf D (nI j) (nI 1)) gL_isWhole_L_fightOf rfl (by decide +kernel) ⟨Nat.le_of_ble_eq_true rfl, Nat.le_of_ble_eq_true rfl⟩ ⟨rfl, rfl⟩ rfl (Nat.le_of_ble_eq_true rfl) ⟨by show _ ≤ 16000; omega, by show _ ≤ 96000; omega⟩ rfl (fun Ec hh hp => hp.elim) (fun r hh hp => ?_)
    obtain ⟨hr, hhe⟩ := hp
    rw [hhe, hr, fo1 hd hj]
    refine r_callXSH (nn := 3) (As := [.ref q, .int (nI j), .int (dt 7 j)]) (st := [.int ((dPts dt (nI w) j (dt 9 j) nE) * nI 2)]) dL_isWhole_293 (tR_points D (nI j) (dt 7 j)) gL_isWhole_L_points rfl (by decide +kernel) ⟨Nat.le_of_ble_eq_true rfl, Nat.le_of_ble_eq_true rfl⟩ ⟨rfl, rfl⟩ rfl (Nat.le_of_ble_eq_true rfl) ⟨by show _ ≤ 16000; omega, by show _ ≤ 96000; omega⟩ rfl (fun Ec hh hp => hp.elim) (fun r hh hp => ?_)
    obtain ⟨hr, hhe⟩ := hp
    rw [hhe, hr, ok_points hd hj r7]
    refine r_aload_n dL_isWhole_296 0 rfl ?_
    refine r_iload dL_isWhole_297 7 rfl ?_
    refine r_aload_n dL_isWhole_299 0 rfl ?_
    refine r_iload dL_isWhole_300 7 rfl ?_
    refine r_iconst (v := nI 2) dL_isWhole_302 (by decide) ?_
    refine r_callXSH (nn := 3) (As := [.ref q, .int (nI j), .int (nI 2)]) (st := [.int (nI j), .ref q, .int (dPts dt (nI w) j (dt 7 j) nE), .int ((dPts dt (nI w) j (dt 9 j) nE) * nI 2)]) dL_isWhole_303 (tR_fightOf D (nI j) (nI 2)) gL_isWhole_L_fightOf rfl (by decide +kernel) ⟨Nat.le_of_ble_eq_true rfl, Nat.le_of_ble_eq_true rfl⟩ ⟨rfl, rfl⟩ rfl (Nat.le_of_ble_eq_true rfl) ⟨by show _ ≤ 16000; omega, by show _ ≤ 96000; omega⟩ rfl (fun Ec hh hp => hp.elim) (fun r hh hp => ?_)
    obtain ⟨hr, hhe⟩ := hp
    rw [hhe, hr, fo2 hd hj]
    refine r_callXSH (nn := 3) (As := [.ref q, .int (nI j), .int (dt 8 j)]) (st := [.int (dPts dt (nI w) j (dt 7 j) nE), .int ((dPts dt (nI w) j (dt 9 j) nE) * nI 2)]) dL_isWhole_306 (tR_points D (nI j) (dt 8 j)) gL_isWhole_L_points rfl (by decide +kernel) ⟨Nat.le_of_ble_eq_true rfl, Nat.le_of_ble_eq_true rfl⟩ ⟨rfl, rfl⟩ rfl (Nat.le_of_ble_eq_true rfl) ⟨by show _ ≤ 16000; omega, by show _ ≤ 96000; omega⟩ rfl (fun Ec hh hp => hp.elim) (fun r hh hp => ?_)
    obtain ⟨hr, hhe⟩ := hp
    rw [hhe, hr, ok_points hd hj r8]
    refine r_iadd dL_isWhole_309 ?_
    refine r_icmp_le (tgt := 317) dL_isWhole_310 (by decide) (fun c9 => absurd (g5 c7) c9) (fun _ => ?_)
    refine r_lo (lo' := [(0, .ref q), (1, .ref pn), (2, .ref ps), (3, .int (nI X)), (4, .int (nI 1)), (5, .int (nI (sN (dt 19) w 6))), (6, .int (nI (sN (dt 17) w j + nct (dt 17) (nI j) w))), (7, .int (nI j)), (8, .int (dt 9 j)), (9, .int (dt 6 j)), (10, .int (nI (X % 10)))]) [0, 1, 2, 3, 4, 5, 6, 7, 8, 9, 10] rfl ?_
    exact wh_313 D hX hH hn_0 hn_1 hS hfs hwh hj hc0 hn0 kk (by omega) (by omega)

set_option maxHeartbeats 8000000 in
set_option maxRecDepth 100000 in
theorem wh_232 {E : kE} {H : kH} {dt : kM} {nF nC nE w X q pn ps : Nat} {fn fs : Nat → Int32} {X9 : kX} (D : Dk E q dt nF nC nE w H) (hX : X < 2 ^ 31) (hH : H pn = some (.inl (kI E, 3, .inl fn))) (hn_0 : fn 0 = nI nF) (hn_1 : fn 1 = nI nC) (hS : H ps = some (.inl (kI E, 6, .inl fs))) (hfs : ∀ k, k < nC → fs k = dt 11 k) (hwh : WH dt nF nC nE w) {j c0 n0 : Nat} (hj : j < nF) (hc0 : c0 + 40 ≤ 15000) (hn0 : n0 + 240 ≤ 90000) (kk : ∀ k n, k ≤ c0 + 40 → n ≤ n0 + 240 → V E X9 rmL_isWhole cL_isWhole 11 wsL_isWhole RL k n H [(0, .ref q), (1, .ref pn), (2, .ref ps), (3, .int (nI X)), (4, .int (nI 1)), (5, .int (nI (sN (dt 19) w 6))), (6, .int (nI (sN (dt 17) w (j + 1)))), (7, .int (nI (j + 1)))] 105 []) {k n : Nat} (hk : k ≤ c0 + 20) (hn : n ≤ n0 + 120) : V E X9 rmL_isWhole cL_isWhole 11 wsL_isWhole RL k n H [(0, .ref q), (1, .ref pn), (2, .ref ps), (3, .int (nI X)), (4, .int (nI 1)), (5, .int (nI (sN (dt 19) w 6))), (6, .int (nI (sN (dt 17) w j + nct (dt 17) (nI j) w))), (7, .int (nI j)), (8, .int (dt 9 j)), (9, .int (dt 6 j)), (10, .int (nI (X % 10)))] 232 [] := by
  obtain ⟨hF, hF20, hC, hC6, hE, hE80, hW, hW3, hpl, hof, hsp⟩ := id D.wf
  have hd := D.wf
  obtain ⟨fs1, hf1⟩ := D.at
  obtain ⟨w1, w2, w3, w4, w5, w6, w7⟩ := id hwh
  obtain ⟨g1, g2, g3, g4, g5⟩ := w3 j hj
  obtain ⟨p1, p2, p3⟩ := g4 (X % 10) (Nat.mod_lt _ (by omega))
  have r7 := vp_rng (hpl j hj).1
  have r8 := vp_rng (hpl j hj).2.1
  refine r_iload dL_isWhole_232 10 rfl ?_
  refine r_aload_n dL_isWhole_234 0 rfl ?_
  refine r_iload dL_isWhole_235 7 rfl ?_
  refine r_iconst (v := nI 1) dL_isWhole_237 (by decide) ?_
  refine r_callXSH (nn := 3) (As := [.ref q, .int (nI j), .int (nI 1)]) (st := [.int (nI (X % 10))]) dL_isWhole_238 (tR_fightOf D (nI j) (nI 1)) gL_isWhole_L_fightOf rfl (by decide +kernel) ⟨Nat.le_of_ble_eq_true rfl, Nat.le_of_ble_eq_true rfl⟩ ⟨rfl, rfl⟩ rfl (Nat.le_of_ble_eq_true rfl) ⟨by show _ ≤ 16000; omega, by show _ ≤ 96000; omega⟩ rfl (fun Ec hh hp => hp.elim) (fun r hh hp => ?_)
  obtain ⟨hr, hhe⟩ := hp
  rw [hhe, hr, fo1 hd hj]
  refine r_icmp_eq (tgt := 267) dL_isWhole_241 (by decide) (fun c7 => ?_) (fun c7 => ?_)
  · skip
    refine r_lo (lo' := [(0, .ref q), (1, .ref pn), (2, .ref ps), (3, .int (nI X)), (4, .int (nI 1)), (5, .int (nI (sN (dt 19) w 6))), (6, .int (nI (sN (dt 17) w j + nct (dt 17) (nI j) w))), (7, .int (nI j)), (8, .int (dt 9 j)), (9, .int (dt 6 j)), (10, .int (nI (X % 10)))]) [0, 1, 2, 3, 4, 5, 6, 7, 8, 9, 10] rfl ?_
    exact wh_267 D hX hH hn_0 hn_1 hS hfs hwh hj hc0 hn0 kk (by omega) (by omega)
  · skip
    refine r_iload dL_isWhole_244 10 rfl ?_
    refine r_aload_n dL_isWhole_246 0 rfl ?_
    refine r_iload dL_isWhole_247 7 rfl ?_
    refine r_iconst (v := nI 2) dL_isWhole_249 (by decide) ?_
    refine r_callXSH (nn := 3) (As := [.ref q, .int (nI j), .int (nI 2)]) (st := [.int (nI (X % 10))]) dL_isWhole_250 (tR_fightOf D (nI j) (nI 2)) gL_isWhole_L_fightOf rfl (by decide +kernel) ⟨Nat.le_of_ble_eq_true rfl, Nat.le_of_ble_eq_true rfl⟩ ⟨rfl, rfl⟩ rfl (Nat.le_of_ble_eq_true rfl) ⟨by show _ ≤ 16000; omega, by show _ ≤ 96000; omega⟩ rfl (fun Ec hh hp => hp.elim) (fun r hh hp => ?_)
    obtain ⟨hr, hhe⟩ := hp
    rw [hhe, hr, fo2 hd hj]
    refine r_icmp_eq (tgt := 267) dL_isWhole_253 (by decide) (fun c8 => ?_) (fun c8 => ?_)
    · skip
      refine r_lo (lo' := [(0, .ref q), (1, .ref pn), (2, .ref ps), (3, .int (nI X)), (4, .int (nI 1)), (5, .int (nI (sN (dt 19) w 6))), (6, .int (nI (sN (dt 17) w j + nct (dt 17) (nI j) w))), (7, .int (nI j)), (8, .int (dt 9 j)), (9, .int (dt 6 j)), (10, .int (nI (X % 10)))]) [0, 1, 2, 3, 4, 5, 6, 7, 8, 9, 10] rfl ?_
      exact wh_267 D hX hH hn_0 hn_1 hS hfs hwh hj hc0 hn0 kk (by omega) (by omega)
    · skip
      refine r_aload_n dL_isWhole_256 0 rfl ?_
      refine r_iload dL_isWhole_257 7 rfl ?_
      refine r_iload dL_isWhole_259 10 rfl ?_
      refine r_callXSH (nn := 3) (As := [.ref q, .int (nI j), .int (nI (X % 10))]) (st := []) dL_isWhole_261 (tR_points D (nI j) (nI (X % 10))) gL_isWhole_L_points rfl (by decide +kernel) ⟨Nat.le_of_ble_eq_true rfl, Nat.le_of_ble_eq_true rfl⟩ ⟨rfl, rfl⟩ rfl (Nat.le_of_ble_eq_true rfl) ⟨by show _ ≤ 16000; omega, by show _ ≤ 96000; omega⟩ rfl (fun Ec hh hp => hp.elim) (fun r hh hp => ?_)
      obtain ⟨hr, hhe⟩ := hp
      rw [hhe, hr, po0 hd hj (Nat.mod_lt _ (by omega))]
      refine r_if_ne (tgt := 317) dL_isWhole_264 (by decide) (fun c9 => absurd (p3 c7 c8) c9) (fun _ => ?_)
      refine r_lo (lo' := [(0, .ref q), (1, .ref pn), (2, .ref ps), (3, .int (nI X)), (4, .int (nI 1)), (5, .int (nI (sN (dt 19) w 6))), (6, .int (nI (sN (dt 17) w j + nct (dt 17) (nI j) w))), (7, .int (nI j)), (8, .int (dt 9 j)), (9, .int (dt 6 j)), (10, .int (nI (X % 10)))]) [0, 1, 2, 3, 4, 5, 6, 7, 8, 9, 10] rfl ?_
      exact wh_267 D hX hH hn_0 hn_1 hS hfs hwh hj hc0 hn0 kk (by omega) (by omega)

set_option maxHeartbeats 8000000 in
set_option maxRecDepth 100000 in
theorem wh_196 {E : kE} {H : kH} {dt : kM} {nF nC nE w X q pn ps : Nat} {fn fs : Nat → Int32} {X9 : kX} (D : Dk E q dt nF nC nE w H) (hX : X < 2 ^ 31) (hH : H pn = some (.inl (kI E, 3, .inl fn))) (hn_0 : fn 0 = nI nF) (hn_1 : fn 1 = nI nC) (hS : H ps = some (.inl (kI E, 6, .inl fs))) (hfs : ∀ k, k < nC → fs k = dt 11 k) (hwh : WH dt nF nC nE w) {j c0 n0 : Nat} (hj : j < nF) (hc0 : c0 + 40 ≤ 15000) (hn0 : n0 + 240 ≤ 90000) (kk : ∀ k n, k ≤ c0 + 40 → n ≤ n0 + 240 → V E X9 rmL_isWhole cL_isWhole 11 wsL_isWhole RL k n H [(0, .ref q), (1, .ref pn), (2, .ref ps), (3, .int (nI X)), (4, .int (nI 1)), (5, .int (nI (sN (dt 19) w 6))), (6, .int (nI (sN (dt 17) w (j + 1)))), (7, .int (nI (j + 1)))] 105 []) {k n : Nat} (hk : k ≤ c0 + 14) (hn : n ≤ n0 + 84) : V E X9 rmL_isWhole cL_isWhole 11 wsL_isWhole RL k n H [(0, .ref q), (1, .ref pn), (2, .ref ps), (3, .int (nI X)), (4, .int (nI 1)), (5, .int (nI (sN (dt 19) w 6))), (6, .int (nI (sN (dt 17) w j + nct (dt 17) (nI j) w))), (7, .int (nI j)), (8, .int (dt 9 j)), (9, .int (dt 6 j)), (10, .int (nI (X % 10)))] 196 [] := by
  obtain ⟨hF, hF20, hC, hC6, hE, hE80, hW, hW3, hpl, hof, hsp⟩ := id D.wf
  have hd := D.wf
  obtain ⟨fs1, hf1⟩ := D.at
  obtain ⟨w1, w2, w3, w4, w5, w6, w7⟩ := id hwh
  obtain ⟨g1, g2, g3, g4, g5⟩ := w3 j hj
  obtain ⟨p1, p2, p3⟩ := g4 (X % 10) (Nat.mod_lt _ (by omega))
  have r7 := vp_rng (hpl j hj).1
  have r8 := vp_rng (hpl j hj).2.1
  refine r_aload_n dL_isWhole_196 0 rfl ?_
  refine r_iload dL_isWhole_197 7 rfl ?_
  refine r_iload dL_isWhole_199 10 rfl ?_
  refine r_callXSH (nn := 3) (As := [.ref q, .int (nI j), .int (nI (X % 10))]) (st := []) dL_isWhole_201 (tR_overlay D (nI j) (nI (X % 10))) gL_isWhole_L_overlay rfl (by decide +kernel) ⟨Nat.le_of_ble_eq_true rfl, Nat.le_of_ble_eq_true rfl⟩ ⟨rfl, rfl⟩ rfl (Nat.le_of_ble_eq_true rfl) ⟨by show _ ≤ 16000; omega, by show _ ≤ 96000; omega⟩ rfl (fun Ec hh hp => hp.elim) (fun r hh hp => ?_)
  obtain ⟨hr, hhe⟩ := hp
  rw [hhe, hr, ov0 hd hj (Nat.mod_lt _ (by omega))]
  refine r_aload_n dL_isWhole_204 0 rfl ?_
  refine r_iload dL_isWhole_205 7 rfl ?_
  refine r_iload dL_isWhole_207 10 rfl ?_
  refine r_callXSH (nn := 3) (As := [.ref q, .int (nI j), .int (nI (X % 10))]) (st := [.int (dPts dt (dt 3 0) j (nI (X % 10)) nE)]) dL_isWhole_209 (tR_points D (nI j) (nI (X % 10))) gL_isWhole_L_points rfl (by decide +kernel) ⟨Nat.le_of_ble_eq_true rfl, Nat.le_of_ble_eq_true rfl⟩ ⟨rfl, rfl⟩ rfl (Nat.le_of_ble_eq_true rfl) ⟨by show _ ≤ 16000; omega, by show _ ≤ 96000; omega⟩ rfl (fun Ec hh hp => hp.elim) (fun r hh hp => ?_)
  obtain ⟨hr, hhe⟩ := hp
  rw [hhe, hr, po0 hd hj (Nat.mod_lt _ (by omega))]
  refine r_icmp_gt (tgt := 317) dL_isWhole_212 (by decide) (fun c9 => absurd c9 p1) (fun _ => ?_)
  refine r_iload dL_isWhole_215 9 rfl ?_
  refine r_iconst (v := nI 2) dL_isWhole_217 (by decide) ?_
  refine r_icmp_ne (tgt := 232) dL_isWhole_218 (by decide) (fun c7 => ?_) (fun c7 => ?_)
  · skip
    refine r_lo (lo' := [(0, .ref q), (1, .ref pn), (2, .ref ps), (3, .int (nI X)), (4, .int (nI 1)), (5, .int (nI (sN (dt 19) w 6))), (6, .int (nI (sN (dt 17) w j + nct (dt 17) (nI j) w))), (7, .int (nI j)), (8, .int (dt 9 j)), (9, .int (dt 6 j)), (10, .int (nI (X % 10)))]) [0, 1, 2, 3, 4, 5, 6, 7, 8, 9, 10] rfl ?_
    exact wh_232 D hX hH hn_0 hn_1 hS hfs hwh hj hc0 hn0 kk (by omega) (by omega)
  · skip
    refine r_aload_n dL_isWhole_221 0 rfl ?_
    refine r_iload dL_isWhole_222 7 rfl ?_
    refine r_iload dL_isWhole_224 10 rfl ?_
    refine r_callXSH (nn := 3) (As := [.ref q, .int (nI j), .int (nI (X % 10))]) (st := []) dL_isWhole_226 (tR_points D (nI j) (nI (X % 10))) gL_isWhole_L_points rfl (by decide +kernel) ⟨Nat.le_of_ble_eq_true rfl, Nat.le_of_ble_eq_true rfl⟩ ⟨rfl, rfl⟩ rfl (Nat.le_of_ble_eq_true rfl) ⟨by show _ ≤ 16000; omega, by show _ ≤ 96000; omega⟩ rfl (fun Ec hh hp => hp.elim) (fun r hh hp => ?_)
    obtain ⟨hr, hhe⟩ := hp
    rw [hhe, hr, po0 hd hj (Nat.mod_lt _ (by omega))]
    refine r_if_ne (tgt := 317) dL_isWhole_229 (by decide) (fun c9 => absurd (p2 c7) c9) (fun _ => ?_)
    refine r_lo (lo' := [(0, .ref q), (1, .ref pn), (2, .ref ps), (3, .int (nI X)), (4, .int (nI 1)), (5, .int (nI (sN (dt 19) w 6))), (6, .int (nI (sN (dt 17) w j + nct (dt 17) (nI j) w))), (7, .int (nI j)), (8, .int (dt 9 j)), (9, .int (dt 6 j)), (10, .int (nI (X % 10)))]) [0, 1, 2, 3, 4, 5, 6, 7, 8, 9, 10] rfl ?_
    exact wh_232 D hX hH hn_0 hn_1 hS hfs hwh hj hc0 hn0 kk (by omega) (by omega)

set_option maxHeartbeats 8000000 in
set_option maxRecDepth 100000 in
theorem wh_166 {E : kE} {H : kH} {dt : kM} {nF nC nE w X q pn ps : Nat} {fn fs : Nat → Int32} {X9 : kX} (D : Dk E q dt nF nC nE w H) (hX : X < 2 ^ 31) (hH : H pn = some (.inl (kI E, 3, .inl fn))) (hn_0 : fn 0 = nI nF) (hn_1 : fn 1 = nI nC) (hS : H ps = some (.inl (kI E, 6, .inl fs))) (hfs : ∀ k, k < nC → fs k = dt 11 k) (hwh : WH dt nF nC nE w) {j c0 n0 : Nat} (hj : j < nF) (hc0 : c0 + 40 ≤ 15000) (hn0 : n0 + 240 ≤ 90000) (kk : ∀ k n, k ≤ c0 + 40 → n ≤ n0 + 240 → V E X9 rmL_isWhole cL_isWhole 11 wsL_isWhole RL k n H [(0, .ref q), (1, .ref pn), (2, .ref ps), (3, .int (nI X)), (4, .int (nI 1)), (5, .int (nI (sN (dt 19) w 6))), (6, .int (nI (sN (dt 17) w (j + 1)))), (7, .int (nI (j + 1)))] 105 []) {k n : Nat} (hk : k ≤ c0 + 10) (hn : n ≤ n0 + 60) : V E X9 rmL_isWhole cL_isWhole 11 wsL_isWhole RL k n H [(0, .ref q), (1, .ref pn), (2, .ref ps), (3, .int (nI X)), (4, .int (nI 1)), (5, .int (nI (sN (dt 19) w 6))), (6, .int (nI (sN (dt 17) w j + nct (dt 17) (nI j) w))), (7, .int (nI j)), (8, .int (dt 9 j)), (9, .int (dt 6 j)), (10, .int (nI (X % 10)))] 166 [] := by
  obtain ⟨hF, hF20, hC, hC6, hE, hE80, hW, hW3, hpl, hof, hsp⟩ := id D.wf
  have hd := D.wf
  obtain ⟨fs1, hf1⟩ := D.at
  obtain ⟨w1, w2, w3, w4, w5, w6, w7⟩ := id hwh
  obtain ⟨g1, g2, g3, g4, g5⟩ := w3 j hj
  obtain ⟨p1, p2, p3⟩ := g4 (X % 10) (Nat.mod_lt _ (by omega))
  have r7 := vp_rng (hpl j hj).1
  have r8 := vp_rng (hpl j hj).2.1
  refine r_iload dL_isWhole_166 8 rfl ?_
  refine r_iconst (v := (-1)) dL_isWhole_168 (by decide) ?_
  refine r_icmp_eq (tgt := 196) dL_isWhole_169 (by decide) (fun c7 => ?_) (fun c7 => ?_)
  · skip
    refine r_lo (lo' := [(0, .ref q), (1, .ref pn), (2, .ref ps), (3, .int (nI X)), (4, .int (nI 1)), (5, .int (nI (sN (dt 19) w 6))), (6, .int (nI (sN (dt 17) w j + nct (dt 17) (nI j) w))), (7, .int (nI j)), (8, .int (dt 9 j)), (9, .int (dt 6 j)), (10, .int (nI (X % 10)))]) [0, 1, 2, 3, 4, 5, 6, 7, 8, 9, 10] rfl ?_
    exact wh_196 D hX hH hn_0 hn_1 hS hfs hwh hj hc0 hn0 kk (by omega) (by omega)
  · skip
    refine r_iload dL_isWhole_172 8 rfl ?_
    refine r_aload_n dL_isWhole_174 0 rfl ?_
    refine r_iload dL_isWhole_175 7 rfl ?_
    refine r_iconst (v := nI 1) dL_isWhole_177 (by decide) ?_
    refine r_callXSH (nn := 3) (As := [.ref q, .int (nI j), .int (nI 1)]) (st := [.int (dt 9 j)]) dL_isWhole_178 (tR_fightOf D (nI j) (nI 1)) gL_isWhole_L_fightOf rfl (by decide +kernel) ⟨Nat.le_of_ble_eq_true rfl, Nat.le_of_ble_eq_true rfl⟩ ⟨rfl, rfl⟩ rfl (Nat.le_of_ble_eq_true rfl) ⟨by show _ ≤ 16000; omega, by show _ ≤ 96000; omega⟩ rfl (fun Ec hh hp => hp.elim) (fun r hh hp => ?_)
    obtain ⟨hr, hhe⟩ := hp
    rw [hhe, hr, fo1 hd hj]
    refine r_icmp_eq (tgt := 196) dL_isWhole_181 (by decide) (fun c8 => ?_) (fun c8 => ?_)
    · skip
      refine r_lo (lo' := [(0, .ref q), (1, .ref pn), (2, .ref ps), (3, .int (nI X)), (4, .int (nI 1)), (5, .int (nI (sN (dt 19) w 6))), (6, .int (nI (sN (dt 17) w j + nct (dt 17) (nI j) w))), (7, .int (nI j)), (8, .int (dt 9 j)), (9, .int (dt 6 j)), (10, .int (nI (X % 10)))]) [0, 1, 2, 3, 4, 5, 6, 7, 8, 9, 10] rfl ?_
      exact wh_196 D hX hH hn_0 hn_1 hS hfs hwh hj hc0 hn0 kk (by omega) (by omega)
    · skip
      refine r_iload dL_isWhole_184 8 rfl ?_
      refine r_aload_n dL_isWhole_186 0 rfl ?_
      refine r_iload dL_isWhole_187 7 rfl ?_
      refine r_iconst (v := nI 2) dL_isWhole_189 (by decide) ?_
      refine r_callXSH (nn := 3) (As := [.ref q, .int (nI j), .int (nI 2)]) (st := [.int (dt 9 j)]) dL_isWhole_190 (tR_fightOf D (nI j) (nI 2)) gL_isWhole_L_fightOf rfl (by decide +kernel) ⟨Nat.le_of_ble_eq_true rfl, Nat.le_of_ble_eq_true rfl⟩ ⟨rfl, rfl⟩ rfl (Nat.le_of_ble_eq_true rfl) ⟨by show _ ≤ 16000; omega, by show _ ≤ 96000; omega⟩ rfl (fun Ec hh hp => hp.elim) (fun r hh hp => ?_)
      obtain ⟨hr, hhe⟩ := hp
      rw [hhe, hr, fo2 hd hj]
      refine r_icmp_ne (tgt := 317) dL_isWhole_193 (by decide) (fun c9 => absurd ((g2.resolve_left c7).resolve_left c8) c9) (fun _ => ?_)
      refine r_lo (lo' := [(0, .ref q), (1, .ref pn), (2, .ref ps), (3, .int (nI X)), (4, .int (nI 1)), (5, .int (nI (sN (dt 19) w 6))), (6, .int (nI (sN (dt 17) w j + nct (dt 17) (nI j) w))), (7, .int (nI j)), (8, .int (dt 9 j)), (9, .int (dt 6 j)), (10, .int (nI (X % 10)))]) [0, 1, 2, 3, 4, 5, 6, 7, 8, 9, 10] rfl ?_
      exact wh_196 D hX hH hn_0 hn_1 hS hfs hwh hj hc0 hn0 kk (by omega) (by omega)

set_option maxHeartbeats 8000000 in
set_option maxRecDepth 100000 in
theorem wh_105 {E : kE} {H : kH} {dt : kM} {nF nC nE w X q pn ps : Nat} {fn fs : Nat → Int32} {X9 : kX} (D : Dk E q dt nF nC nE w H) (hX : X < 2 ^ 31) (hH : H pn = some (.inl (kI E, 3, .inl fn))) (hn_0 : fn 0 = nI nF) (hn_1 : fn 1 = nI nC) (hS : H ps = some (.inl (kI E, 6, .inl fs))) (hfs : ∀ k, k < nC → fs k = dt 11 k) (hwh : WH dt nF nC nE w) (kret : ∀ (k n : Nat) (h' : kH) (lo : List (Nat × Value)) (pc : Nat) (r : Int32), k ≤ 16000 → n ≤ 96000 → decode cL_isWhole pc = .ok (.ireturn, 1) → narrow .boolean (.int r) = .int r → (r = 1 ∧ h' = H) → V E X9 rmL_isWhole cL_isWhole 11 wsL_isWhole RL k n h' lo pc [.int r]) : ∀ (d j k n : Nat), nF < j + d → j ≤ nF → k ≤ 100 + 40 * j → n ≤ 600 + 240 * j → V E X9 rmL_isWhole cL_isWhole 11 wsL_isWhole RL k n H [(0, .ref q), (1, .ref pn), (2, .ref ps), (3, .int (nI X)), (4, .int (nI 1)), (5, .int (nI (sN (dt 19) w 6))), (6, .int (nI (sN (dt 17) w j))), (7, .int (nI j))] 105 [] := by
  obtain ⟨hF, hF20, hC, hC6, hE, hE80, hW, hW3, hpl, hof, hsp⟩ := id D.wf
  have hd := D.wf
  obtain ⟨fs1, hf1⟩ := D.at
  obtain ⟨w1, w2, w3, w4, w5, w6, w7⟩ := id hwh
  intro d
  induction d with
  | zero =>
    intro j k n h1 h2
    exact absurd h1 (by omega)
  | succ d ih =>
    intro j k n h1 h2 hk hn
    refine r_iload dL_isWhole_105 7 rfl ?_
    refine r_aload_n dL_isWhole_107 1 rfl ?_
    refine r_iconst (v := nI 0) dL_isWhole_108 (by decide) ?_
    refine r_iald dL_isWhole_109 hH (vp_in_nI (by decide) (by decide)) ?_
    rw [show fn (nI 0).toNatClampNeg = nI nF from hn_0]
    refine r_icmp_ge (tgt := 326) dL_isWhole_110 (by decide) (fun c6 => ?_) (fun c6 => ?_)
    · skip
      have hge : nF ≤ j := Nat.le_of_not_lt (fun z => c6 (nI_lt z (by omega)))
      refine r_iconst (v := nI 0) dL_isWhole_326 (by decide) ?_
      refine r_istore (lo' := [(7, .int (nI 0)), (0, .ref q), (1, .ref pn), (2, .ref ps), (3, .int (nI X)), (4, .int (nI 1)), (5, .int (nI (sN (dt 19) w 6))), (6, .int (nI (sN (dt 17) w j)))]) dL_isWhole_327 (by decide) rfl ?_
      have hjw : j = nF := by omega
      rw [hjw]
      refine r_lo (lo' := [(0, .ref q), (1, .ref pn), (2, .ref ps), (3, .int (nI X)), (4, .int (nI 1)), (5, .int (nI (sN (dt 19) w 6))), (6, .int (nI (sN (dt 17) w nF))), (7, .int (nI 0))]) [1, 2, 3, 4, 5, 6, 7, 0] rfl ?_
      exact wh_329 D hX hH hn_0 hn_1 hS hfs hwh kret (nC + 1) 0 _ _ (by omega) (by omega) (by omega) (by omega)
    · skip
      have hj : j < nF := (nI_ltI (by omega) (by omega)).mp c6
      obtain ⟨g1, g2, g3, g4, g5⟩ := w3 j hj
      obtain ⟨p1, p2, p3⟩ := g4 (X % 10) (Nat.mod_lt _ (by omega))
      have r7 := vp_rng (hpl j hj).1
      have r8 := vp_rng (hpl j hj).2.1
      refine r_iload dL_isWhole_113 4 rfl ?_
      refine r_if_eq (tgt := 326) dL_isWhole_115 (by decide) (fun c9 => absurd c9 (by decide)) (fun _ => ?_)
      refine r_aload_n dL_isWhole_118 0 rfl ?_
      refine r_iload dL_isWhole_119 7 rfl ?_
      refine r_iconst (v := nI 3) dL_isWhole_121 (by decide) ?_
      refine r_callXSH (nn := 3) (As := [.ref q, .int (nI j), .int (nI 3)]) (st := []) dL_isWhole_122 (tR_fightOf D (nI j) (nI 3)) gL_isWhole_L_fightOf rfl (by decide +kernel) ⟨Nat.le_of_ble_eq_true rfl, Nat.le_of_ble_eq_true rfl⟩ ⟨rfl, rfl⟩ rfl (Nat.le_of_ble_eq_true rfl) ⟨by show _ ≤ 16000; omega, by show _ ≤ 96000; omega⟩ rfl (fun Ec hh hp => hp.elim) (fun r hh hp => ?_)
      obtain ⟨hr, hhe⟩ := hp
      rw [hhe, hr, fo3 hd hj]
      refine r_istore (lo' := [(8, .int (dt 9 j)), (0, .ref q), (1, .ref pn), (2, .ref ps), (3, .int (nI X)), (4, .int (nI 1)), (5, .int (nI (sN (dt 19) w 6))), (6, .int (nI (sN (dt 17) w j))), (7, .int (nI j))]) dL_isWhole_125 (by decide) rfl ?_
      refine r_aload_n dL_isWhole_127 1 rfl ?_
      refine r_iload dL_isWhole_128 8 rfl ?_
      refine r_iconst (v := nI 0) dL_isWhole_130 (by decide) ?_
      refine r_callXSH (nn := 3) (As := [.ref q, .int (nI j), .int (nI 0)]) (st := []) dL_isWhole_131 (tR_fightOf D (nI j) (nI 0)) gL_isWhole_L_fightOf rfl (by decide +kernel) ⟨Nat.le_of_ble_eq_true rfl, Nat.le_of_ble_eq_true rfl⟩ ⟨rfl, rfl⟩ rfl (Nat.le_of_ble_eq_true rfl) ⟨by show _ ≤ 16000; omega, by show _ ≤ 96000; omega⟩ rfl (fun Ec hh hp => hp.elim) (fun r hh hp => ?_)
      obtain ⟨hr, hhe⟩ := hp
      rw [hhe, hr, fo0 hd hj]
      refine r_istore (lo' := [(9, .int (dt 6 j)), (8, .int (dt 9 j)), (0, .ref q), (1, .ref pn), (2, .ref ps), (3, .int (nI X)), (4, .int (nI 1)), (5, .int (nI (sN (dt 19) w 6))), (6, .int (nI (sN (dt 17) w j))), (7, .int (nI j))]) dL_isWhole_134 (by decide) rfl ?_
      refine r_iload_n dL_isWhole_136 5 rfl ?_
      refine r_bipush (v := nI 10) dL_isWhole_137 (by decide) ?_
      refine r_irem dL_isWhole_139 (by decide) ?_
      rw [nI_mod (a := X) (b := 10) (by omega) (by omega) (by omega)]
      refine r_istore (lo' := [(10, .int (nI (X % 10))), (9, .int (dt 6 j)), (8, .int (dt 9 j)), (0, .ref q), (1, .ref pn), (2, .ref ps), (3, .int (nI X)), (4, .int (nI 1)), (5, .int (nI (sN (dt 19) w 6))), (6, .int (nI (sN (dt 17) w j))), (7, .int (nI j))]) dL_isWhole_140 (by decide) rfl ?_
      refine r_iload dL_isWhole_142 9 rfl ?_
      refine r_aload_n dL_isWhole_144 3 rfl ?_
      refine r_iload dL_isWhole_145 10 rfl ?_
      refine r_iconst (v := nI 4) dL_isWhole_147 (by decide) ?_
      refine r_callXSH (nn := 3) (As := [.ref q, .int (nI j), .int (nI 4)]) (st := [.int (nI (sN (dt 17) w j))]) dL_isWhole_148 (tR_fightOf D (nI j) (nI 4)) gL_isWhole_L_fightOf rfl (by decide +kernel) ⟨Nat.le_of_ble_eq_true rfl, Nat.le_of_ble_eq_true rfl⟩ ⟨rfl, rfl⟩ rfl (Nat.le_of_ble_eq_true rfl) ⟨by show _ ≤ 16000; omega, by show _ ≤ 96000; omega⟩ rfl (fun Ec hh hp => hp.elim) (fun r hh hp => ?_)
      obtain ⟨hr, hhe⟩ := hp
      rw [hhe, hr, fo4 hd hj, g3]
      refine r_iadd dL_isWhole_151 ?_
      rw [nI_add (sN (dt 17) w j) (nct (dt 17) (nI j) w)]
      refine r_istore (lo' := [(6, .int (nI (sN (dt 17) w j + (nct (dt 17) (nI j) w)))), (10, .int (nI (X % 10))), (9, .int (dt 6 j)), (8, .int (dt 9 j)), (0, .ref q), (1, .ref pn), (2, .ref ps), (3, .int (nI X)), (4, .int (nI 1)), (5, .int (nI (sN (dt 19) w 6))), (7, .int (nI j))]) dL_isWhole_152 (by decide) rfl ?_
      refine r_iload dL_isWhole_154 2 rfl ?_
      refine r_iconst (v := nI 1) dL_isWhole_156 (by decide) ?_
      refine r_icmp_eq (tgt := 166) dL_isWhole_157 (by decide) (fun c7 => ?_) (fun c7 => ?_)
      · skip
        refine r_lo (lo' := [(0, .ref q), (1, .ref pn), (2, .ref ps), (3, .int (nI X)), (4, .int (nI 1)), (5, .int (nI (sN (dt 19) w 6))), (6, .int (nI (sN (dt 17) w j + nct (dt 17) (nI j) w))), (7, .int (nI j)), (8, .int (dt 9 j)), (9, .int (dt 6 j)), (10, .int (nI (X % 10)))]) [4, 5, 6, 7, 8, 9, 0, 10, 3, 2, 1] rfl ?_
        exact wh_166 D hX hH hn_0 hn_1 hS hfs hwh (c0 := 100 + 40 * j) (n0 := 600 + 240 * j) hj (by omega) (by omega) (fun k n hk hn => ih (j + 1) k n (by omega) (by omega) (by omega) (by omega)) (by omega) (by omega)
      · skip
        refine r_iload dL_isWhole_160 3 rfl ?_
        refine r_iconst (v := (-1)) dL_isWhole_162 (by decide) ?_
        refine r_icmp_ne (tgt := 317) dL_isWhole_163 (by decide) (fun c9 => absurd (g1.resolve_left c7) c9) (fun _ => ?_)
        refine r_lo (lo' := [(0, .ref q), (1, .ref pn), (2, .ref ps), (3, .int (nI X)), (4, .int (nI 1)), (5, .int (nI (sN (dt 19) w 6))), (6, .int (nI (sN (dt 17) w j + nct (dt 17) (nI j) w))), (7, .int (nI j)), (8, .int (dt 9 j)), (9, .int (dt 6 j)), (10, .int (nI (X % 10)))]) [4, 5, 6, 7, 8, 9, 0, 10, 3, 2, 1] rfl ?_
        exact wh_166 D hX hH hn_0 hn_1 hS hfs hwh (c0 := 100 + 40 * j) (n0 := 600 + 240 * j) hj (by omega) (by omega) (fun k n hk hn => ih (j + 1) k n (by omega) (by omega) (by omega) (by omega)) (by omega) (by omega)

set_option maxHeartbeats 8000000 in
set_option maxRecDepth 100000 in
theorem wh_0 {E : kE} {H : kH} {dt : kM} {nF nC nE w X q pn ps : Nat} {fn fs : Nat → Int32} {X9 : kX} (D : Dk E q dt nF nC nE w H) (hX : X < 2 ^ 31) (hH : H pn = some (.inl (kI E, 3, .inl fn))) (hn_0 : fn 0 = nI nF) (hn_1 : fn 1 = nI nC) (hS : H ps = some (.inl (kI E, 6, .inl fs))) (hfs : ∀ k, k < nC → fs k = dt 11 k) (hwh : WH dt nF nC nE w) (kret : ∀ (k n : Nat) (h' : kH) (lo : List (Nat × Value)) (pc : Nat) (r : Int32), k ≤ 16000 → n ≤ 96000 → decode cL_isWhole pc = .ok (.ireturn, 1) → narrow .boolean (.int r) = .int r → (r = 1 ∧ h' = H) → V E X9 rmL_isWhole cL_isWhole 11 wsL_isWhole RL k n h' lo pc [.int r]) : V E X9 rmL_isWhole cL_isWhole 11 wsL_isWhole RL 0 0 H [(0, .ref q), (1, .ref pn), (2, .ref ps), (3, .int (nI X))] 0 [] := by
  obtain ⟨hF, hF20, hC, hC6, hE, hE80, hW, hW3, hpl, hof, hsp⟩ := id D.wf
  have hd := D.wf
  obtain ⟨fs1, hf1⟩ := D.at
  obtain ⟨w1, w2, w3, w4, w5, w6, w7⟩ := id hwh
  refine r_aload_n dL_isWhole_0 0 rfl ?_
  refine r_callVi (nn := 0) (As := []) (st := []) dL_isWhole_1 (tR_seen D) gL_isWhole_X3_seen rfl (by decide +kernel) ⟨Nat.le_of_ble_eq_true rfl, Nat.le_of_ble_eq_true rfl⟩ ⟨rfl, rfl⟩ hf1 rfl rfl (Nat.le_of_ble_eq_true rfl) ⟨by show _ ≤ 16000; omega, by show _ ≤ 96000; omega⟩ rfl (fun r hh hp => ?_)
  obtain ⟨hr, hhe⟩ := hp
  rw [hhe, hr]
  refine r_aload_n dL_isWhole_4 0 rfl ?_
  refine r_callVi (nn := 0) (As := []) (st := [.int (dt 3 0)]) dL_isWhole_5 (tR_frame D) gL_isWhole_X3_frame rfl (by decide +kernel) ⟨Nat.le_of_ble_eq_true rfl, Nat.le_of_ble_eq_true rfl⟩ ⟨rfl, rfl⟩ hf1 rfl rfl (Nat.le_of_ble_eq_true rfl) ⟨by show _ ≤ 16000; omega, by show _ ≤ 96000; omega⟩ rfl (fun r hh hp => ?_)
  obtain ⟨hr, hhe⟩ := hp
  rw [hhe, hr]
  refine r_icmp_lt (tgt := 26) dL_isWhole_8 (by decide) (fun _ => ?_) (fun c9 => absurd w1 c9)
  refine r_iconst (v := nI 1) dL_isWhole_26 (by decide) ?_
  refine r_goto (tgt := 31) dL_isWhole_27 (by decide) ?_
  refine r_istore (lo' := [(4, .int (nI 1)), (0, .ref q), (1, .ref pn), (2, .ref ps), (3, .int (nI X))]) dL_isWhole_31 (by decide) rfl ?_
  refine r_iconst (v := nI 0) dL_isWhole_33 (by decide) ?_
  refine r_istore (lo' := [(5, .int (nI 0)), (4, .int (nI 1)), (0, .ref q), (1, .ref pn), (2, .ref ps), (3, .int (nI X))]) dL_isWhole_34 (by decide) rfl ?_
  refine r_iconst (v := nI 0) dL_isWhole_36 (by decide) ?_
  refine r_istore (lo' := [(6, .int (nI 0)), (5, .int (nI 0)), (4, .int (nI 1)), (0, .ref q), (1, .ref pn), (2, .ref ps), (3, .int (nI X))]) dL_isWhole_37 (by decide) rfl ?_
  refine r_iload dL_isWhole_39 0 rfl ?_
  refine r_bipush (v := nI 6) dL_isWhole_41 (by decide) ?_
  refine r_icmp_ge (tgt := 99) dL_isWhole_43 (by decide) (fun c9 => absurd c9 (by decide)) (fun _ => ?_)
  refine r_iload dL_isWhole_46 2 rfl ?_
  refine r_if_eq (tgt := 99) dL_isWhole_48 (by decide) (fun c9 => absurd c9 (by decide)) (fun _ => ?_)
  refine r_iload dL_isWhole_51 1 rfl ?_
  refine r_aload_n dL_isWhole_53 3 rfl ?_
  refine r_iload dL_isWhole_54 0 rfl ?_
  refine r_callXSH (nn := 2) (As := [.ref q, .int (nI 0)]) (st := [.int (nI 0)]) dL_isWhole_56 (tR_counted D (nI 0)) gL_isWhole_L_counted rfl (by decide +kernel) ⟨Nat.le_of_ble_eq_true rfl, Nat.le_of_ble_eq_true rfl⟩ ⟨rfl, rfl⟩ rfl (Nat.le_of_ble_eq_true rfl) ⟨by show _ ≤ 16000; omega, by show _ ≤ 96000; omega⟩ rfl (fun Ec hh hp => hp.elim) (fun r hh hp => ?_)
  obtain ⟨hr, hhe⟩ := hp
  rw [hhe, hr, ok_counted (gd6 (by omega)), show dt 33 (nI 0).toNatClampNeg = nI (nct (dt 19) (nI 0) w) from (w2 0 (by omega)).1]
  refine r_iadd dL_isWhole_59 ?_
  rw [nI_add 0 (nct (dt 19) (nI 0) w)]
  refine r_istore (lo' := [(5, .int (nI (0 + (nct (dt 19) (nI 0) w)))), (6, .int (nI 0)), (4, .int (nI 1)), (0, .ref q), (1, .ref pn), (2, .ref ps), (3, .int (nI X))]) dL_isWhole_60 (by decide) rfl ?_
  refine r_aload_n dL_isWhole_62 3 rfl ?_
  refine r_iload dL_isWhole_63 1 rfl ?_
  refine r_callXSH (nn := 2) (As := [.ref q, .int (nI 0)]) (st := []) dL_isWhole_65 (tR_anew D (nI 0)) gL_isWhole_L_anew rfl (by decide +kernel) ⟨Nat.le_of_ble_eq_true rfl, Nat.le_of_ble_eq_true rfl⟩ ⟨rfl, rfl⟩ rfl (Nat.le_of_ble_eq_true rfl) ⟨by show _ ≤ 16000; omega, by show _ ≤ 96000; omega⟩ rfl (fun Ec hh hp => hp.elim) (fun r hh hp => ?_)
  obtain ⟨hr, hhe⟩ := hp
  rw [hhe, hr, ok_anew (gd6 (by omega)), cnt_n]
  refine r_aload_n dL_isWhole_68 3 rfl ?_
  refine r_iload dL_isWhole_69 1 rfl ?_
  refine r_callXSH (nn := 2) (As := [.ref q, .int (nI 0)]) (st := [.int (nI (nct (dt 19) (nI 0) w))]) dL_isWhole_71 (tR_counted D (nI 0)) gL_isWhole_L_counted rfl (by decide +kernel) ⟨Nat.le_of_ble_eq_true rfl, Nat.le_of_ble_eq_true rfl⟩ ⟨rfl, rfl⟩ rfl (Nat.le_of_ble_eq_true rfl) ⟨by show _ ≤ 16000; omega, by show _ ≤ 96000; omega⟩ rfl (fun Ec hh hp => hp.elim) (fun r hh hp => ?_)
  obtain ⟨hr, hhe⟩ := hp
  rw [hhe, hr, ok_counted (gd6 (by omega)), show dt 33 (nI 0).toNatClampNeg = nI (nct (dt 19) (nI 0) w) from (w2 0 (by omega)).1]
  refine r_icmp_ne (tgt := 90) dL_isWhole_74 (by decide) (fun c9 => absurd rfl c9) (fun _ => ?_)
  refine r_aload_n dL_isWhole_77 3 rfl ?_
  refine r_iload dL_isWhole_78 1 rfl ?_
  refine r_callXSH (nn := 2) (As := [.ref q, .int (nI 0)]) (st := []) dL_isWhole_80 (tR_owed D (nI 0)) gL_isWhole_L_owed rfl (by decide +kernel) ⟨Nat.le_of_ble_eq_true rfl, Nat.le_of_ble_eq_true rfl⟩ ⟨rfl, rfl⟩ rfl (Nat.le_of_ble_eq_true rfl) ⟨by show _ ≤ 16000; omega, by show _ ≤ 96000; omega⟩ rfl (fun Ec hh hp => hp.elim) (fun r hh hp => ?_)
  obtain ⟨hr, hhe⟩ := hp
  rw [hhe, hr, ok_owed (gd6 (by omega)), show dOwe dt (nI 0).toNatClampNeg = dOwe dt 0 from rfl]
  refine r_if_lt (tgt := 90) dL_isWhole_83 (by decide) (fun c9 => absurd c9 (w2 0 (by omega)).2) (fun _ => ?_)
  refine r_iconst (v := nI 1) dL_isWhole_86 (by decide) ?_
  refine r_goto (tgt := 91) dL_isWhole_87 (by decide) ?_
  refine r_istore (lo' := [(4, .int (nI 1)), (5, .int (nI (0 + (nct (dt 19) (nI 0) w)))), (6, .int (nI 0)), (0, .ref q), (1, .ref pn), (2, .ref ps), (3, .int (nI X))]) dL_isWhole_91 (by decide) rfl ?_
  refine r_iinc (v := nI 1) (lo' := [(6, .int (nI 1)), (4, .int (nI 1)), (5, .int (nI (0 + (nct (dt 19) (nI 0) w)))), (0, .ref q), (1, .ref pn), (2, .ref ps), (3, .int (nI X))]) dL_isWhole_93 2 rfl (by decide) (by decide) rfl ?_
  refine r_goto (tgt := 39) dL_isWhole_96 (by decide) ?_
  refine r_iload dL_isWhole_39 0 rfl ?_
  refine r_bipush (v := nI 6) dL_isWhole_41 (by decide) ?_
  refine r_icmp_ge (tgt := 99) dL_isWhole_43 (by decide) (fun c9 => absurd c9 (by decide)) (fun _ => ?_)
  refine r_iload dL_isWhole_46 1 rfl ?_
  refine r_if_eq (tgt := 99) dL_isWhole_48 (by decide) (fun c9 => absurd c9 (by decide)) (fun _ => ?_)
  refine r_iload dL_isWhole_51 2 rfl ?_
  refine r_aload_n dL_isWhole_53 3 rfl ?_
  refine r_iload dL_isWhole_54 0 rfl ?_
  refine r_callXSH (nn := 2) (As := [.ref q, .int (nI 1)]) (st := [.int (nI (0 + (nct (dt 19) (nI 0) w)))]) dL_isWhole_56 (tR_counted D (nI 1)) gL_isWhole_L_counted rfl (by decide +kernel) ⟨Nat.le_of_ble_eq_true rfl, Nat.le_of_ble_eq_true rfl⟩ ⟨rfl, rfl⟩ rfl (Nat.le_of_ble_eq_true rfl) ⟨by show _ ≤ 16000; omega, by show _ ≤ 96000; omega⟩ rfl (fun Ec hh hp => hp.elim) (fun r hh hp => ?_)
  obtain ⟨hr, hhe⟩ := hp
  rw [hhe, hr, ok_counted (gd6 (by omega)), show dt 33 (nI 1).toNatClampNeg = nI (nct (dt 19) (nI 1) w) from (w2 1 (by omega)).1]
  refine r_iadd dL_isWhole_59 ?_
  rw [nI_add (0 + (nct (dt 19) (nI 0) w)) (nct (dt 19) (nI 1) w)]
  refine r_istore (lo' := [(5, .int (nI (0 + (nct (dt 19) (nI 0) w) + (nct (dt 19) (nI 1) w)))), (6, .int (nI 1)), (4, .int (nI 1)), (0, .ref q), (1, .ref pn), (2, .ref ps), (3, .int (nI X))]) dL_isWhole_60 (by decide) rfl ?_
  refine r_aload_n dL_isWhole_62 3 rfl ?_
  refine r_iload dL_isWhole_63 1 rfl ?_
  refine r_callXSH (nn := 2) (As := [.ref q, .int (nI 1)]) (st := []) dL_isWhole_65 (tR_anew D (nI 1)) gL_isWhole_L_anew rfl (by decide +kernel) ⟨Nat.le_of_ble_eq_true rfl, Nat.le_of_ble_eq_true rfl⟩ ⟨rfl, rfl⟩ rfl (Nat.le_of_ble_eq_true rfl) ⟨by show _ ≤ 16000; omega, by show _ ≤ 96000; omega⟩ rfl (fun Ec hh hp => hp.elim) (fun r hh hp => ?_)
  obtain ⟨hr, hhe⟩ := hp
  rw [hhe, hr, ok_anew (gd6 (by omega)), cnt_n]
  refine r_aload_n dL_isWhole_68 3 rfl ?_
  refine r_iload dL_isWhole_69 1 rfl ?_
  refine r_callXSH (nn := 2) (As := [.ref q, .int (nI 1)]) (st := [.int (nI (nct (dt 19) (nI 1) w))]) dL_isWhole_71 (tR_counted D (nI 1)) gL_isWhole_L_counted rfl (by decide +kernel) ⟨Nat.le_of_ble_eq_true rfl, Nat.le_of_ble_eq_true rfl⟩ ⟨rfl, rfl⟩ rfl (Nat.le_of_ble_eq_true rfl) ⟨by show _ ≤ 16000; omega, by show _ ≤ 96000; omega⟩ rfl (fun Ec hh hp => hp.elim) (fun r hh hp => ?_)
  obtain ⟨hr, hhe⟩ := hp
  rw [hhe, hr, ok_counted (gd6 (by omega)), show dt 33 (nI 1).toNatClampNeg = nI (nct (dt 19) (nI 1) w) from (w2 1 (by omega)).1]
  refine r_icmp_ne (tgt := 90) dL_isWhole_74 (by decide) (fun c9 => absurd rfl c9) (fun _ => ?_)
  refine r_aload_n dL_isWhole_77 3 rfl ?_
  refine r_iload dL_isWhole_78 1 rfl ?_
  refine r_callXSH (nn := 2) (As := [.ref q, .int (nI 1)]) (st := []) dL_isWhole_80 (tR_owed D (nI 1)) gL_isWhole_L_owed rfl (by decide +kernel) ⟨Nat.le_of_ble_eq_true rfl, Nat.le_of_ble_eq_true rfl⟩ ⟨rfl, rfl⟩ rfl (Nat.le_of_ble_eq_true rfl) ⟨by show _ ≤ 16000; omega, by show _ ≤ 96000; omega⟩ rfl (fun Ec hh hp => hp.elim) (fun r hh hp => ?_)
  obtain ⟨hr, hhe⟩ := hp
  rw [hhe, hr, ok_owed (gd6 (by omega)), show dOwe dt (nI 1).toNatClampNeg = dOwe dt 1 from rfl]
  refine r_if_lt (tgt := 90) dL_isWhole_83 (by decide) (fun c9 => absurd c9 (w2 1 (by omega)).2) (fun _ => ?_)
  refine r_iconst (v := nI 1) dL_isWhole_86 (by decide) ?_
  refine r_goto (tgt := 91) dL_isWhole_87 (by decide) ?_
  refine r_istore (lo' := [(4, .int (nI 1)), (5, .int (nI (0 + (nct (dt 19) (nI 0) w) + (nct (dt 19) (nI 1) w)))), (6, .int (nI 1)), (0, .ref q), (1, .ref pn), (2, .ref ps), (3, .int (nI X))]) dL_isWhole_91 (by decide) rfl ?_
  refine r_iinc (v := nI 2) (lo' := [(6, .int (nI 2)), (4, .int (nI 1)), (5, .int (nI (0 + (nct (dt 19) (nI 0) w) + (nct (dt 19) (nI 1) w)))), (0, .ref q), (1, .ref pn), (2, .ref ps), (3, .int (nI X))]) dL_isWhole_93 2 rfl (by decide) (by decide) rfl ?_
  refine r_goto (tgt := 39) dL_isWhole_96 (by decide) ?_
  refine r_iload dL_isWhole_39 0 rfl ?_
  refine r_bipush (v := nI 6) dL_isWhole_41 (by decide) ?_
  refine r_icmp_ge (tgt := 99) dL_isWhole_43 (by decide) (fun c9 => absurd c9 (by decide)) (fun _ => ?_)
  refine r_iload dL_isWhole_46 1 rfl ?_
  refine r_if_eq (tgt := 99) dL_isWhole_48 (by decide) (fun c9 => absurd c9 (by decide)) (fun _ => ?_)
  refine r_iload dL_isWhole_51 2 rfl ?_
  refine r_aload_n dL_isWhole_53 3 rfl ?_
  refine r_iload dL_isWhole_54 0 rfl ?_
  refine r_callXSH (nn := 2) (As := [.ref q, .int (nI 2)]) (st := [.int (nI (0 + (nct (dt 19) (nI 0) w) + (nct (dt 19) (nI 1) w)))]) dL_isWhole_56 (tR_counted D (nI 2)) gL_isWhole_L_counted rfl (by decide +kernel) ⟨Nat.le_of_ble_eq_true rfl, Nat.le_of_ble_eq_true rfl⟩ ⟨rfl, rfl⟩ rfl (Nat.le_of_ble_eq_true rfl) ⟨by show _ ≤ 16000; omega, by show _ ≤ 96000; omega⟩ rfl (fun Ec hh hp => hp.elim) (fun r hh hp => ?_)
  obtain ⟨hr, hhe⟩ := hp
  rw [hhe, hr, ok_counted (gd6 (by omega)), show dt 33 (nI 2).toNatClampNeg = nI (nct (dt 19) (nI 2) w) from (w2 2 (by omega)).1]
  refine r_iadd dL_isWhole_59 ?_
  rw [nI_add (0 + (nct (dt 19) (nI 0) w) + (nct (dt 19) (nI 1) w)) (nct (dt 19) (nI 2) w)]
  refine r_istore (lo' := [(5, .int (nI (0 + (nct (dt 19) (nI 0) w) + (nct (dt 19) (nI 1) w) + (nct (dt 19) (nI 2) w)))), (6, .int (nI 2)), (4, .int (nI 1)), (0, .ref q), (1, .ref pn), (2, .ref ps), (3, .int (nI X))]) dL_isWhole_60 (by decide) rfl ?_
  refine r_aload_n dL_isWhole_62 3 rfl ?_
  refine r_iload dL_isWhole_63 1 rfl ?_
  refine r_callXSH (nn := 2) (As := [.ref q, .int (nI 2)]) (st := []) dL_isWhole_65 (tR_anew D (nI 2)) gL_isWhole_L_anew rfl (by decide +kernel) ⟨Nat.le_of_ble_eq_true rfl, Nat.le_of_ble_eq_true rfl⟩ ⟨rfl, rfl⟩ rfl (Nat.le_of_ble_eq_true rfl) ⟨by show _ ≤ 16000; omega, by show _ ≤ 96000; omega⟩ rfl (fun Ec hh hp => hp.elim) (fun r hh hp => ?_)
  obtain ⟨hr, hhe⟩ := hp
  rw [hhe, hr, ok_anew (gd6 (by omega)), cnt_n]
  refine r_aload_n dL_isWhole_68 3 rfl ?_
  refine r_iload dL_isWhole_69 1 rfl ?_
  refine r_callXSH (nn := 2) (As := [.ref q, .int (nI 2)]) (st := [.int (nI (nct (dt 19) (nI 2) w))]) dL_isWhole_71 (tR_counted D (nI 2)) gL_isWhole_L_counted rfl (by decide +kernel) ⟨Nat.le_of_ble_eq_true rfl, Nat.le_of_ble_eq_true rfl⟩ ⟨rfl, rfl⟩ rfl (Nat.le_of_ble_eq_true rfl) ⟨by show _ ≤ 16000; omega, by show _ ≤ 96000; omega⟩ rfl (fun Ec hh hp => hp.elim) (fun r hh hp => ?_)
  obtain ⟨hr, hhe⟩ := hp
  rw [hhe, hr, ok_counted (gd6 (by omega)), show dt 33 (nI 2).toNatClampNeg = nI (nct (dt 19) (nI 2) w) from (w2 2 (by omega)).1]
  refine r_icmp_ne (tgt := 90) dL_isWhole_74 (by decide) (fun c9 => absurd rfl c9) (fun _ => ?_)
  refine r_aload_n dL_isWhole_77 3 rfl ?_
  refine r_iload dL_isWhole_78 1 rfl ?_
  refine r_callXSH (nn := 2) (As := [.ref q, .int (nI 2)]) (st := []) dL_isWhole_80 (tR_owed D (nI 2)) gL_isWhole_L_owed rfl (by decide +kernel) ⟨Nat.le_of_ble_eq_true rfl, Nat.le_of_ble_eq_true rfl⟩ ⟨rfl, rfl⟩ rfl (Nat.le_of_ble_eq_true rfl) ⟨by show _ ≤ 16000; omega, by show _ ≤ 96000; omega⟩ rfl (fun Ec hh hp => hp.elim) (fun r hh hp => ?_)
  obtain ⟨hr, hhe⟩ := hp
  rw [hhe, hr, ok_owed (gd6 (by omega)), show dOwe dt (nI 2).toNatClampNeg = dOwe dt 2 from rfl]
  refine r_if_lt (tgt := 90) dL_isWhole_83 (by decide) (fun c9 => absurd c9 (w2 2 (by omega)).2) (fun _ => ?_)
  refine r_iconst (v := nI 1) dL_isWhole_86 (by decide) ?_
  refine r_goto (tgt := 91) dL_isWhole_87 (by decide) ?_
  refine r_istore (lo' := [(4, .int (nI 1)), (5, .int (nI (0 + (nct (dt 19) (nI 0) w) + (nct (dt 19) (nI 1) w) + (nct (dt 19) (nI 2) w)))), (6, .int (nI 2)), (0, .ref q), (1, .ref pn), (2, .ref ps), (3, .int (nI X))]) dL_isWhole_91 (by decide) rfl ?_
  refine r_iinc (v := nI 3) (lo' := [(6, .int (nI 3)), (4, .int (nI 1)), (5, .int (nI (0 + (nct (dt 19) (nI 0) w) + (nct (dt 19) (nI 1) w) + (nct (dt 19) (nI 2) w)))), (0, .ref q), (1, .ref pn), (2, .ref ps), (3, .int (nI X))]) dL_isWhole_93 2 rfl (by decide) (by decide) rfl ?_
  refine r_goto (tgt := 39) dL_isWhole_96 (by decide) ?_
  refine r_iload dL_isWhole_39 0 rfl ?_
  refine r_bipush (v := nI 6) dL_isWhole_41 (by decide) ?_
  refine r_icmp_ge (tgt := 99) dL_isWhole_43 (by decide) (fun c9 => absurd c9 (by decide)) (fun _ => ?_)
  refine r_iload dL_isWhole_46 1 rfl ?_
  refine r_if_eq (tgt := 99) dL_isWhole_48 (by decide) (fun c9 => absurd c9 (by decide)) (fun _ => ?_)
  refine r_iload dL_isWhole_51 2 rfl ?_
  refine r_aload_n dL_isWhole_53 3 rfl ?_
  refine r_iload dL_isWhole_54 0 rfl ?_
  refine r_callXSH (nn := 2) (As := [.ref q, .int (nI 3)]) (st := [.int (nI (0 + (nct (dt 19) (nI 0) w) + (nct (dt 19) (nI 1) w) + (nct (dt 19) (nI 2) w)))]) dL_isWhole_56 (tR_counted D (nI 3)) gL_isWhole_L_counted rfl (by decide +kernel) ⟨Nat.le_of_ble_eq_true rfl, Nat.le_of_ble_eq_true rfl⟩ ⟨rfl, rfl⟩ rfl (Nat.le_of_ble_eq_true rfl) ⟨by show _ ≤ 16000; omega, by show _ ≤ 96000; omega⟩ rfl (fun Ec hh hp => hp.elim) (fun r hh hp => ?_)
  obtain ⟨hr, hhe⟩ := hp
  rw [hhe, hr, ok_counted (gd6 (by omega)), show dt 33 (nI 3).toNatClampNeg = nI (nct (dt 19) (nI 3) w) from (w2 3 (by omega)).1]
  refine r_iadd dL_isWhole_59 ?_
  rw [nI_add (0 + (nct (dt 19) (nI 0) w) + (nct (dt 19) (nI 1) w) + (nct (dt 19) (nI 2) w)) (nct (dt 19) (nI 3) w)]
  refine r_istore (lo' := [(5, .int (nI (0 + (nct (dt 19) (nI 0) w) + (nct (dt 19) (nI 1) w) + (nct (dt 19) (nI 2) w) + (nct (dt 19) (nI 3) w)))), (6, .int (nI 3)), (4, .int (nI 1)), (0, .ref q), (1, .ref pn), (2, .ref ps), (3, .int (nI X))]) dL_isWhole_60 (by decide) rfl ?_
  refine r_aload_n dL_isWhole_62 3 rfl ?_
  refine r_iload dL_isWhole_63 1 rfl ?_
  refine r_callXSH (nn := 2) (As := [.ref q, .int (nI 3)]) (st := []) dL_isWhole_65 (tR_anew D (nI 3)) gL_isWhole_L_anew rfl (by decide +kernel) ⟨Nat.le_of_ble_eq_true rfl, Nat.le_of_ble_eq_true rfl⟩ ⟨rfl, rfl⟩ rfl (Nat.le_of_ble_eq_true rfl) ⟨by show _ ≤ 16000; omega, by show _ ≤ 96000; omega⟩ rfl (fun Ec hh hp => hp.elim) (fun r hh hp => ?_)
  obtain ⟨hr, hhe⟩ := hp
  rw [hhe, hr, ok_anew (gd6 (by omega)), cnt_n]
  refine r_aload_n dL_isWhole_68 3 rfl ?_
  refine r_iload dL_isWhole_69 1 rfl ?_
  refine r_callXSH (nn := 2) (As := [.ref q, .int (nI 3)]) (st := [.int (nI (nct (dt 19) (nI 3) w))]) dL_isWhole_71 (tR_counted D (nI 3)) gL_isWhole_L_counted rfl (by decide +kernel) ⟨Nat.le_of_ble_eq_true rfl, Nat.le_of_ble_eq_true rfl⟩ ⟨rfl, rfl⟩ rfl (Nat.le_of_ble_eq_true rfl) ⟨by show _ ≤ 16000; omega, by show _ ≤ 96000; omega⟩ rfl (fun Ec hh hp => hp.elim) (fun r hh hp => ?_)
  obtain ⟨hr, hhe⟩ := hp
  rw [hhe, hr, ok_counted (gd6 (by omega)), show dt 33 (nI 3).toNatClampNeg = nI (nct (dt 19) (nI 3) w) from (w2 3 (by omega)).1]
  refine r_icmp_ne (tgt := 90) dL_isWhole_74 (by decide) (fun c9 => absurd rfl c9) (fun _ => ?_)
  refine r_aload_n dL_isWhole_77 3 rfl ?_
  refine r_iload dL_isWhole_78 1 rfl ?_
  refine r_callXSH (nn := 2) (As := [.ref q, .int (nI 3)]) (st := []) dL_isWhole_80 (tR_owed D (nI 3)) gL_isWhole_L_owed rfl (by decide +kernel) ⟨Nat.le_of_ble_eq_true rfl, Nat.le_of_ble_eq_true rfl⟩ ⟨rfl, rfl⟩ rfl (Nat.le_of_ble_eq_true rfl) ⟨by show _ ≤ 16000; omega, by show _ ≤ 96000; omega⟩ rfl (fun Ec hh hp => hp.elim) (fun r hh hp => ?_)
  obtain ⟨hr, hhe⟩ := hp
  rw [hhe, hr, ok_owed (gd6 (by omega)), show dOwe dt (nI 3).toNatClampNeg = dOwe dt 3 from rfl]
  refine r_if_lt (tgt := 90) dL_isWhole_83 (by decide) (fun c9 => absurd c9 (w2 3 (by omega)).2) (fun _ => ?_)
  refine r_iconst (v := nI 1) dL_isWhole_86 (by decide) ?_
  refine r_goto (tgt := 91) dL_isWhole_87 (by decide) ?_
  refine r_istore (lo' := [(4, .int (nI 1)), (5, .int (nI (0 + (nct (dt 19) (nI 0) w) + (nct (dt 19) (nI 1) w) + (nct (dt 19) (nI 2) w) + (nct (dt 19) (nI 3) w)))), (6, .int (nI 3)), (0, .ref q), (1, .ref pn), (2, .ref ps), (3, .int (nI X))]) dL_isWhole_91 (by decide) rfl ?_
  refine r_iinc (v := nI 4) (lo' := [(6, .int (nI 4)), (4, .int (nI 1)), (5, .int (nI (0 + (nct (dt 19) (nI 0) w) + (nct (dt 19) (nI 1) w) + (nct (dt 19) (nI 2) w) + (nct (dt 19) (nI 3) w)))), (0, .ref q), (1, .ref pn), (2, .ref ps), (3, .int (nI X))]) dL_isWhole_93 2 rfl (by decide) (by decide) rfl ?_
  refine r_goto (tgt := 39) dL_isWhole_96 (by decide) ?_
  refine r_iload dL_isWhole_39 0 rfl ?_
  refine r_bipush (v := nI 6) dL_isWhole_41 (by decide) ?_
  refine r_icmp_ge (tgt := 99) dL_isWhole_43 (by decide) (fun c9 => absurd c9 (by decide)) (fun _ => ?_)
  refine r_iload dL_isWhole_46 1 rfl ?_
  refine r_if_eq (tgt := 99) dL_isWhole_48 (by decide) (fun c9 => absurd c9 (by decide)) (fun _ => ?_)
  refine r_iload dL_isWhole_51 2 rfl ?_
  refine r_aload_n dL_isWhole_53 3 rfl ?_
  refine r_iload dL_isWhole_54 0 rfl ?_
  refine r_callXSH (nn := 2) (As := [.ref q, .int (nI 4)]) (st := [.int (nI (0 + (nct (dt 19) (nI 0) w) + (nct (dt 19) (nI 1) w) + (nct (dt 19) (nI 2) w) + (nct (dt 19) (nI 3) w)))]) dL_isWhole_56 (tR_counted D (nI 4)) gL_isWhole_L_counted rfl (by decide +kernel) ⟨Nat.le_of_ble_eq_true rfl, Nat.le_of_ble_eq_true rfl⟩ ⟨rfl, rfl⟩ rfl (Nat.le_of_ble_eq_true rfl) ⟨by show _ ≤ 16000; omega, by show _ ≤ 96000; omega⟩ rfl (fun Ec hh hp => hp.elim) (fun r hh hp => ?_)
  obtain ⟨hr, hhe⟩ := hp
  rw [hhe, hr, ok_counted (gd6 (by omega)), show dt 33 (nI 4).toNatClampNeg = nI (nct (dt 19) (nI 4) w) from (w2 4 (by omega)).1]
  refine r_iadd dL_isWhole_59 ?_
  rw [nI_add (0 + (nct (dt 19) (nI 0) w) + (nct (dt 19) (nI 1) w) + (nct (dt 19) (nI 2) w) + (nct (dt 19) (nI 3) w)) (nct (dt 19) (nI 4) w)]
  refine r_istore (lo' := [(5, .int (nI (0 + (nct (dt 19) (nI 0) w) + (nct (dt 19) (nI 1) w) + (nct (dt 19) (nI 2) w) + (nct (dt 19) (nI 3) w) + (nct (dt 19) (nI 4) w)))), (6, .int (nI 4)), (4, .int (nI 1)), (0, .ref q), (1, .ref pn), (2, .ref ps), (3, .int (nI X))]) dL_isWhole_60 (by decide) rfl ?_
  refine r_aload_n dL_isWhole_62 3 rfl ?_
  refine r_iload dL_isWhole_63 1 rfl ?_
  refine r_callXSH (nn := 2) (As := [.ref q, .int (nI 4)]) (st := []) dL_isWhole_65 (tR_anew D (nI 4)) gL_isWhole_L_anew rfl (by decide +kernel) ⟨Nat.le_of_ble_eq_true rfl, Nat.le_of_ble_eq_true rfl⟩ ⟨rfl, rfl⟩ rfl (Nat.le_of_ble_eq_true rfl) ⟨by show _ ≤ 16000; omega, by show _ ≤ 96000; omega⟩ rfl (fun Ec hh hp => hp.elim) (fun r hh hp => ?_)
  obtain ⟨hr, hhe⟩ := hp
  rw [hhe, hr, ok_anew (gd6 (by omega)), cnt_n]
  refine r_aload_n dL_isWhole_68 3 rfl ?_
  refine r_iload dL_isWhole_69 1 rfl ?_
  refine r_callXSH (nn := 2) (As := [.ref q, .int (nI 4)]) (st := [.int (nI (nct (dt 19) (nI 4) w))]) dL_isWhole_71 (tR_counted D (nI 4)) gL_isWhole_L_counted rfl (by decide +kernel) ⟨Nat.le_of_ble_eq_true rfl, Nat.le_of_ble_eq_true rfl⟩ ⟨rfl, rfl⟩ rfl (Nat.le_of_ble_eq_true rfl) ⟨by show _ ≤ 16000; omega, by show _ ≤ 96000; omega⟩ rfl (fun Ec hh hp => hp.elim) (fun r hh hp => ?_)
  obtain ⟨hr, hhe⟩ := hp
  rw [hhe, hr, ok_counted (gd6 (by omega)), show dt 33 (nI 4).toNatClampNeg = nI (nct (dt 19) (nI 4) w) from (w2 4 (by omega)).1]
  refine r_icmp_ne (tgt := 90) dL_isWhole_74 (by decide) (fun c9 => absurd rfl c9) (fun _ => ?_)
  refine r_aload_n dL_isWhole_77 3 rfl ?_
  refine r_iload dL_isWhole_78 1 rfl ?_
  refine r_callXSH (nn := 2) (As := [.ref q, .int (nI 4)]) (st := []) dL_isWhole_80 (tR_owed D (nI 4)) gL_isWhole_L_owed rfl (by decide +kernel) ⟨Nat.le_of_ble_eq_true rfl, Nat.le_of_ble_eq_true rfl⟩ ⟨rfl, rfl⟩ rfl (Nat.le_of_ble_eq_true rfl) ⟨by show _ ≤ 16000; omega, by show _ ≤ 96000; omega⟩ rfl (fun Ec hh hp => hp.elim) (fun r hh hp => ?_)
  obtain ⟨hr, hhe⟩ := hp
  rw [hhe, hr, ok_owed (gd6 (by omega)), show dOwe dt (nI 4).toNatClampNeg = dOwe dt 4 from rfl]
  refine r_if_lt (tgt := 90) dL_isWhole_83 (by decide) (fun c9 => absurd c9 (w2 4 (by omega)).2) (fun _ => ?_)
  refine r_iconst (v := nI 1) dL_isWhole_86 (by decide) ?_
  refine r_goto (tgt := 91) dL_isWhole_87 (by decide) ?_
  refine r_istore (lo' := [(4, .int (nI 1)), (5, .int (nI (0 + (nct (dt 19) (nI 0) w) + (nct (dt 19) (nI 1) w) + (nct (dt 19) (nI 2) w) + (nct (dt 19) (nI 3) w) + (nct (dt 19) (nI 4) w)))), (6, .int (nI 4)), (0, .ref q), (1, .ref pn), (2, .ref ps), (3, .int (nI X))]) dL_isWhole_91 (by decide) rfl ?_
  refine r_iinc (v := nI 5) (lo' := [(6, .int (nI 5)), (4, .int (nI 1)), (5, .int (nI (0 + (nct (dt 19) (nI 0) w) + (nct (dt 19) (nI 1) w) + (nct (dt 19) (nI 2) w) + (nct (dt 19) (nI 3) w) + (nct (dt 19) (nI 4) w)))), (0, .ref q), (1, .ref pn), (2, .ref ps), (3, .int (nI X))]) dL_isWhole_93 2 rfl (by decide) (by decide) rfl ?_
  refine r_goto (tgt := 39) dL_isWhole_96 (by decide) ?_
  refine r_iload dL_isWhole_39 0 rfl ?_
  refine r_bipush (v := nI 6) dL_isWhole_41 (by decide) ?_
  refine r_icmp_ge (tgt := 99) dL_isWhole_43 (by decide) (fun c9 => absurd c9 (by decide)) (fun _ => ?_)
  refine r_iload dL_isWhole_46 1 rfl ?_
  refine r_if_eq (tgt := 99) dL_isWhole_48 (by decide) (fun c9 => absurd c9 (by decide)) (fun _ => ?_)
  refine r_iload dL_isWhole_51 2 rfl ?_
  refine r_aload_n dL_isWhole_53 3 rfl ?_
  refine r_iload dL_isWhole_54 0 rfl ?_
  refine r_callXSH (nn := 2) (As := [.ref q, .int (nI 5)]) (st := [.int (nI (0 + (nct (dt 19) (nI 0) w) + (nct (dt 19) (nI 1) w) + (nct (dt 19) (nI 2) w) + (nct (dt 19) (nI 3) w) + (nct (dt 19) (nI 4) w)))]) dL_isWhole_56 (tR_counted D (nI 5)) gL_isWhole_L_counted rfl (by decide +kernel) ⟨Nat.le_of_ble_eq_true rfl, Nat.le_of_ble_eq_true rfl⟩ ⟨rfl, rfl⟩ rfl (Nat.le_of_ble_eq_true rfl) ⟨by show _ ≤ 16000; omega, by show _ ≤ 96000; omega⟩ rfl (fun Ec hh hp => hp.elim) (fun r hh hp => ?_)
  obtain ⟨hr, hhe⟩ := hp
  rw [hhe, hr, ok_counted (gd6 (by omega)), show dt 33 (nI 5).toNatClampNeg = nI (nct (dt 19) (nI 5) w) from (w2 5 (by omega)).1]
  refine r_iadd dL_isWhole_59 ?_
  rw [nI_add (0 + (nct (dt 19) (nI 0) w) + (nct (dt 19) (nI 1) w) + (nct (dt 19) (nI 2) w) + (nct (dt 19) (nI 3) w) + (nct (dt 19) (nI 4) w)) (nct (dt 19) (nI 5) w)]
  refine r_istore (lo' := [(5, .int (nI (0 + (nct (dt 19) (nI 0) w) + (nct (dt 19) (nI 1) w) + (nct (dt 19) (nI 2) w) + (nct (dt 19) (nI 3) w) + (nct (dt 19) (nI 4) w) + (nct (dt 19) (nI 5) w)))), (6, .int (nI 5)), (4, .int (nI 1)), (0, .ref q), (1, .ref pn), (2, .ref ps), (3, .int (nI X))]) dL_isWhole_60 (by decide) rfl ?_
  refine r_aload_n dL_isWhole_62 3 rfl ?_
  refine r_iload dL_isWhole_63 1 rfl ?_
  refine r_callXSH (nn := 2) (As := [.ref q, .int (nI 5)]) (st := []) dL_isWhole_65 (tR_anew D (nI 5)) gL_isWhole_L_anew rfl (by decide +kernel) ⟨Nat.le_of_ble_eq_true rfl, Nat.le_of_ble_eq_true rfl⟩ ⟨rfl, rfl⟩ rfl (Nat.le_of_ble_eq_true rfl) ⟨by show _ ≤ 16000; omega, by show _ ≤ 96000; omega⟩ rfl (fun Ec hh hp => hp.elim) (fun r hh hp => ?_)
  obtain ⟨hr, hhe⟩ := hp
  rw [hhe, hr, ok_anew (gd6 (by omega)), cnt_n]
  refine r_aload_n dL_isWhole_68 3 rfl ?_
  refine r_iload dL_isWhole_69 1 rfl ?_
  refine r_callXSH (nn := 2) (As := [.ref q, .int (nI 5)]) (st := [.int (nI (nct (dt 19) (nI 5) w))]) dL_isWhole_71 (tR_counted D (nI 5)) gL_isWhole_L_counted rfl (by decide +kernel) ⟨Nat.le_of_ble_eq_true rfl, Nat.le_of_ble_eq_true rfl⟩ ⟨rfl, rfl⟩ rfl (Nat.le_of_ble_eq_true rfl) ⟨by show _ ≤ 16000; omega, by show _ ≤ 96000; omega⟩ rfl (fun Ec hh hp => hp.elim) (fun r hh hp => ?_)
  obtain ⟨hr, hhe⟩ := hp
  rw [hhe, hr, ok_counted (gd6 (by omega)), show dt 33 (nI 5).toNatClampNeg = nI (nct (dt 19) (nI 5) w) from (w2 5 (by omega)).1]
  refine r_icmp_ne (tgt := 90) dL_isWhole_74 (by decide) (fun c9 => absurd rfl c9) (fun _ => ?_)
  refine r_aload_n dL_isWhole_77 3 rfl ?_
  refine r_iload dL_isWhole_78 1 rfl ?_
  refine r_callXSH (nn := 2) (As := [.ref q, .int (nI 5)]) (st := []) dL_isWhole_80 (tR_owed D (nI 5)) gL_isWhole_L_owed rfl (by decide +kernel) ⟨Nat.le_of_ble_eq_true rfl, Nat.le_of_ble_eq_true rfl⟩ ⟨rfl, rfl⟩ rfl (Nat.le_of_ble_eq_true rfl) ⟨by show _ ≤ 16000; omega, by show _ ≤ 96000; omega⟩ rfl (fun Ec hh hp => hp.elim) (fun r hh hp => ?_)
  obtain ⟨hr, hhe⟩ := hp
  rw [hhe, hr, ok_owed (gd6 (by omega)), show dOwe dt (nI 5).toNatClampNeg = dOwe dt 5 from rfl]
  refine r_if_lt (tgt := 90) dL_isWhole_83 (by decide) (fun c9 => absurd c9 (w2 5 (by omega)).2) (fun _ => ?_)
  refine r_iconst (v := nI 1) dL_isWhole_86 (by decide) ?_
  refine r_goto (tgt := 91) dL_isWhole_87 (by decide) ?_
  refine r_istore (lo' := [(4, .int (nI 1)), (5, .int (nI (0 + (nct (dt 19) (nI 0) w) + (nct (dt 19) (nI 1) w) + (nct (dt 19) (nI 2) w) + (nct (dt 19) (nI 3) w) + (nct (dt 19) (nI 4) w) + (nct (dt 19) (nI 5) w)))), (6, .int (nI 5)), (0, .ref q), (1, .ref pn), (2, .ref ps), (3, .int (nI X))]) dL_isWhole_91 (by decide) rfl ?_
  refine r_iinc (v := nI 6) (lo' := [(6, .int (nI 6)), (4, .int (nI 1)), (5, .int (nI (0 + (nct (dt 19) (nI 0) w) + (nct (dt 19) (nI 1) w) + (nct (dt 19) (nI 2) w) + (nct (dt 19) (nI 3) w) + (nct (dt 19) (nI 4) w) + (nct (dt 19) (nI 5) w)))), (0, .ref q), (1, .ref pn), (2, .ref ps), (3, .int (nI X))]) dL_isWhole_93 2 rfl (by decide) (by decide) rfl ?_
  refine r_goto (tgt := 39) dL_isWhole_96 (by decide) ?_
  refine r_iload dL_isWhole_39 0 rfl ?_
  refine r_bipush (v := nI 6) dL_isWhole_41 (by decide) ?_
  refine r_icmp_ge (tgt := 99) dL_isWhole_43 (by decide) (fun _ => ?_) (fun c9 => absurd c9 (by decide))
  refine r_iconst (v := nI 0) dL_isWhole_99 (by decide) ?_
  refine r_istore (lo' := [(6, .int (nI 0)), (4, .int (nI 1)), (5, .int (nI (0 + (nct (dt 19) (nI 0) w) + (nct (dt 19) (nI 1) w) + (nct (dt 19) (nI 2) w) + (nct (dt 19) (nI 3) w) + (nct (dt 19) (nI 4) w) + (nct (dt 19) (nI 5) w)))), (0, .ref q), (1, .ref pn), (2, .ref ps), (3, .int (nI X))]) dL_isWhole_100 (by decide) rfl ?_
  refine r_iconst (v := nI 0) dL_isWhole_102 (by decide) ?_
  refine r_istore (lo' := [(7, .int (nI 0)), (6, .int (nI 0)), (4, .int (nI 1)), (5, .int (nI (0 + (nct (dt 19) (nI 0) w) + (nct (dt 19) (nI 1) w) + (nct (dt 19) (nI 2) w) + (nct (dt 19) (nI 3) w) + (nct (dt 19) (nI 4) w) + (nct (dt 19) (nI 5) w)))), (0, .ref q), (1, .ref pn), (2, .ref ps), (3, .int (nI X))]) dL_isWhole_103 (by decide) rfl ?_
  have e5 : nI (0 + (nct (dt 19) (nI 0) w) + (nct (dt 19) (nI 1) w) + (nct (dt 19) (nI 2) w) + (nct (dt 19) (nI 3) w) + (nct (dt 19) (nI 4) w) + (nct (dt 19) (nI 5) w)) = nI (sN (dt 19) w 6) := rfl
  rw [e5]
  refine r_lo (lo' := [(0, .ref q), (1, .ref pn), (2, .ref ps), (3, .int (nI X)), (4, .int (nI 1)), (5, .int (nI (sN (dt 19) w 6))), (6, .int (nI (sN (dt 17) w 0))), (7, .int (nI 0))]) [4, 5, 6, 7, 2, 3, 1, 0] rfl ?_
  exact wh_105 D hX hH hn_0 hn_1 hS hfs hwh kret (nF + 1) 0 _ _ (by omega) (by omega) (by omega) (by omega)
set_option maxHeartbeats 4000000 in
set_option maxRecDepth 100000 in
theorem tK_isWhole {E : kE} {H : kH} {dt : kM} {nF nC nE w X q pn ps : Nat} {fn fs : Nat → Int32} (D : Dk E q dt nF nC nE w H) (hX : X < 2 ^ 31) (hH : H pn = some (.inl (kI E, 3, .inl fn))) (hn_0 : fn 0 = nI nF) (hn_1 : fn 1 = nI nC) (hS : H ps = some (.inl (kI E, 6, .inl fs))) (hfs : ∀ k, k < nC → fs k = dt 11 k) (hwh : WH dt nF nC nE w) : kCi E yL_isWhole wsL_isWhole rmL_isWhole 16000 96000 [.ref q, .ref pn, .ref ps, .int (nI X)] H (fun r h' => r = 1 ∧ h' = H) := by
  refine kCi_of (rt := .boolean) (own := RL) (cc := cL_isWhole) (maxL := 11) (by decide) rfl rfl (Nat.le_of_ble_eq_true rfl) ?_
  intro X9 hini kret
  refine r_lo (lo' := [(0, .ref q), (1, .ref pn), (2, .ref ps), (3, .int (nI X))]) [0, 1, 2, 3] rfl ?_
  exact wh_0 D hX hH hn_0 hn_1 hS hfs hwh kret
