/-! the law from its entry -/
abbrev h00 : kH := fun _ => none
section FR
variable {E : kE} {a cap b capb : Nat → Nat} {nF nC nE nF' nC' nE' : Nat} {dt dtb : kM} {h0 : kH} {po : Nat} {e : va_E}
theorem dgeo_fresh (hg : dgeo E a cap nF nC nE h0) (hne : ∀ k, dD cap nF nC nE k → a k ≠ po) : dgeo E a cap nF nC nE (kup h0 po e) := ⟨hg.1, fun k hk => by rw [kup_n _ _ (hne k hk)]; exact hg.2.1 k hk, hg.2.2⟩
theorem dw_fresh (hg : dgeo E a cap nF nC nE h0) (hne : ∀ k, dD cap nF nC nE k → a k ≠ po) : kup (dw E a cap nF nC nE dt h0) po e = dw E a cap nF nC nE dt (kup h0 po e) := by
  refine og_ext (D := dD cap nF nC nE) (a := a) (c := dcell E a cap nF nC nE dt) hg.1 (fun k hk => ?_) (fun q hq => ?_)
  · rw [kup_n _ _ (hne k hk)]
    exact og_at hg.1 _ h0 hk
  · by_cases c : q = po
    · subst c; rw [kup_s, kup_s]
    · rw [kup_n _ _ c, kup_n _ _ c]
      exact og_out _ h0 hq
theorem Two.fresh (T : Two E a cap nF nC nE b capb nF' nC' nE' h0) (hp : dw E a cap nF nC nE dt (dw E b capb nF' nC' nE' dtb h0) po = none) : Two E a cap nF nC nE b capb nF' nC' nE' (kup h0 po e) ∧ kup (dw E a cap nF nC nE dt (dw E b capb nF' nC' nE' dtb h0)) po e = dw E a cap nF nC nE dt (dw E b capb nF' nC' nE' dtb (kup h0 po e)) ∧ h0 po = none := by
  obtain ⟨h1, h2⟩ := dw_new T.ga hp
  obtain ⟨h3, h4⟩ := dw_new T.2.1 h2
  exact ⟨⟨dgeo_fresh T.1 h1, dgeo_fresh T.2.1 h3, T.2.2⟩, by rw [dw_fresh T.ga h1, dw_fresh T.2.1 h3], h4⟩
end FR
set_option maxHeartbeats 4000000 in
set_option maxRecDepth 100000 in
theorem law_start {E : kE} {X9 : kX} {bs L : Nat} {xs : Nat → Int32} (hXs : kScr X9 bs L xs) (hL : L ≤ 260) (kend : ∀ (k n : Nat) (h : kH) (lo : List (Nat × Value)), k ≤ 640345 → n ≤ 7180433 → V E X9 room_1 cL_law 12 wsL_law RL k n h lo 448 [.int (nI 1)]) : V E X9 room_1 cL_law 12 wsL_law RL 0 0 h00 [(0, .ref bs)] 0 [] := by
  refine r_new (C := RX3) (T := TX3) (N := 15) (ci := 3) (fs := [.null, .null, .null, .null, .null, .null, .null, .null, .int 0, .int 0, .int 0, .int 0, .null, .null, .null]) dL_law_0 inlX3 tyX3 tyX3_ok (by decide +kernel : Cond.classLink RL 8 RX3 ∈ wsL_law) (by decide +kernel) (by decide +kernel) rfl (by decide +kernel) (Nat.le_of_ble_eq_true rfl) (Nat.le_of_ble_eq_true rfl) (fun q1 hq1 => ?_)
  refine r_dup dL_law_3 rfl ?_
  refine r_callIv (nn := 0) (As := []) (st := [.ref q1]) dL_law_4 (tX3_init q1 hq1) gL_law_X3_init (by decide +kernel) (by decide +kernel) (by decide +kernel) rfl rfl (by decide +kernel) ⟨Nat.le_of_ble_eq_true rfl, Nat.le_of_ble_eq_true rfl⟩ ⟨rfl, rfl⟩ rfl (Nat.le_of_ble_eq_true rfl) ⟨Nat.le_of_ble_eq_true rfl, Nat.le_of_ble_eq_true rfl⟩ rfl (fun hh hp => ?_)
  obtain ⟨a, ha, hg, hhe⟩ := hp
  rw [hhe]
  refine r_astore_n (lo' := [(1, .ref q1), (0, .ref bs)]) dL_law_7 (by decide) rfl ?_
  refine r_new (C := RX3) (T := TX3) (N := 15) (ci := 3) (fs := [.null, .null, .null, .null, .null, .null, .null, .null, .int 0, .int 0, .int 0, .int 0, .null, .null, .null]) dL_law_8 inlX3 tyX3 tyX3_ok (by decide +kernel : Cond.classLink RL 8 RX3 ∈ wsL_law) (by decide +kernel) (by decide +kernel) rfl (by decide +kernel) (Nat.le_of_ble_eq_true rfl) (Nat.le_of_ble_eq_true rfl) (fun q2 hq2 => ?_)
  refine r_dup dL_law_11 rfl ?_
  refine r_callIv (nn := 0) (As := []) (st := [.ref q2]) dL_law_12 (tX3_init q2 hq2) gL_law_X3_init (by decide +kernel) (by decide +kernel) (by decide +kernel) rfl rfl (by decide +kernel) ⟨Nat.le_of_ble_eq_true rfl, Nat.le_of_ble_eq_true rfl⟩ ⟨rfl, rfl⟩ rfl (Nat.le_of_ble_eq_true rfl) ⟨Nat.le_of_ble_eq_true rfl, Nat.le_of_ble_eq_true rfl⟩ rfl (fun hh hp => ?_)
  obtain ⟨b, hb, hgb, hhe2⟩ := hp
  have T := (Two.of hg hgb).sym
  rw [hhe2, ← T.swap]
  refine r_astore_n (lo' := [(2, .ref q2), (1, .ref q1), (0, .ref bs)]) dL_law_15 (by decide) rfl ?_
  refine r_iconst (v := nI 3) dL_law_16 (by decide) ?_
  refine r_newI (N := 3) dL_law_17 (by decide +kernel) (by decide) (by decide) (by decide) (Nat.le_of_ble_eq_true rfl) (Nat.le_of_ble_eq_true rfl) (fun pn hpn => ?_)
  obtain ⟨T1, e1, n1⟩ := Two.fresh (e := .inl (kI E, 3, .inl (fun _ => 0))) T hpn
  rw [e1]
  refine r_astore_n (lo' := [(3, .ref pn), (2, .ref q2), (1, .ref q1), (0, .ref bs)]) dL_law_19 (by decide) rfl ?_
  refine r_bipush (v := nI 6) dL_law_20 (by decide) ?_
  refine r_newI (N := 6) dL_law_22 (by decide +kernel) (by decide) (by decide) (by decide) (Nat.le_of_ble_eq_true rfl) (Nat.le_of_ble_eq_true rfl) (fun ps hps => ?_)
  obtain ⟨T2, e2, n2⟩ := Two.fresh (e := .inl (kI E, 6, .inl (fun _ => 0))) T1 hps
  rw [e2]
  have hne : pn ≠ ps := fun z => by rw [← z, kup_s] at n2; cases n2
  refine r_astore (lo' := [(4, .ref ps), (3, .ref pn), (2, .ref q2), (1, .ref q1), (0, .ref bs)]) dL_law_24 (by decide) rfl ?_
  refine r_bipush (v := nI 40) dL_law_26 (by decide) ?_
  refine r_aload_n dL_law_28 4 rfl ?_
  refine r_iconst (v := nI 0) dL_law_29 (by decide) ?_
  refine r_callSiS hXs (nn := 2) (As := [.ref bs, .int (nI 0)]) (st := [.int (nI 40)]) dL_law_30 (tK_drawn 0 (by omega) (by omega)) gL_law_L_drawn rfl (by decide +kernel) ⟨Nat.le_of_ble_eq_true rfl, Nat.le_of_ble_eq_true rfl⟩ ⟨rfl, rfl⟩ rfl (Nat.le_of_ble_eq_true rfl) ⟨Nat.le_of_ble_eq_true rfl, Nat.le_of_ble_eq_true rfl⟩ rfl (fun r hh hp => ?_)
  obtain ⟨⟨c, hc, hr⟩, hhe3⟩ := hp
  rw [hhe3, hr]
  refine r_bipush (v := nI 31) dL_law_33 (by decide) ?_
  refine r_irem dL_law_35 (by decide) ?_
  rw [nI_mod (a := c) (b := 31) hc (by omega) (by omega)]
  refine r_iadd dL_law_36 ?_
  rw [nI_add 40 (c % 31)]
  refine r_istore (lo' := [(5, .int (nI (40 + c % 31))), (4, .ref ps), (3, .ref pn), (2, .ref q2), (1, .ref q1), (0, .ref bs)]) dL_law_37 (by decide) rfl ?_
  refine r_iconst (v := nI 1) dL_law_39 (by decide) ?_
  refine r_istore (lo' := [(6, .int (nI 1)), (5, .int (nI (40 + c % 31))), (4, .ref ps), (3, .ref pn), (2, .ref q2), (1, .ref q1), (0, .ref bs)]) dL_law_40 (by decide) rfl ?_
  refine r_iconst (v := nI 0) dL_law_42 (by decide) ?_
  refine r_istore (lo' := [(7, .int (nI 0)), (6, .int (nI 1)), (5, .int (nI (40 + c % 31))), (4, .ref ps), (3, .ref pn), (2, .ref q2), (1, .ref q1), (0, .ref bs)]) dL_law_43 (by decide) rfl ?_
  refine r_lo (lo' := [(0, .ref bs), (1, .ref q1), (2, .ref q2), (3, .ref pn), (4, .ref ps), (5, .int (nI (40 + c % 31))), (6, .int (nI 1)), (7, .int (nI 0))]) [7, 6, 5, 4, 3, 2, 1, 0] rfl ?_
  exact law_loop hXs hL kend (by omega) (40 + c % 31 + 1) 0 _ _ _ (by omega) (by omega) (Nat.le_of_ble_eq_true rfl) (Nat.le_of_ble_eq_true rfl) ⟨a, _, b, _, _, dt0, 0, 0, 0, 0, fun _ => 0, fun _ => 0, ha, hb, T2, (kup_n _ _ hne).trans (kup_s _ _ _), kup_s _ _ _, hne, rfl, rfl, rfl, fun k hk => absurd hk (Nat.not_lt_zero _), INV_0, rfl⟩
