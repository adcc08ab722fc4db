/-! the law's calls, on the one desk and on the other -/
section LC
variable {E : kE} {a cap b capb : Nat → Nat} {h0 : kH} {dt dta : kM} {nF nC nE w mF mC mE X pn q : Nat} {fn : Nat → Int32}
theorem tA_act (T : Two E a cap nF nC nE b capb mF mC mE h0) (ha : a 15 = q) (hd : dwf dt nF nC nE w) (hX : X < 2 ^ 31) (hpn : h0 pn = some (.inl (kI E, 3, .inl fn))) (hn_0 : fn 0 = nI nF) (hn_1 : fn 1 = nI nC) (hn_2 : fn 2 = nI nE) : kCi E yL_act wsL_act rmL_act 12 500 [.ref q, .ref pn, .int (nI X)] (dw E a cap nF nC nE dt (dw E b capb mF mC mE dta h0)) (OPost E a (dw E b capb mF mC mE dta h0) (dw E a cap nF nC nE dt (dw E b capb mF mC mE dta h0)) (aRes dt nF nC nE w X)) := by
  subst ha
  exact tK_act T.ga hd hX (dw_at T.2.1 hpn) hn_0 hn_1 hn_2
theorem tB_act (T : Two E b capb mF mC mE a cap nF nC nE h0) (ha : a 15 = q) (hd : dwf dt nF nC nE w) (hX : X < 2 ^ 31) (hpn : h0 pn = some (.inl (kI E, 3, .inl fn))) (hn_0 : fn 0 = nI nF) (hn_1 : fn 1 = nI nC) (hn_2 : fn 2 = nI nE) : kCi E yL_act wsL_act rmL_act 12 500 [.ref q, .ref pn, .int (nI X)] (dw E b capb mF mC mE dta (dw E a cap nF nC nE dt h0)) (OPost E a (dw E b capb mF mC mE dta h0) (dw E a cap nF nC nE dt (dw E b capb mF mC mE dta h0)) (aRes dt nF nC nE w X)) := by
  rw [T.swap]
  exact tA_act T.sym ha hd hX hpn hn_0 hn_1 hn_2
theorem tB_refuses (T : Two E b capb mF mC mE a cap nF nC nE h0) (ha : a 15 = q) (hd : dwf dt nF nC nE w) (hX : X < 100000) (hpn : h0 pn = some (.inl (kI E, 3, .inl fn))) (hn_0 : fn 0 = nI nF) (hn_1 : fn 1 = nI nC) (hn_2 : fn 2 = nI nE) : kCi E yL_refuses wsL_refuses rmL_refuses 600 12000 [.ref q, .ref pn, .int (nI X)] (dw E b capb mF mC mE dta (dw E a cap nF nC nE dt h0)) (fun r h' => r = 1 ∧ h' = dw E b capb mF mC mE dta (dw E a cap nF nC nE dt h0)) := by
  subst ha
  rw [T.swap]
  exact tK_refuses T.sym.ga hd hX (dw_at T.1 hpn) hn_0 hn_1 hn_2
theorem DkA (T : Two E a cap nF nC nE b capb mF mC mE h0) (ha : a 15 = q) (hd : dwf dt nF nC nE w) : Dk E q dt nF nC nE w (dw E a cap nF nC nE dt (dw E b capb mF mC mE dta h0)) := ⟨a, cap, _, ha, T.ga, hd, rfl⟩
theorem DkB (T : Two E b capb mF mC mE a cap nF nC nE h0) (ha : a 15 = q) (hd : dwf dt nF nC nE w) : Dk E q dt nF nC nE w (dw E b capb mF mC mE dta (dw E a cap nF nC nE dt h0)) := by
  rw [T.swap]
  exact DkA T.sym ha hd
end LC
/-- the law's state between two steps -/
def LSt (E : kE) (q1 q2 pn ps : Nat) (H : kH) : Prop := ∃ (a cap b capb : Nat → Nat) (h0 : kH) (dt : kM) (nF nC nE w : Nat) (fn fs : Nat → Int32), a 15 = q1 ∧ b 15 = q2 ∧ Two E a cap nF nC nE b capb nF nC nE h0 ∧ h0 pn = some (.inl (kI E, 3, .inl fn)) ∧ h0 ps = some (.inl (kI E, 6, .inl fs)) ∧ pn ≠ ps ∧ fn 0 = nI nF ∧ fn 1 = nI nC ∧ fn 2 = nI nE ∧ (∀ k, k < nC → fs k = dt 11 k) ∧ INV dt nF nC nE w ∧ H = dw E a cap nF nC nE dt (dw E b capb nF nC nE dt h0)
set_option maxHeartbeats 8000000 in
set_option maxRecDepth 100000 in
theorem lw_385 {E : kE} {X9 : kX} {bs L : Nat} {xs : Nat → Int32} {q1 q2 pn ps T0 j : Nat} {a cap b capb : Nat → Nat} {h0 : kH} {dt : kM} {nF nC nE w : Nat} {fn fs : Nat → Int32} (hXs : kScr X9 bs L xs) (hL : L ≤ 260) (kend : ∀ (k n : Nat) (h : kH) (lo : List (Nat × Value)), k ≤ 640345 → n ≤ 7180433 → V E X9 room_1 cL_law 12 wsL_law RL k n h lo 448 [.int (nI 1)]) (ha : a 15 = q1) (hb : b 15 = q2) (T : Two E a cap nF nC nE b capb nF nC nE h0) (hpn : h0 pn = some (.inl (kI E, 3, .inl fn))) (hps : h0 ps = some (.inl (kI E, 6, .inl fs))) (hne : pn ≠ ps) (I : INV dt nF nC nE w) (hn_0 : fn 0 = nI nF) (hn_1 : fn 1 = nI nC) (hn_2 : fn 2 = nI nE) (hfs : ∀ k, k < nC → fs k = dt 11 k) (hT : T0 ≤ 70) (hj : j ≤ T0) {k n : Nat} (hk : k ≤ 40 + 1284 * j + 16000 * ((j + 4) / 5) + 0) (hn : n ≤ 20000 + 25360 * j + 96000 * ((j + 4) / 5) + 0) : V E X9 room_1 cL_law 12 wsL_law RL k n (dw E a cap nF nC nE dt (dw E b capb nF nC nE dt h0)) [(0, .ref bs), (1, .ref q1), (2, .ref q2), (3, .ref pn), (4, .ref ps), (5, .int (nI T0)), (6, .int (nI 1)), (7, .int (nI j))] 385 [] := by
  obtain ⟨hF, hF20, hC, hC6, hE, hE80, hW, hW3, hpl, hof, hsp⟩ := id I.dv
  refine r_iload dL_law_385 6 rfl ?_
  refine r_if_eq (tgt := 447) dL_law_387 (by decide) (fun c9 => absurd c9 (by decide)) (fun _ => ?_)
  refine r_aload_n dL_law_390 1 rfl ?_
  refine r_aload_n dL_law_391 3 rfl ?_
  refine r_aload dL_law_392 4 rfl ?_
  refine r_aload_n dL_law_394 0 rfl ?_
  refine r_iconst (v := nI 0) dL_law_395 (by decide) ?_
  refine r_callSiS (nn := 2) (As := [.ref bs, .int (nI 0)]) (st := [.ref ps, .ref pn, .ref q1]) hXs dL_law_396 (tK_drawn 0 (by omega) (by omega)) gL_law_L_drawn rfl (by decide +kernel) ⟨Nat.le_of_ble_eq_true rfl, Nat.le_of_ble_eq_true rfl⟩ ⟨rfl, rfl⟩ rfl (Nat.le_of_ble_eq_true rfl) ⟨by show _ ≤ 640345; omega, by show _ ≤ 7180433; omega⟩ rfl (fun r hh hp => ?_)
  obtain ⟨⟨R1, hR1, hr⟩, hhe⟩ := hp
  rw [hhe, hr]
  refine r_bipush (v := nI 29) dL_law_399 (by decide) ?_
  refine r_idiv dL_law_401 (by decide) ?_
  rw [nI_div (a := R1) (b := 29) (by omega) (by omega) (by omega)]
  refine r_callSi (nn := 4) (As := [.ref q1, .ref pn, .ref ps, .int (nI (R1 / 29))]) (st := []) dL_law_402 (tK_isWhole (X := R1 / 29) (DkA T ha I.dv) (by omega) (dw_at T.ga (dw_at T.2.1 hpn)) hn_0 hn_1 (dw_at T.ga (dw_at T.2.1 hps)) hfs I.wh) gL_law_L_isWhole rfl (by decide +kernel) ⟨Nat.le_of_ble_eq_true rfl, Nat.le_of_ble_eq_true rfl⟩ ⟨rfl, rfl⟩ rfl (Nat.le_of_ble_eq_true rfl) ⟨by show _ ≤ 640345; omega, by show _ ≤ 7180433; omega⟩ rfl (fun r hh hp => ?_)
  obtain ⟨hr, hhe⟩ := hp
  rw [hhe, hr]
  refine r_if_eq (tgt := 447) dL_law_405 (by decide) (fun c9 => absurd c9 (by decide)) (fun _ => ?_)
  refine r_aload_n dL_law_408 2 rfl ?_
  refine r_aload_n dL_law_409 3 rfl ?_
  refine r_aload dL_law_410 4 rfl ?_
  refine r_aload_n dL_law_412 0 rfl ?_
  refine r_iconst (v := nI 0) dL_law_413 (by decide) ?_
  refine r_callSiS (nn := 2) (As := [.ref bs, .int (nI 0)]) (st := [.ref ps, .ref pn, .ref q2]) hXs dL_law_414 (tK_drawn 0 (by omega) (by omega)) gL_law_L_drawn rfl (by decide +kernel) ⟨Nat.le_of_ble_eq_true rfl, Nat.le_of_ble_eq_true rfl⟩ ⟨rfl, rfl⟩ rfl (Nat.le_of_ble_eq_true rfl) ⟨by show _ ≤ 640345; omega, by show _ ≤ 7180433; omega⟩ rfl (fun r hh hp => ?_)
  obtain ⟨⟨R2, hR2, hr⟩, hhe⟩ := hp
  rw [hhe, hr]
  refine r_bipush (v := nI 31) dL_law_417 (by decide) ?_
  refine r_idiv dL_law_419 (by decide) ?_
  rw [nI_div (a := R2) (b := 31) (by omega) (by omega) (by omega)]
  refine r_callSi (nn := 4) (As := [.ref q2, .ref pn, .ref ps, .int (nI (R2 / 31))]) (st := []) dL_law_420 (tK_isWhole (X := R2 / 31) (DkB T hb I.dv) (by omega) (dw_at T.ga (dw_at T.2.1 hpn)) hn_0 hn_1 (dw_at T.ga (dw_at T.2.1 hps)) hfs I.wh) gL_law_L_isWhole rfl (by decide +kernel) ⟨Nat.le_of_ble_eq_true rfl, Nat.le_of_ble_eq_true rfl⟩ ⟨rfl, rfl⟩ rfl (Nat.le_of_ble_eq_true rfl) ⟨by show _ ≤ 640345; omega, by show _ ≤ 7180433; omega⟩ rfl (fun r hh hp => ?_)
  obtain ⟨hr, hhe⟩ := hp
  rw [hhe, hr]
  refine r_if_eq (tgt := 447) dL_law_423 (by decide) (fun c9 => absurd c9 (by decide)) (fun _ => ?_)
  refine r_aload_n dL_law_426 1 rfl ?_
  refine r_aload_n dL_law_427 2 rfl ?_
  refine r_aload_n dL_law_428 3 rfl ?_
  refine r_aload_n dL_law_429 0 rfl ?_
  refine r_iconst (v := nI 0) dL_law_430 (by decide) ?_
  refine r_callSiS (nn := 2) (As := [.ref bs, .int (nI 0)]) (st := [.ref pn, .ref q2, .ref q1]) hXs dL_law_431 (tK_drawn 0 (by omega) (by omega)) gL_law_L_drawn rfl (by decide +kernel) ⟨Nat.le_of_ble_eq_true rfl, Nat.le_of_ble_eq_true rfl⟩ ⟨rfl, rfl⟩ rfl (Nat.le_of_ble_eq_true rfl) ⟨by show _ ≤ 640345; omega, by show _ ≤ 7180433; omega⟩ rfl (fun r hh hp => ?_)
  obtain ⟨⟨R3, hR3, hr⟩, hhe⟩ := hp
  rw [hhe, hr]
  refine r_bipush (v := nI 37) dL_law_434 (by decide) ?_
  refine r_idiv dL_law_436 (by decide) ?_
  rw [nI_div (a := R3) (b := 37) (by omega) (by omega) (by omega)]
  refine r_callSi (nn := 4) (As := [.ref q1, .ref q2, .ref pn, .int (nI (R3 / 37))]) (st := []) dL_law_437 (tK_isAlike (X := R3 / 37) (DkA T ha I.dv) (DkB T hb I.dv) (by omega) (dw_at T.ga (dw_at T.2.1 hpn)) hn_0 hn_1) gL_law_L_isAlike rfl (by decide +kernel) ⟨Nat.le_of_ble_eq_true rfl, Nat.le_of_ble_eq_true rfl⟩ ⟨rfl, rfl⟩ rfl (Nat.le_of_ble_eq_true rfl) ⟨by show _ ≤ 640345; omega, by show _ ≤ 7180433; omega⟩ rfl (fun r hh hp => ?_)
  obtain ⟨hr, hhe⟩ := hp
  rw [hhe, hr]
  refine r_if_eq (tgt := 447) dL_law_440 (by decide) (fun c9 => absurd c9 (by decide)) (fun _ => ?_)
  refine r_iconst (v := nI 1) dL_law_443 (by decide) ?_
  refine r_goto (tgt := 448) dL_law_444 (by decide) ?_
  exact kend _ _ _ _ (by omega) (by omega)

set_option maxHeartbeats 8000000 in
set_option maxRecDepth 100000 in
theorem lw_319 {E : kE} {X9 : kX} {bs L : Nat} {xs : Nat → Int32} {q1 q2 pn ps T0 j : Nat} {a cap b capb : Nat → Nat} {h0 : kH} {dt : kM} {nF nC nE w : Nat} {fn fs : Nat → Int32} {X : Nat} (hXs : kScr X9 bs L xs) (hL : L ≤ 260) (kk : ∀ (k n : Nat) (H : kH), k ≤ 40 + 1284 * (j + 1) + 16000 * (((j + 1) + 4) / 5) → n ≤ 20000 + 25360 * (j + 1) + 96000 * (((j + 1) + 4) / 5) → LSt E q1 q2 pn ps H → V E X9 room_1 cL_law 12 wsL_law RL k n (H) [(0, .ref bs), (1, .ref q1), (2, .ref q2), (3, .ref pn), (4, .ref ps), (5, .int (nI T0)), (6, .int (nI 1)), (7, .int (nI (j + 1)))] 45 []) (ha : a 15 = q1) (hb : b 15 = q2) (T : Two E a cap nF nC nE b capb nF nC nE h0) (hpn : h0 pn = some (.inl (kI E, 3, .inl fn))) (hps : h0 ps = some (.inl (kI E, 6, .inl fs))) (hne : pn ≠ ps) (I : INV dt nF nC nE w) (hX : X < 2 ^ 31) (hn_0 : fn 0 = nI nF) (hn_1 : fn 1 = nI nC) (hn_2 : fn 2 = nI nE) (hfs : ∀ k, k < nC → fs k = dt 11 k) (hj : j < 70) {k n : Nat} (hk : k ≤ 40 + 1284 * j + 16000 * ((j + 4) / 5) + 624) (hn : n ≤ 20000 + 25360 * j + 96000 * ((j + 4) / 5) + 13000) : V E X9 room_1 cL_law 12 wsL_law RL k n (dw E a cap nF nC nE dt (dw E b capb nF nC nE dt h0)) [(0, .ref bs), (1, .ref q1), (2, .ref q2), (3, .ref pn), (4, .ref ps), (5, .int (nI T0)), (6, .int (nI 1)), (7, .int (nI j)), (8, .int (nI X))] 319 [] := by
  obtain ⟨hF, hF20, hC, hC6, hE, hE80, hW, hW3, hpl, hof, hsp⟩ := id I.dv
  refine r_iload dL_law_319 6 rfl ?_
  refine r_if_eq (tgt := 376) dL_law_321 (by decide) (fun c9 => absurd c9 (by decide)) (fun _ => ?_)
  refine r_aload_n dL_law_324 2 rfl ?_
  refine r_aload_n dL_law_325 3 rfl ?_
  refine r_iload dL_law_326 8 rfl ?_
  refine r_sipush (v := nI 499) dL_law_328 (by decide) ?_
  refine r_irem dL_law_331 (by decide) ?_
  rw [nI_mod (a := X) (b := 499) (by omega) (by omega) (by omega)]
  refine r_callSi (nn := 3) (As := [.ref q2, .ref pn, .int (nI (X % 499))]) (st := []) dL_law_332 (tB_refuses (X := X % 499) T hb I.dv (by have := Nat.mod_lt X (show 0 < 499 by omega); omega) hpn hn_0 hn_1 hn_2) gL_law_L_refuses rfl (by decide +kernel) ⟨Nat.le_of_ble_eq_true rfl, Nat.le_of_ble_eq_true rfl⟩ ⟨rfl, rfl⟩ rfl (Nat.le_of_ble_eq_true rfl) ⟨by show _ ≤ 640345; omega, by show _ ≤ 7180433; omega⟩ rfl (fun r hh hp => ?_)
  obtain ⟨hr, hhe⟩ := hp
  rw [hhe, hr]
  refine r_if_eq (tgt := 376) dL_law_335 (by decide) (fun c9 => absurd c9 (by decide)) (fun _ => ?_)
  refine r_aload_n dL_law_338 1 rfl ?_
  refine r_aload_n dL_law_339 2 rfl ?_
  refine r_aload_n dL_law_340 3 rfl ?_
  refine r_iload dL_law_341 8 rfl ?_
  refine r_iconst (v := nI 3) dL_law_343 (by decide) ?_
  refine r_idiv dL_law_344 (by decide) ?_
  rw [nI_div (a := X) (b := 3) (by omega) (by omega) (by omega)]
  refine r_callSi (nn := 4) (As := [.ref q1, .ref q2, .ref pn, .int (nI (X / 3))]) (st := []) dL_law_345 (tK_isAlike (X := X / 3) (DkA T ha I.dv) (DkB T hb I.dv) (by omega) (dw_at T.ga (dw_at T.2.1 hpn)) hn_0 hn_1) gL_law_L_isAlike rfl (by decide +kernel) ⟨Nat.le_of_ble_eq_true rfl, Nat.le_of_ble_eq_true rfl⟩ ⟨rfl, rfl⟩ rfl (Nat.le_of_ble_eq_true rfl) ⟨by show _ ≤ 640345; omega, by show _ ≤ 7180433; omega⟩ rfl (fun r hh hp => ?_)
  obtain ⟨hr, hhe⟩ := hp
  rw [hhe, hr]
  refine r_if_eq (tgt := 376) dL_law_348 (by decide) (fun c9 => absurd c9 (by decide)) (fun _ => ?_)
  refine r_iload dL_law_351 7 rfl ?_
  refine r_iconst (v := nI 5) dL_law_353 (by decide) ?_
  refine r_irem dL_law_354 (by decide) ?_
  rw [nI_mod (a := j) (b := 5) (by omega) (by omega) (by omega)]
  refine r_if_gt (tgt := 372) dL_law_355 (by decide) (fun c6 => ?_) (fun c6 => ?_)
  · skip
    have h5 : 0 < j % 5 := (nI_ltI (a := 0) (b := j % 5) (by decide) (by omega)).mp c6
    refine r_iconst (v := nI 1) dL_law_372 (by decide) ?_
    refine r_goto (tgt := 377) dL_law_373 (by decide) ?_
    refine r_istore (lo' := [(6, .int (nI 1)), (0, .ref bs), (1, .ref q1), (2, .ref q2), (3, .ref pn), (4, .ref ps), (5, .int (nI T0)), (7, .int (nI j)), (8, .int (nI X))]) dL_law_377 (by decide) rfl ?_
    refine r_iinc (v := nI (j + 1)) (lo' := [(7, .int (nI (j + 1))), (6, .int (nI 1)), (0, .ref bs), (1, .ref q1), (2, .ref q2), (3, .ref pn), (4, .ref ps), (5, .int (nI T0)), (8, .int (nI X))]) dL_law_379 7 rfl (nI_1 j) (by decide) rfl ?_
    refine r_goto (tgt := 45) dL_law_382 (by decide) ?_
    refine r_lo (lo' := [(0, .ref bs), (1, .ref q1), (2, .ref q2), (3, .ref pn), (4, .ref ps), (5, .int (nI T0)), (6, .int (nI 1)), (7, .int (nI (j + 1)))]) [2, 3, 4, 5, 6, 7, 1, 0] rfl ?_
    exact kk _ _ _ (by omega) (by omega) ⟨a, cap, b, capb, h0, dt, nF, nC, nE, w, fn, fs, ha, hb, T, hpn, hps, hne, hn_0, hn_1, hn_2, hfs, I, rfl⟩
  · skip
    have h5 : ¬ 0 < j % 5 := fun z => c6 ((nI_ltI (a := 0) (b := j % 5) (by decide) (by omega)).mpr z)
    refine r_aload_n dL_law_358 2 rfl ?_
    refine r_aload_n dL_law_359 3 rfl ?_
    refine r_aload dL_law_360 4 rfl ?_
    refine r_iload dL_law_362 8 rfl ?_
    refine r_iconst (v := nI 5) dL_law_364 (by decide) ?_
    refine r_idiv dL_law_365 (by decide) ?_
    rw [nI_div (a := X) (b := 5) (by omega) (by omega) (by omega)]
    refine r_callSi (nn := 4) (As := [.ref q2, .ref pn, .ref ps, .int (nI (X / 5))]) (st := []) dL_law_366 (tK_isWhole (X := X / 5) (DkB T hb I.dv) (by omega) (dw_at T.ga (dw_at T.2.1 hpn)) hn_0 hn_1 (dw_at T.ga (dw_at T.2.1 hps)) hfs I.wh) gL_law_L_isWhole rfl (by decide +kernel) ⟨Nat.le_of_ble_eq_true rfl, Nat.le_of_ble_eq_true rfl⟩ ⟨rfl, rfl⟩ rfl (Nat.le_of_ble_eq_true rfl) ⟨by show _ ≤ 640345; omega, by show _ ≤ 7180433; omega⟩ rfl (fun r hh hp => ?_)
    obtain ⟨hr, hhe⟩ := hp
    rw [hhe, hr]
    refine r_if_eq (tgt := 376) dL_law_369 (by decide) (fun c9 => absurd c9 (by decide)) (fun _ => ?_)
    refine r_iconst (v := nI 1) dL_law_372 (by decide) ?_
    refine r_goto (tgt := 377) dL_law_373 (by decide) ?_
    refine r_istore (lo' := [(6, .int (nI 1)), (0, .ref bs), (1, .ref q1), (2, .ref q2), (3, .ref pn), (4, .ref ps), (5, .int (nI T0)), (7, .int (nI j)), (8, .int (nI X))]) dL_law_377 (by decide) rfl ?_
    refine r_iinc (v := nI (j + 1)) (lo' := [(7, .int (nI (j + 1))), (6, .int (nI 1)), (0, .ref bs), (1, .ref q1), (2, .ref q2), (3, .ref pn), (4, .ref ps), (5, .int (nI T0)), (8, .int (nI X))]) dL_law_379 7 rfl (nI_1 j) (by decide) rfl ?_
    refine r_goto (tgt := 45) dL_law_382 (by decide) ?_
    refine r_lo (lo' := [(0, .ref bs), (1, .ref q1), (2, .ref q2), (3, .ref pn), (4, .ref ps), (5, .int (nI T0)), (6, .int (nI 1)), (7, .int (nI (j + 1)))]) [2, 3, 4, 5, 6, 7, 1, 0] rfl ?_
    exact kk _ _ _ (by omega) (by omega) ⟨a, cap, b, capb, h0, dt, nF, nC, nE, w, fn, fs, ha, hb, T, hpn, hps, hne, hn_0, hn_1, hn_2, hfs, I, rfl⟩

set_option maxHeartbeats 8000000 in
set_option maxRecDepth 100000 in
theorem lw_289_y {E : kE} {X9 : kX} {bs L : Nat} {xs : Nat → Int32} {q1 q2 pn ps T0 j : Nat} {a cap b capb : Nat → Nat} {h0 : kH} {dt : kM} {nF nC nE w : Nat} {fn fs : Nat → Int32} {X : Nat} {mF mC mE : Nat} {dn : Int32} (hXs : kScr X9 bs L xs) (hL : L ≤ 260) (kk : ∀ (k n : Nat) (H : kH), k ≤ 40 + 1284 * (j + 1) + 16000 * (((j + 1) + 4) / 5) → n ≤ 20000 + 25360 * (j + 1) + 96000 * (((j + 1) + 4) / 5) → LSt E q1 q2 pn ps H → V E X9 room_1 cL_law 12 wsL_law RL k n (H) [(0, .ref bs), (1, .ref q1), (2, .ref q2), (3, .ref pn), (4, .ref ps), (5, .int (nI T0)), (6, .int (nI 1)), (7, .int (nI (j + 1)))] 45 []) (ha : a 15 = q1) (hb : b 15 = q2) (T : Two E a cap nF nC nE b capb nF nC nE h0) (hpn : h0 pn = some (.inl (kI E, 3, .inl fn))) (hps : h0 ps = some (.inl (kI E, 6, .inl fs))) (hne : pn ≠ ps) (I : INV dt nF nC nE w) (hX : X < 2 ^ 31) (hu0 : nF = mF + (if (X % 20 < 2 ∨ X % 20 = 3) ∧ ¬ dn < 0 then 1 else 0)) (hu1 : nC = mC + (if X % 20 = 4 ∧ ¬ dn < 0 then 1 else 0)) (hu2 : nE = mE + (if (9 ≤ X % 20 ∧ X % 20 ≤ 11) ∧ ¬ dn < 0 then 1 else 0)) (hdn : ¬ dn < 0) (hn_0 : fn 0 = nI nF) (hn_1 : fn 1 = nI nC) (hn_2 : fn 2 = nI mE) (hfs : ∀ k, k < nC → fs k = dt 11 k) (hj : j < 70) {k n : Nat} (hk : k ≤ 40 + 1284 * j + 16000 * ((j + 4) / 5) + 624) (hn : n ≤ 20000 + 25360 * j + 96000 * ((j + 4) / 5) + 13000) : V E X9 room_1 cL_law 12 wsL_law RL k n (dw E a cap nF nC nE dt (dw E b capb nF nC nE dt h0)) [(0, .ref bs), (1, .ref q1), (2, .ref q2), (3, .ref pn), (4, .ref ps), (5, .int (nI T0)), (6, .int (nI 1)), (7, .int (nI j)), (8, .int (nI X)), (10, .int (nI (X % 20))), (11, .int (nI 1))] 289 [] := by
  obtain ⟨hF, hF20, hC, hC6, hE, hE80, hW, hW3, hpl, hof, hsp⟩ := id I.dv
  refine r_aload_n dL_law_289 3 rfl ?_
  refine r_iconst (v := nI 2) dL_law_290 (by decide) ?_
  refine r_dup2 dL_law_291 rfl rfl ?_
  refine r_iald dL_law_292 (dw_at T.ga (dw_at T.2.1 hpn)) (vp_in_nI (by decide) (by decide)) ?_
  rw [show fn (nI 2).toNatClampNeg = nI mE from hn_2]
  refine r_iload dL_law_293 9 rfl ?_
  refine r_bipush (v := nI 9) dL_law_295 (by decide) ?_
  refine r_icmp_lt (tgt := 316) dL_law_297 (by decide) (fun c6 => ?_) (fun c6 => ?_)
  · skip
    have h9 : ¬ 9 ≤ X % 20 := fun z => absurd ((nI_ltI (by omega) (by omega)).mp c6) (by omega)
    refine r_iconst (v := nI 0) dL_law_316 (by decide) ?_
    refine r_iadd dL_law_317 ?_
    rw [nI_add mE 0]
    have e7 : mE + 0 = nE := by rw [hu2, if_neg (fun z => h9 z.1.1)]
    rw [e7]
    refine r_iast dL_law_318 (dw_at T.ga (dw_at T.2.1 hpn)) (vp_in_nI (by decide) (by decide)) ?_
    rw [dw_kup T.ga (by rw [dw_at T.2.1 hpn]; simp), dw_kup T.2.1 (by rw [hpn]; simp)]
    refine r_lo (lo' := [(0, .ref bs), (1, .ref q1), (2, .ref q2), (3, .ref pn), (4, .ref ps), (5, .int (nI T0)), (6, .int (nI 1)), (7, .int (nI j)), (8, .int (nI X))]) [0, 1, 2, 3, 4, 5, 6, 7, 8] rfl ?_
    exact lw_319 hXs hL kk ha hb (T.up (by rw [hpn]; simp)) (kup_s _ _ _) ((kup_n _ _ hne.symm).trans hps) hne I hX ((upd_n _ _ (by decide)).trans hn_0) ((upd_n _ _ (by decide)).trans hn_1) (upd_s _ _ _) hfs hj (by omega) (by omega)
  · skip
    have h9 : 9 ≤ X % 20 := Nat.le_of_not_lt (fun z => c6 ((nI_ltI (by omega) (by omega)).mpr z))
    refine r_iload dL_law_300 9 rfl ?_
    refine r_bipush (v := nI 11) dL_law_302 (by decide) ?_
    refine r_icmp_gt (tgt := 316) dL_law_304 (by decide) (fun c7 => ?_) (fun c7 => ?_)
    · skip
      have h11 : ¬ X % 20 ≤ 11 := fun z => absurd ((nI_ltI (by omega) (by omega)).mp c7) (by omega)
      refine r_iconst (v := nI 0) dL_law_316 (by decide) ?_
      refine r_iadd dL_law_317 ?_
      rw [nI_add mE 0]
      have e7 : mE + 0 = nE := by rw [hu2, if_neg (fun z => h11 z.1.2)]
      rw [e7]
      refine r_iast dL_law_318 (dw_at T.ga (dw_at T.2.1 hpn)) (vp_in_nI (by decide) (by decide)) ?_
      rw [dw_kup T.ga (by rw [dw_at T.2.1 hpn]; simp), dw_kup T.2.1 (by rw [hpn]; simp)]
      refine r_lo (lo' := [(0, .ref bs), (1, .ref q1), (2, .ref q2), (3, .ref pn), (4, .ref ps), (5, .int (nI T0)), (6, .int (nI 1)), (7, .int (nI j)), (8, .int (nI X))]) [0, 1, 2, 3, 4, 5, 6, 7, 8] rfl ?_
      exact lw_319 hXs hL kk ha hb (T.up (by rw [hpn]; simp)) (kup_s _ _ _) ((kup_n _ _ hne.symm).trans hps) hne I hX ((upd_n _ _ (by decide)).trans hn_0) ((upd_n _ _ (by decide)).trans hn_1) (upd_s _ _ _) hfs hj (by omega) (by omega)
    · skip
      have h11 : X % 20 ≤ 11 := Nat.le_of_not_lt (fun z => c7 ((nI_ltI (by omega) (by omega)).mpr z))
      refine r_iload dL_law_307 10 rfl ?_
      refine r_if_eq (tgt := 316) dL_law_309 (by decide) (fun c9 => absurd c9 (by decide)) (fun _ => ?_)
      refine r_iconst (v := nI 1) dL_law_312 (by decide) ?_
      refine r_goto (tgt := 317) dL_law_313 (by decide) ?_
      refine r_iadd dL_law_317 ?_
      rw [nI_add mE 1]
      have e7 : mE + 1 = nE := by rw [hu2, if_pos ⟨⟨h9, h11⟩, hdn⟩]
      rw [e7]
      refine r_iast dL_law_318 (dw_at T.ga (dw_at T.2.1 hpn)) (vp_in_nI (by decide) (by decide)) ?_
      rw [dw_kup T.ga (by rw [dw_at T.2.1 hpn]; simp), dw_kup T.2.1 (by rw [hpn]; simp)]
      refine r_lo (lo' := [(0, .ref bs), (1, .ref q1), (2, .ref q2), (3, .ref pn), (4, .ref ps), (5, .int (nI T0)), (6, .int (nI 1)), (7, .int (nI j)), (8, .int (nI X))]) [0, 1, 2, 3, 4, 5, 6, 7, 8] rfl ?_
      exact lw_319 hXs hL kk ha hb (T.up (by rw [hpn]; simp)) (kup_s _ _ _) ((kup_n _ _ hne.symm).trans hps) hne I hX ((upd_n _ _ (by decide)).trans hn_0) ((upd_n _ _ (by decide)).trans hn_1) (upd_s _ _ _) hfs hj (by omega) (by omega)

set_option maxHeartbeats 8000000 in
set_option maxRecDepth 100000 in
theorem lw_267_y {E : kE} {X9 : kX} {bs L : Nat} {xs : Nat → Int32} {q1 q2 pn ps T0 j : Nat} {a cap b capb : Nat → Nat} {h0 : kH} {dt : kM} {nF nC nE w : Nat} {fn fs : Nat → Int32} {X : Nat} {mF mC mE : Nat} {dn : Int32} (hXs : kScr X9 bs L xs) (hL : L ≤ 260) (kk : ∀ (k n : Nat) (H : kH), k ≤ 40 + 1284 * (j + 1) + 16000 * (((j + 1) + 4) / 5) → n ≤ 20000 + 25360 * (j + 1) + 96000 * (((j + 1) + 4) / 5) → LSt E q1 q2 pn ps H → V E X9 room_1 cL_law 12 wsL_law RL k n (H) [(0, .ref bs), (1, .ref q1), (2, .ref q2), (3, .ref pn), (4, .ref ps), (5, .int (nI T0)), (6, .int (nI 1)), (7, .int (nI (j + 1)))] 45 []) (ha : a 15 = q1) (hb : b 15 = q2) (T : Two E a cap nF nC nE b capb nF nC nE h0) (hpn : h0 pn = some (.inl (kI E, 3, .inl fn))) (hps : h0 ps = some (.inl (kI E, 6, .inl fs))) (hne : pn ≠ ps) (I : INV dt nF nC nE w) (hX : X < 2 ^ 31) (hu0 : nF = mF + (if (X % 20 < 2 ∨ X % 20 = 3) ∧ ¬ dn < 0 then 1 else 0)) (hu1 : nC = mC + (if X % 20 = 4 ∧ ¬ dn < 0 then 1 else 0)) (hu2 : nE = mE + (if (9 ≤ X % 20 ∧ X % 20 ≤ 11) ∧ ¬ dn < 0 then 1 else 0)) (hdn : ¬ dn < 0) (hn_0 : fn 0 = nI nF) (hn_1 : fn 1 = nI mC) (hn_2 : fn 2 = nI mE) (hfs : ∀ k, k < nC → fs k = dt 11 k) (hj : j < 70) {k n : Nat} (hk : k ≤ 40 + 1284 * j + 16000 * ((j + 4) / 5) + 624) (hn : n ≤ 20000 + 25360 * j + 96000 * ((j + 4) / 5) + 13000) : V E X9 room_1 cL_law 12 wsL_law RL k n (dw E a cap nF nC nE dt (dw E b capb nF nC nE dt h0)) [(0, .ref bs), (1, .ref q1), (2, .ref q2), (3, .ref pn), (4, .ref ps), (5, .int (nI T0)), (6, .int (nI 1)), (7, .int (nI j)), (8, .int (nI X)), (10, .int (nI (X % 20))), (11, .int (nI 1))] 267 [] := by
  obtain ⟨hF, hF20, hC, hC6, hE, hE80, hW, hW3, hpl, hof, hsp⟩ := id I.dv
  refine r_aload_n dL_law_267 3 rfl ?_
  refine r_iconst (v := nI 1) dL_law_268 (by decide) ?_
  refine r_dup2 dL_law_269 rfl rfl ?_
  refine r_iald dL_law_270 (dw_at T.ga (dw_at T.2.1 hpn)) (vp_in_nI (by decide) (by decide)) ?_
  rw [show fn (nI 1).toNatClampNeg = nI mC from hn_1]
  refine r_iload dL_law_271 9 rfl ?_
  refine r_iconst (v := nI 4) dL_law_273 (by decide) ?_
  refine r_icmp_ne (tgt := 286) dL_law_274 (by decide) (fun c6 => ?_) (fun c6 => ?_)
  · skip
    have h4 : ¬ X % 20 = 4 := fun z => c6 (by rw [z])
    refine r_iconst (v := nI 0) dL_law_286 (by decide) ?_
    refine r_iadd dL_law_287 ?_
    rw [nI_add mC 0]
    have e7 : mC + 0 = nC := by rw [hu1, if_neg (fun z => h4 z.1)]
    rw [e7]
    refine r_iast dL_law_288 (dw_at T.ga (dw_at T.2.1 hpn)) (vp_in_nI (by decide) (by decide)) ?_
    rw [dw_kup T.ga (by rw [dw_at T.2.1 hpn]; simp), dw_kup T.2.1 (by rw [hpn]; simp)]
    refine r_lo (lo' := [(0, .ref bs), (1, .ref q1), (2, .ref q2), (3, .ref pn), (4, .ref ps), (5, .int (nI T0)), (6, .int (nI 1)), (7, .int (nI j)), (8, .int (nI X)), (10, .int (nI (X % 20))), (11, .int (nI 1))]) [0, 1, 2, 3, 4, 5, 6, 7, 8, 9, 10] rfl ?_
    exact lw_289_y hXs hL kk ha hb (T.up (by rw [hpn]; simp)) (kup_s _ _ _) ((kup_n _ _ hne.symm).trans hps) hne I hX hu0 hu1 hu2 hdn ((upd_n _ _ (by decide)).trans hn_0) (upd_s _ _ _) ((upd_n _ _ (by decide)).trans hn_2) hfs hj (by omega) (by omega)
  · skip
    have h4 : X % 20 = 4 := (nI_eq (by omega) (by omega)).mp c6
    refine r_iload dL_law_277 10 rfl ?_
    refine r_if_eq (tgt := 286) dL_law_279 (by decide) (fun c9 => absurd c9 (by decide)) (fun _ => ?_)
    refine r_iconst (v := nI 1) dL_law_282 (by decide) ?_
    refine r_goto (tgt := 287) dL_law_283 (by decide) ?_
    refine r_iadd dL_law_287 ?_
    rw [nI_add mC 1]
    have e7 : mC + 1 = nC := by rw [hu1, if_pos ⟨h4, hdn⟩]
    rw [e7]
    refine r_iast dL_law_288 (dw_at T.ga (dw_at T.2.1 hpn)) (vp_in_nI (by decide) (by decide)) ?_
    rw [dw_kup T.ga (by rw [dw_at T.2.1 hpn]; simp), dw_kup T.2.1 (by rw [hpn]; simp)]
    refine r_lo (lo' := [(0, .ref bs), (1, .ref q1), (2, .ref q2), (3, .ref pn), (4, .ref ps), (5, .int (nI T0)), (6, .int (nI 1)), (7, .int (nI j)), (8, .int (nI X)), (10, .int (nI (X % 20))), (11, .int (nI 1))]) [0, 1, 2, 3, 4, 5, 6, 7, 8, 9, 10] rfl ?_
    exact lw_289_y hXs hL kk ha hb (T.up (by rw [hpn]; simp)) (kup_s _ _ _) ((kup_n _ _ hne.symm).trans hps) hne I hX hu0 hu1 hu2 hdn ((upd_n _ _ (by decide)).trans hn_0) (upd_s _ _ _) ((upd_n _ _ (by decide)).trans hn_2) hfs hj (by omega) (by omega)

set_option maxHeartbeats 8000000 in
set_option maxRecDepth 100000 in
theorem lw_239_y {E : kE} {X9 : kX} {bs L : Nat} {xs : Nat → Int32} {q1 q2 pn ps T0 j : Nat} {a cap b capb : Nat → Nat} {h0 : kH} {dt : kM} {nF nC nE w : Nat} {fn fs : Nat → Int32} {X : Nat} {mF mC mE : Nat} {dn : Int32} (hXs : kScr X9 bs L xs) (hL : L ≤ 260) (kk : ∀ (k n : Nat) (H : kH), k ≤ 40 + 1284 * (j + 1) + 16000 * (((j + 1) + 4) / 5) → n ≤ 20000 + 25360 * (j + 1) + 96000 * (((j + 1) + 4) / 5) → LSt E q1 q2 pn ps H → V E X9 room_1 cL_law 12 wsL_law RL k n (H) [(0, .ref bs), (1, .ref q1), (2, .ref q2), (3, .ref pn), (4, .ref ps), (5, .int (nI T0)), (6, .int (nI 1)), (7, .int (nI (j + 1)))] 45 []) (ha : a 15 = q1) (hb : b 15 = q2) (T : Two E a cap nF nC nE b capb nF nC nE h0) (hpn : h0 pn = some (.inl (kI E, 3, .inl fn))) (hps : h0 ps = some (.inl (kI E, 6, .inl fs))) (hne : pn ≠ ps) (I : INV dt nF nC nE w) (hX : X < 2 ^ 31) (hu0 : nF = mF + (if (X % 20 < 2 ∨ X % 20 = 3) ∧ ¬ dn < 0 then 1 else 0)) (hu1 : nC = mC + (if X % 20 = 4 ∧ ¬ dn < 0 then 1 else 0)) (hu2 : nE = mE + (if (9 ≤ X % 20 ∧ X % 20 ≤ 11) ∧ ¬ dn < 0 then 1 else 0)) (hdn : ¬ dn < 0) (hn_0 : fn 0 = nI mF) (hn_1 : fn 1 = nI mC) (hn_2 : fn 2 = nI mE) (hfs : ∀ k, k < nC → fs k = dt 11 k) (hj : j < 70) {k n : Nat} (hk : k ≤ 40 + 1284 * j + 16000 * ((j + 4) / 5) + 624) (hn : n ≤ 20000 + 25360 * j + 96000 * ((j + 4) / 5) + 13000) : V E X9 room_1 cL_law 12 wsL_law RL k n (dw E a cap nF nC nE dt (dw E b capb nF nC nE dt h0)) [(0, .ref bs), (1, .ref q1), (2, .ref q2), (3, .ref pn), (4, .ref ps), (5, .int (nI T0)), (6, .int (nI 1)), (7, .int (nI j)), (8, .int (nI X)), (10, .int (nI (X % 20))), (11, .int (nI 1))] 239 [] := by
  obtain ⟨hF, hF20, hC, hC6, hE, hE80, hW, hW3, hpl, hof, hsp⟩ := id I.dv
  refine r_aload_n dL_law_239 3 rfl ?_
  refine r_iconst (v := nI 0) dL_law_240 (by decide) ?_
  refine r_dup2 dL_law_241 rfl rfl ?_
  refine r_iald dL_law_242 (dw_at T.ga (dw_at T.2.1 hpn)) (vp_in_nI (by decide) (by decide)) ?_
  rw [show fn (nI 0).toNatClampNeg = nI mF from hn_0]
  refine r_iload dL_law_243 9 rfl ?_
  refine r_iconst (v := nI 2) dL_law_245 (by decide) ?_
  refine r_icmp_lt (tgt := 255) dL_law_246 (by decide) (fun c6 => ?_) (fun c6 => ?_)
  · skip
    have h2 : X % 20 < 2 := (nI_ltI (by omega) (by omega)).mp c6
    refine r_iload dL_law_255 10 rfl ?_
    refine r_if_eq (tgt := 264) dL_law_257 (by decide) (fun c9 => absurd c9 (by decide)) (fun _ => ?_)
    refine r_iconst (v := nI 1) dL_law_260 (by decide) ?_
    refine r_goto (tgt := 265) dL_law_261 (by decide) ?_
    refine r_iadd dL_law_265 ?_
    rw [nI_add mF 1]
    have e7 : mF + 1 = nF := by rw [hu0, if_pos ⟨Or.inl h2, hdn⟩]
    rw [e7]
    refine r_iast dL_law_266 (dw_at T.ga (dw_at T.2.1 hpn)) (vp_in_nI (by decide) (by decide)) ?_
    rw [dw_kup T.ga (by rw [dw_at T.2.1 hpn]; simp), dw_kup T.2.1 (by rw [hpn]; simp)]
    refine r_lo (lo' := [(0, .ref bs), (1, .ref q1), (2, .ref q2), (3, .ref pn), (4, .ref ps), (5, .int (nI T0)), (6, .int (nI 1)), (7, .int (nI j)), (8, .int (nI X)), (10, .int (nI (X % 20))), (11, .int (nI 1))]) [0, 1, 2, 3, 4, 5, 6, 7, 8, 9, 10] rfl ?_
    exact lw_267_y hXs hL kk ha hb (T.up (by rw [hpn]; simp)) (kup_s _ _ _) ((kup_n _ _ hne.symm).trans hps) hne I hX hu0 hu1 hu2 hdn (upd_s _ _ _) ((upd_n _ _ (by decide)).trans hn_1) ((upd_n _ _ (by decide)).trans hn_2) hfs hj (by omega) (by omega)
  · skip
    have h2 : ¬ X % 20 < 2 := fun z => c6 ((nI_ltI (by omega) (by omega)).mpr z)
    refine r_iload dL_law_249 9 rfl ?_
    refine r_iconst (v := nI 3) dL_law_251 (by decide) ?_
    refine r_icmp_ne (tgt := 264) dL_law_252 (by decide) (fun c7 => ?_) (fun c7 => ?_)
    · skip
      have h3 : ¬ X % 20 = 3 := fun z => c7 (by rw [z])
      refine r_iconst (v := nI 0) dL_law_264 (by decide) ?_
      refine r_iadd dL_law_265 ?_
      rw [nI_add mF 0]
      have e7 : mF + 0 = nF := by rw [hu0, if_neg (fun z => z.1.elim h2 h3)]
      rw [e7]
      refine r_iast dL_law_266 (dw_at T.ga (dw_at T.2.1 hpn)) (vp_in_nI (by decide) (by decide)) ?_
      rw [dw_kup T.ga (by rw [dw_at T.2.1 hpn]; simp), dw_kup T.2.1 (by rw [hpn]; simp)]
      refine r_lo (lo' := [(0, .ref bs), (1, .ref q1), (2, .ref q2), (3, .ref pn), (4, .ref ps), (5, .int (nI T0)), (6, .int (nI 1)), (7, .int (nI j)), (8, .int (nI X)), (10, .int (nI (X % 20))), (11, .int (nI 1))]) [0, 1, 2, 3, 4, 5, 6, 7, 8, 9, 10] rfl ?_
      exact lw_267_y hXs hL kk ha hb (T.up (by rw [hpn]; simp)) (kup_s _ _ _) ((kup_n _ _ hne.symm).trans hps) hne I hX hu0 hu1 hu2 hdn (upd_s _ _ _) ((upd_n _ _ (by decide)).trans hn_1) ((upd_n _ _ (by decide)).trans hn_2) hfs hj (by omega) (by omega)
    · skip
      have h3 : X % 20 = 3 := (nI_eq (by omega) (by omega)).mp c7
      refine r_iload dL_law_255 10 rfl ?_
      refine r_if_eq (tgt := 264) dL_law_257 (by decide) (fun c9 => absurd c9 (by decide)) (fun _ => ?_)
      refine r_iconst (v := nI 1) dL_law_260 (by decide) ?_
      refine r_goto (tgt := 265) dL_law_261 (by decide) ?_
      refine r_iadd dL_law_265 ?_
      rw [nI_add mF 1]
      have e7 : mF + 1 = nF := by rw [hu0, if_pos ⟨Or.inr h3, hdn⟩]
      rw [e7]
      refine r_iast dL_law_266 (dw_at T.ga (dw_at T.2.1 hpn)) (vp_in_nI (by decide) (by decide)) ?_
      rw [dw_kup T.ga (by rw [dw_at T.2.1 hpn]; simp), dw_kup T.2.1 (by rw [hpn]; simp)]
      refine r_lo (lo' := [(0, .ref bs), (1, .ref q1), (2, .ref q2), (3, .ref pn), (4, .ref ps), (5, .int (nI T0)), (6, .int (nI 1)), (7, .int (nI j)), (8, .int (nI X)), (10, .int (nI (X % 20))), (11, .int (nI 1))]) [0, 1, 2, 3, 4, 5, 6, 7, 8, 9, 10] rfl ?_
      exact lw_267_y hXs hL kk ha hb (T.up (by rw [hpn]; simp)) (kup_s _ _ _) ((kup_n _ _ hne.symm).trans hps) hne I hX hu0 hu1 hu2 hdn (upd_s _ _ _) ((upd_n _ _ (by decide)).trans hn_1) ((upd_n _ _ (by decide)).trans hn_2) hfs hj (by omega) (by omega)

set_option maxHeartbeats 8000000 in
set_option maxRecDepth 100000 in
theorem lw_197_y {E : kE} {X9 : kX} {bs L : Nat} {xs : Nat → Int32} {q1 q2 pn ps T0 j : Nat} {a cap b capb : Nat → Nat} {h0 : kH} {dt : kM} {nF nC nE w : Nat} {fn fs : Nat → Int32} {X : Nat} {mF mC mE : Nat} {dn : Int32} (hXs : kScr X9 bs L xs) (hL : L ≤ 260) (kk : ∀ (k n : Nat) (H : kH), k ≤ 40 + 1284 * (j + 1) + 16000 * (((j + 1) + 4) / 5) → n ≤ 20000 + 25360 * (j + 1) + 96000 * (((j + 1) + 4) / 5) → LSt E q1 q2 pn ps H → V E X9 room_1 cL_law 12 wsL_law RL k n (H) [(0, .ref bs), (1, .ref q1), (2, .ref q2), (3, .ref pn), (4, .ref ps), (5, .int (nI T0)), (6, .int (nI 1)), (7, .int (nI (j + 1)))] 45 []) (ha : a 15 = q1) (hb : b 15 = q2) (T : Two E a cap nF nC nE b capb nF nC nE h0) (hpn : h0 pn = some (.inl (kI E, 3, .inl fn))) (hps : h0 ps = some (.inl (kI E, 6, .inl fs))) (hne : pn ≠ ps) (I : INV dt nF nC nE w) (hX : X < 2 ^ 31) (hu0 : nF = mF + (if (X % 20 < 2 ∨ X % 20 = 3) ∧ ¬ dn < 0 then 1 else 0)) (hu1 : nC = mC + (if X % 20 = 4 ∧ ¬ dn < 0 then 1 else 0)) (hu2 : nE = mE + (if (9 ≤ X % 20 ∧ X % 20 ≤ 11) ∧ ¬ dn < 0 then 1 else 0)) (hdn : ¬ dn < 0) (hn_0 : fn 0 = nI mF) (hn_1 : fn 1 = nI mC) (hn_2 : fn 2 = nI mE) (hcam : X % 20 = 4 → ¬ dn < 0 → dt 11 mC = nI (1 + X / 20 % 20)) (hfm : ∀ k, k < mC → fs k = dt 11 k) (hj : j < 70) {k n : Nat} (hk : k ≤ 40 + 1284 * j + 16000 * ((j + 4) / 5) + 624) (hn : n ≤ 20000 + 25360 * j + 96000 * ((j + 4) / 5) + 13000) : V E X9 room_1 cL_law 12 wsL_law RL k n (dw E a cap nF nC nE dt (dw E b capb nF nC nE dt h0)) [(0, .ref bs), (1, .ref q1), (2, .ref q2), (3, .ref pn), (4, .ref ps), (5, .int (nI T0)), (6, .int (nI 1)), (7, .int (nI j)), (8, .int (nI X)), (10, .int (nI (X % 20))), (11, .int (nI 1))] 197 [] := by
  obtain ⟨hF, hF20, hC, hC6, hE, hE80, hW, hW3, hpl, hof, hsp⟩ := id I.dv
  have hmc : mC ≤ 6 := by omega
  refine r_aload dL_law_197 4 rfl ?_
  refine r_aload_n dL_law_199 3 rfl ?_
  refine r_iconst (v := nI 1) dL_law_200 (by decide) ?_
  refine r_iald dL_law_201 (dw_at T.ga (dw_at T.2.1 hpn)) (vp_in_nI (by decide) (by decide)) ?_
  rw [show fn (nI 1).toNatClampNeg = nI mC from hn_1]
  refine r_bipush (v := nI 6) dL_law_202 (by decide) ?_
  refine r_irem dL_law_204 (by decide) ?_
  rw [nI_mod (a := mC) (b := 6) (by omega) (by omega) (by omega)]
  refine r_iload dL_law_205 9 rfl ?_
  refine r_iconst (v := nI 4) dL_law_207 (by decide) ?_
  refine r_icmp_ne (tgt := 229) dL_law_208 (by decide) (fun c6 => ?_) (fun c6 => ?_)
  · skip
    have h4 : ¬ X % 20 = 4 := fun z => c6 (by rw [z])
    refine r_aload dL_law_229 4 rfl ?_
    refine r_aload_n dL_law_231 3 rfl ?_
    refine r_iconst (v := nI 1) dL_law_232 (by decide) ?_
    refine r_iald dL_law_233 (dw_at T.ga (dw_at T.2.1 hpn)) (vp_in_nI (by decide) (by decide)) ?_
    rw [show fn (nI 1).toNatClampNeg = nI mC from hn_1]
    refine r_bipush (v := nI 6) dL_law_234 (by decide) ?_
    refine r_irem dL_law_236 (by decide) ?_
    rw [nI_mod (a := mC) (b := 6) (by omega) (by omega) (by omega)]
    refine r_iald dL_law_237 (dw_at T.ga (dw_at T.2.1 hps)) (vp_in_nI (Nat.mod_lt _ (by omega)) (by decide)) ?_
    rw [show fs (nI (mC % 6)).toNatClampNeg = fs (mC % 6) from by rw [nI_clamp (by omega)]]
    have hm : nC = mC := by rw [hu1, if_neg (fun z => h4 z.1), Nat.add_zero]
    have hfs2 : ∀ k, k < nC → upd fs (nI (mC % 6)).toNatClampNeg (fs (mC % 6)) k = dt 11 k := fun k hk => by
      rw [nI_clamp (by omega)]
      by_cases c8 : k = mC % 6
      · rw [c8, upd_s]; rw [c8] at hk; exact hfm _ (by omega)
      · rw [upd_n _ _ c8]; exact hfm k (by omega)
    refine r_iast dL_law_238 (dw_at T.ga (dw_at T.2.1 hps)) (vp_in_nI (Nat.mod_lt _ (by omega)) (by decide)) ?_
    rw [dw_kup T.ga (by rw [dw_at T.2.1 hps]; simp), dw_kup T.2.1 (by rw [hps]; simp)]
    refine r_lo (lo' := [(0, .ref bs), (1, .ref q1), (2, .ref q2), (3, .ref pn), (4, .ref ps), (5, .int (nI T0)), (6, .int (nI 1)), (7, .int (nI j)), (8, .int (nI X)), (10, .int (nI (X % 20))), (11, .int (nI 1))]) [0, 1, 2, 3, 4, 5, 6, 7, 8, 9, 10] rfl ?_
    exact lw_239_y hXs hL kk ha hb (T.up (by rw [hps]; simp)) ((kup_n _ _ hne).trans hpn) (kup_s _ _ _) hne I hX hu0 hu1 hu2 hdn hn_0 hn_1 hn_2 hfs2 hj (by omega) (by omega)
  · skip
    have h4 : X % 20 = 4 := (nI_eq (by omega) (by omega)).mp c6
    refine r_iload dL_law_211 10 rfl ?_
    refine r_if_eq (tgt := 229) dL_law_213 (by decide) (fun c9 => absurd c9 (by decide)) (fun _ => ?_)
    refine r_iconst (v := nI 1) dL_law_216 (by decide) ?_
    refine r_iload dL_law_217 8 rfl ?_
    refine r_bipush (v := nI 20) dL_law_219 (by decide) ?_
    refine r_idiv dL_law_221 (by decide) ?_
    rw [nI_div (a := X) (b := 20) (by omega) (by omega) (by omega)]
    refine r_bipush (v := nI 20) dL_law_222 (by decide) ?_
    refine r_irem dL_law_224 (by decide) ?_
    rw [nI_mod (a := X / 20) (b := 20) (by omega) (by omega) (by omega)]
    refine r_iadd dL_law_225 ?_
    rw [nI_add 1 ((X / 20) % 20)]
    refine r_goto (tgt := 238) dL_law_226 (by decide) ?_
    have hm : nC = mC + 1 := by rw [hu1, if_pos ⟨h4, hdn⟩]
    have hm6 : mC % 6 = mC := Nat.mod_eq_of_lt (by omega)
    have hfs2 : ∀ k, k < nC → upd fs (nI (mC % 6)).toNatClampNeg (nI (1 + ((X / 20) % 20))) k = dt 11 k := fun k hk => by
      rw [nI_clamp (by omega), hm6]
      by_cases c8 : k = mC
      · rw [c8, upd_s]; exact (hcam h4 hdn).symm
      · rw [upd_n _ _ c8]; exact hfm k (by omega)
    refine r_iast dL_law_238 (dw_at T.ga (dw_at T.2.1 hps)) (vp_in_nI (Nat.mod_lt _ (by omega)) (by decide)) ?_
    rw [dw_kup T.ga (by rw [dw_at T.2.1 hps]; simp), dw_kup T.2.1 (by rw [hps]; simp)]
    refine r_lo (lo' := [(0, .ref bs), (1, .ref q1), (2, .ref q2), (3, .ref pn), (4, .ref ps), (5, .int (nI T0)), (6, .int (nI 1)), (7, .int (nI j)), (8, .int (nI X)), (10, .int (nI (X % 20))), (11, .int (nI 1))]) [0, 1, 2, 3, 4, 5, 6, 7, 8, 9, 10] rfl ?_
    exact lw_239_y hXs hL kk ha hb (T.up (by rw [hps]; simp)) ((kup_n _ _ hne).trans hpn) (kup_s _ _ _) hne I hX hu0 hu1 hu2 hdn hn_0 hn_1 hn_2 hfs2 hj (by omega) (by omega)

set_option maxHeartbeats 8000000 in
set_option maxRecDepth 100000 in
theorem lw_289_n {E : kE} {X9 : kX} {bs L : Nat} {xs : Nat → Int32} {q1 q2 pn ps T0 j : Nat} {a cap b capb : Nat → Nat} {h0 : kH} {dt : kM} {nF nC nE w : Nat} {fn fs : Nat → Int32} {X : Nat} {mF mC mE : Nat} {dn : Int32} (hXs : kScr X9 bs L xs) (hL : L ≤ 260) (kk : ∀ (k n : Nat) (H : kH), k ≤ 40 + 1284 * (j + 1) + 16000 * (((j + 1) + 4) / 5) → n ≤ 20000 + 25360 * (j + 1) + 96000 * (((j + 1) + 4) / 5) → LSt E q1 q2 pn ps H → V E X9 room_1 cL_law 12 wsL_law RL k n (H) [(0, .ref bs), (1, .ref q1), (2, .ref q2), (3, .ref pn), (4, .ref ps), (5, .int (nI T0)), (6, .int (nI 1)), (7, .int (nI (j + 1)))] 45 []) (ha : a 15 = q1) (hb : b 15 = q2) (T : Two E a cap nF nC nE b capb nF nC nE h0) (hpn : h0 pn = some (.inl (kI E, 3, .inl fn))) (hps : h0 ps = some (.inl (kI E, 6, .inl fs))) (hne : pn ≠ ps) (I : INV dt nF nC nE w) (hX : X < 2 ^ 31) (hu0 : nF = mF + (if (X % 20 < 2 ∨ X % 20 = 3) ∧ ¬ dn < 0 then 1 else 0)) (hu1 : nC = mC + (if X % 20 = 4 ∧ ¬ dn < 0 then 1 else 0)) (hu2 : nE = mE + (if (9 ≤ X % 20 ∧ X % 20 ≤ 11) ∧ ¬ dn < 0 then 1 else 0)) (hdn : dn < 0) (hn_0 : fn 0 = nI nF) (hn_1 : fn 1 = nI nC) (hn_2 : fn 2 = nI mE) (hfs : ∀ k, k < nC → fs k = dt 11 k) (hj : j < 70) {k n : Nat} (hk : k ≤ 40 + 1284 * j + 16000 * ((j + 4) / 5) + 624) (hn : n ≤ 20000 + 25360 * j + 96000 * ((j + 4) / 5) + 13000) : V E X9 room_1 cL_law 12 wsL_law RL k n (dw E a cap nF nC nE dt (dw E b capb nF nC nE dt h0)) [(0, .ref bs), (1, .ref q1), (2, .ref q2), (3, .ref pn), (4, .ref ps), (5, .int (nI T0)), (6, .int (nI 1)), (7, .int (nI j)), (8, .int (nI X)), (10, .int (nI (X % 20))), (11, .int (nI 0))] 289 [] := by
  obtain ⟨hF, hF20, hC, hC6, hE, hE80, hW, hW3, hpl, hof, hsp⟩ := id I.dv
  refine r_aload_n dL_law_289 3 rfl ?_
  refine r_iconst (v := nI 2) dL_law_290 (by decide) ?_
  refine r_dup2 dL_law_291 rfl rfl ?_
  refine r_iald dL_law_292 (dw_at T.ga (dw_at T.2.1 hpn)) (vp_in_nI (by decide) (by decide)) ?_
  rw [show fn (nI 2).toNatClampNeg = nI mE from hn_2]
  refine r_iload dL_law_293 9 rfl ?_
  refine r_bipush (v := nI 9) dL_law_295 (by decide) ?_
  refine r_icmp_lt (tgt := 316) dL_law_297 (by decide) (fun c6 => ?_) (fun c6 => ?_)
  · skip
    have h9 : ¬ 9 ≤ X % 20 := fun z => absurd ((nI_ltI (by omega) (by omega)).mp c6) (by omega)
    refine r_iconst (v := nI 0) dL_law_316 (by decide) ?_
    refine r_iadd dL_law_317 ?_
    rw [nI_add mE 0]
    have e7 : mE + 0 = nE := by rw [hu2, if_neg (fun z => z.2 hdn)]
    rw [e7]
    refine r_iast dL_law_318 (dw_at T.ga (dw_at T.2.1 hpn)) (vp_in_nI (by decide) (by decide)) ?_
    rw [dw_kup T.ga (by rw [dw_at T.2.1 hpn]; simp), dw_kup T.2.1 (by rw [hpn]; simp)]
    refine r_lo (lo' := [(0, .ref bs), (1, .ref q1), (2, .ref q2), (3, .ref pn), (4, .ref ps), (5, .int (nI T0)), (6, .int (nI 1)), (7, .int (nI j)), (8, .int (nI X))]) [0, 1, 2, 3, 4, 5, 6, 7, 8] rfl ?_
    exact lw_319 hXs hL kk ha hb (T.up (by rw [hpn]; simp)) (kup_s _ _ _) ((kup_n _ _ hne.symm).trans hps) hne I hX ((upd_n _ _ (by decide)).trans hn_0) ((upd_n _ _ (by decide)).trans hn_1) (upd_s _ _ _) hfs hj (by omega) (by omega)
  · skip
    have h9 : 9 ≤ X % 20 := Nat.le_of_not_lt (fun z => c6 ((nI_ltI (by omega) (by omega)).mpr z))
    refine r_iload dL_law_300 9 rfl ?_
    refine r_bipush (v := nI 11) dL_law_302 (by decide) ?_
    refine r_icmp_gt (tgt := 316) dL_law_304 (by decide) (fun c7 => ?_) (fun c7 => ?_)
    · skip
      have h11 : ¬ X % 20 ≤ 11 := fun z => absurd ((nI_ltI (by omega) (by omega)).mp c7) (by omega)
      refine r_iconst (v := nI 0) dL_law_316 (by decide) ?_
      refine r_iadd dL_law_317 ?_
      rw [nI_add mE 0]
      have e7 : mE + 0 = nE := by rw [hu2, if_neg (fun z => z.2 hdn)]
      rw [e7]
      refine r_iast dL_law_318 (dw_at T.ga (dw_at T.2.1 hpn)) (vp_in_nI (by decide) (by decide)) ?_
      rw [dw_kup T.ga (by rw [dw_at T.2.1 hpn]; simp), dw_kup T.2.1 (by rw [hpn]; simp)]
      refine r_lo (lo' := [(0, .ref bs), (1, .ref q1), (2, .ref q2), (3, .ref pn), (4, .ref ps), (5, .int (nI T0)), (6, .int (nI 1)), (7, .int (nI j)), (8, .int (nI X))]) [0, 1, 2, 3, 4, 5, 6, 7, 8] rfl ?_
      exact lw_319 hXs hL kk ha hb (T.up (by rw [hpn]; simp)) (kup_s _ _ _) ((kup_n _ _ hne.symm).trans hps) hne I hX ((upd_n _ _ (by decide)).trans hn_0) ((upd_n _ _ (by decide)).trans hn_1) (upd_s _ _ _) hfs hj (by omega) (by omega)
    · skip
      have h11 : X % 20 ≤ 11 := Nat.le_of_not_lt (fun z => c7 ((nI_ltI (by omega) (by omega)).mpr z))
      refine r_iload dL_law_307 10 rfl ?_
      refine r_if_eq (tgt := 316) dL_law_309 (by decide) (fun _ => ?_) (fun c9 => absurd c9 (by decide))
      refine r_iconst (v := nI 0) dL_law_316 (by decide) ?_
      refine r_iadd dL_law_317 ?_
      rw [nI_add mE 0]
      have e7 : mE + 0 = nE := by rw [hu2, if_neg (fun z => z.2 hdn)]
      rw [e7]
      refine r_iast dL_law_318 (dw_at T.ga (dw_at T.2.1 hpn)) (vp_in_nI (by decide) (by decide)) ?_
      rw [dw_kup T.ga (by rw [dw_at T.2.1 hpn]; simp), dw_kup T.2.1 (by rw [hpn]; simp)]
      refine r_lo (lo' := [(0, .ref bs), (1, .ref q1), (2, .ref q2), (3, .ref pn), (4, .ref ps), (5, .int (nI T0)), (6, .int (nI 1)), (7, .int (nI j)), (8, .int (nI X))]) [0, 1, 2, 3, 4, 5, 6, 7, 8] rfl ?_
      exact lw_319 hXs hL kk ha hb (T.up (by rw [hpn]; simp)) (kup_s _ _ _) ((kup_n _ _ hne.symm).trans hps) hne I hX ((upd_n _ _ (by decide)).trans hn_0) ((upd_n _ _ (by decide)).trans hn_1) (upd_s _ _ _) hfs hj (by omega) (by omega)

set_option maxHeartbeats 8000000 in
set_option maxRecDepth 100000 in
theorem lw_267_n {E : kE} {X9 : kX} {bs L : Nat} {xs : Nat → Int32} {q1 q2 pn ps T0 j : Nat} {a cap b capb : Nat → Nat} {h0 : kH} {dt : kM} {nF nC nE w : Nat} {fn fs : Nat → Int32} {X : Nat} {mF mC mE : Nat} {dn : Int32} (hXs : kScr X9 bs L xs) (hL : L ≤ 260) (kk : ∀ (k n : Nat) (H : kH), k ≤ 40 + 1284 * (j + 1) + 16000 * (((j + 1) + 4) / 5) → n ≤ 20000 + 25360 * (j + 1) + 96000 * (((j + 1) + 4) / 5) → LSt E q1 q2 pn ps H → V E X9 room_1 cL_law 12 wsL_law RL k n (H) [(0, .ref bs), (1, .ref q1), (2, .ref q2), (3, .ref pn), (4, .ref ps), (5, .int (nI T0)), (6, .int (nI 1)), (7, .int (nI (j + 1)))] 45 []) (ha : a 15 = q1) (hb : b 15 = q2) (T : Two E a cap nF nC nE b capb nF nC nE h0) (hpn : h0 pn = some (.inl (kI E, 3, .inl fn))) (hps : h0 ps = some (.inl (kI E, 6, .inl fs))) (hne : pn ≠ ps) (I : INV dt nF nC nE w) (hX : X < 2 ^ 31) (hu0 : nF = mF + (if (X % 20 < 2 ∨ X % 20 = 3) ∧ ¬ dn < 0 then 1 else 0)) (hu1 : nC = mC + (if X % 20 = 4 ∧ ¬ dn < 0 then 1 else 0)) (hu2 : nE = mE + (if (9 ≤ X % 20 ∧ X % 20 ≤ 11) ∧ ¬ dn < 0 then 1 else 0)) (hdn : dn < 0) (hn_0 : fn 0 = nI nF) (hn_1 : fn 1 = nI mC) (hn_2 : fn 2 = nI mE) (hfs : ∀ k, k < nC → fs k = dt 11 k) (hj : j < 70) {k n : Nat} (hk : k ≤ 40 + 1284 * j + 16000 * ((j + 4) / 5) + 624) (hn : n ≤ 20000 + 25360 * j + 96000 * ((j + 4) / 5) + 13000) : V E X9 room_1 cL_law 12 wsL_law RL k n (dw E a cap nF nC nE dt (dw E b capb nF nC nE dt h0)) [(0, .ref bs), (1, .ref q1), (2, .ref q2), (3, .ref pn), (4, .ref ps), (5, .int (nI T0)), (6, .int (nI 1)), (7, .int (nI j)), (8, .int (nI X)), (10, .int (nI (X % 20))), (11, .int (nI 0))] 267 [] := by
  obtain ⟨hF, hF20, hC, hC6, hE, hE80, hW, hW3, hpl, hof, hsp⟩ := id I.dv
  refine r_aload_n dL_law_267 3 rfl ?_
  refine r_iconst (v := nI 1) dL_law_268 (by decide) ?_
  refine r_dup2 dL_law_269 rfl rfl ?_
  refine r_iald dL_law_270 (dw_at T.ga (dw_at T.2.1 hpn)) (vp_in_nI (by decide) (by decide)) ?_
  rw [show fn (nI 1).toNatClampNeg = nI mC from hn_1]
  refine r_iload dL_law_271 9 rfl ?_
  refine r_iconst (v := nI 4) dL_law_273 (by decide) ?_
  refine r_icmp_ne (tgt := 286) dL_law_274 (by decide) (fun c6 => ?_) (fun c6 => ?_)
  · skip
    have h4 : ¬ X % 20 = 4 := fun z => c6 (by rw [z])
    refine r_iconst (v := nI 0) dL_law_286 (by decide) ?_
    refine r_iadd dL_law_287 ?_
    rw [nI_add mC 0]
    have e7 : mC + 0 = nC := by rw [hu1, if_neg (fun z => z.2 hdn)]
    rw [e7]
    refine r_iast dL_law_288 (dw_at T.ga (dw_at T.2.1 hpn)) (vp_in_nI (by decide) (by decide)) ?_
    rw [dw_kup T.ga (by rw [dw_at T.2.1 hpn]; simp), dw_kup T.2.1 (by rw [hpn]; simp)]
    refine r_lo (lo' := [(0, .ref bs), (1, .ref q1), (2, .ref q2), (3, .ref pn), (4, .ref ps), (5, .int (nI T0)), (6, .int (nI 1)), (7, .int (nI j)), (8, .int (nI X)), (10, .int (nI (X % 20))), (11, .int (nI 0))]) [0, 1, 2, 3, 4, 5, 6, 7, 8, 9, 10] rfl ?_
    exact lw_289_n hXs hL kk ha hb (T.up (by rw [hpn]; simp)) (kup_s _ _ _) ((kup_n _ _ hne.symm).trans hps) hne I hX hu0 hu1 hu2 hdn ((upd_n _ _ (by decide)).trans hn_0) (upd_s _ _ _) ((upd_n _ _ (by decide)).trans hn_2) hfs hj (by omega) (by omega)
  · skip
    have h4 : X % 20 = 4 := (nI_eq (by omega) (by omega)).mp c6
    refine r_iload dL_law_277 10 rfl ?_
    refine r_if_eq (tgt := 286) dL_law_279 (by decide) (fun _ => ?_) (fun c9 => absurd c9 (by decide))
    refine r_iconst (v := nI 0) dL_law_286 (by decide) ?_
    refine r_iadd dL_law_287 ?_
    rw [nI_add mC 0]
    have e7 : mC + 0 = nC := by rw [hu1, if_neg (fun z => z.2 hdn)]
    rw [e7]
    refine r_iast dL_law_288 (dw_at T.ga (dw_at T.2.1 hpn)) (vp_in_nI (by decide) (by decide)) ?_
    rw [dw_kup T.ga (by rw [dw_at T.2.1 hpn]; simp), dw_kup T.2.1 (by rw [hpn]; simp)]
    refine r_lo (lo' := [(0, .ref bs), (1, .ref q1), (2, .ref q2), (3, .ref pn), (4, .ref ps), (5, .int (nI T0)), (6, .int (nI 1)), (7, .int (nI j)), (8, .int (nI X)), (10, .int (nI (X % 20))), (11, .int (nI 0))]) [0, 1, 2, 3, 4, 5, 6, 7, 8, 9, 10] rfl ?_
    exact lw_289_n hXs hL kk ha hb (T.up (by rw [hpn]; simp)) (kup_s _ _ _) ((kup_n _ _ hne.symm).trans hps) hne I hX hu0 hu1 hu2 hdn ((upd_n _ _ (by decide)).trans hn_0) (upd_s _ _ _) ((upd_n _ _ (by decide)).trans hn_2) hfs hj (by omega) (by omega)

set_option maxHeartbeats 8000000 in
set_option maxRecDepth 100000 in
theorem lw_239_n {E : kE} {X9 : kX} {bs L : Nat} {xs : Nat → Int32} {q1 q2 pn ps T0 j : Nat} {a cap b capb : Nat → Nat} {h0 : kH} {dt : kM} {nF nC nE w : Nat} {fn fs : Nat → Int32} {X : Nat} {mF mC mE : Nat} {dn : Int32} (hXs : kScr X9 bs L xs) (hL : L ≤ 260) (kk : ∀ (k n : Nat) (H : kH), k ≤ 40 + 1284 * (j + 1) + 16000 * (((j + 1) + 4) / 5) → n ≤ 20000 + 25360 * (j + 1) + 96000 * (((j + 1) + 4) / 5) → LSt E q1 q2 pn ps H → V E X9 room_1 cL_law 12 wsL_law RL k n (H) [(0, .ref bs), (1, .ref q1), (2, .ref q2), (3, .ref pn), (4, .ref ps), (5, .int (nI T0)), (6, .int (nI 1)), (7, .int (nI (j + 1)))] 45 []) (ha : a 15 = q1) (hb : b 15 = q2) (T : Two E a cap nF nC nE b capb nF nC nE h0) (hpn : h0 pn = some (.inl (kI E, 3, .inl fn))) (hps : h0 ps = some (.inl (kI E, 6, .inl fs))) (hne : pn ≠ ps) (I : INV dt nF nC nE w) (hX : X < 2 ^ 31) (hu0 : nF = mF + (if (X % 20 < 2 ∨ X % 20 = 3) ∧ ¬ dn < 0 then 1 else 0)) (hu1 : nC = mC + (if X % 20 = 4 ∧ ¬ dn < 0 then 1 else 0)) (hu2 : nE = mE + (if (9 ≤ X % 20 ∧ X % 20 ≤ 11) ∧ ¬ dn < 0 then 1 else 0)) (hdn : dn < 0) (hn_0 : fn 0 = nI mF) (hn_1 : fn 1 = nI mC) (hn_2 : fn 2 = nI mE) (hfs : ∀ k, k < nC → fs k = dt 11 k) (hj : j < 70) {k n : Nat} (hk : k ≤ 40 + 1284 * j + 16000 * ((j + 4) / 5) + 624) (hn : n ≤ 20000 + 25360 * j + 96000 * ((j + 4) / 5) + 13000) : V E X9 room_1 cL_law 12 wsL_law RL k n (dw E a cap nF nC nE dt (dw E b capb nF nC nE dt h0)) [(0, .ref bs), (1, .ref q1), (2, .ref q2), (3, .ref pn), (4, .ref ps), (5, .int (nI T0)), (6, .int (nI 1)), (7, .int (nI j)), (8, .int (nI X)), (10, .int (nI (X % 20))), (11, .int (nI 0))] 239 [] := by
  obtain ⟨hF, hF20, hC, hC6, hE, hE80, hW, hW3, hpl, hof, hsp⟩ := id I.dv
  refine r_aload_n dL_law_239 3 rfl ?_
  refine r_iconst (v := nI 0) dL_law_240 (by decide) ?_
  refine r_dup2 dL_law_241 rfl rfl ?_
  refine r_iald dL_law_242 (dw_at T.ga (dw_at T.2.1 hpn)) (vp_in_nI (by decide) (by decide)) ?_
  rw [show fn (nI 0).toNatClampNeg = nI mF from hn_0]
  refine r_iload dL_law_243 9 rfl ?_
  refine r_iconst (v := nI 2) dL_law_245 (by decide) ?_
  refine r_icmp_lt (tgt := 255) dL_law_246 (by decide) (fun c6 => ?_) (fun c6 => ?_)
  · skip
    have h2 : X % 20 < 2 := (nI_ltI (by omega) (by omega)).mp c6
    refine r_iload dL_law_255 10 rfl ?_
    refine r_if_eq (tgt := 264) dL_law_257 (by decide) (fun _ => ?_) (fun c9 => absurd c9 (by decide))
    refine r_iconst (v := nI 0) dL_law_264 (by decide) ?_
    refine r_iadd dL_law_265 ?_
    rw [nI_add mF 0]
    have e7 : mF + 0 = nF := by rw [hu0, if_neg (fun z => z.2 hdn)]
    rw [e7]
    refine r_iast dL_law_266 (dw_at T.ga (dw_at T.2.1 hpn)) (vp_in_nI (by decide) (by decide)) ?_
    rw [dw_kup T.ga (by rw [dw_at T.2.1 hpn]; simp), dw_kup T.2.1 (by rw [hpn]; simp)]
    refine r_lo (lo' := [(0, .ref bs), (1, .ref q1), (2, .ref q2), (3, .ref pn), (4, .ref ps), (5, .int (nI T0)), (6, .int (nI 1)), (7, .int (nI j)), (8, .int (nI X)), (10, .int (nI (X % 20))), (11, .int (nI 0))]) [0, 1, 2, 3, 4, 5, 6, 7, 8, 9, 10] rfl ?_
    exact lw_267_n hXs hL kk ha hb (T.up (by rw [hpn]; simp)) (kup_s _ _ _) ((kup_n _ _ hne.symm).trans hps) hne I hX hu0 hu1 hu2 hdn (upd_s _ _ _) ((upd_n _ _ (by decide)).trans hn_1) ((upd_n _ _ (by decide)).trans hn_2) hfs hj (by omega) (by omega)
  · skip
    have h2 : ¬ X % 20 < 2 := fun z => c6 ((nI_ltI (by omega) (by omega)).mpr z)
    refine r_iload dL_law_249 9 rfl ?_
    refine r_iconst (v := nI 3) dL_law_251 (by decide) ?_
    refine r_icmp_ne (tgt := 264) dL_law_252 (by decide) (fun c7 => ?_) (fun c7 => ?_)
    · skip
      have h3 : ¬ X % 20 = 3 := fun z => c7 (by rw [z])
      refine r_iconst (v := nI 0) dL_law_264 (by decide) ?_
      refine r_iadd dL_law_265 ?_
      rw [nI_add mF 0]
      have e7 : mF + 0 = nF := by rw [hu0, if_neg (fun z => z.2 hdn)]
      rw [e7]
      refine r_iast dL_law_266 (dw_at T.ga (dw_at T.2.1 hpn)) (vp_in_nI (by decide) (by decide)) ?_
      rw [dw_kup T.ga (by rw [dw_at T.2.1 hpn]; simp), dw_kup T.2.1 (by rw [hpn]; simp)]
      refine r_lo (lo' := [(0, .ref bs), (1, .ref q1), (2, .ref q2), (3, .ref pn), (4, .ref ps), (5, .int (nI T0)), (6, .int (nI 1)), (7, .int (nI j)), (8, .int (nI X)), (10, .int (nI (X % 20))), (11, .int (nI 0))]) [0, 1, 2, 3, 4, 5, 6, 7, 8, 9, 10] rfl ?_
      exact lw_267_n hXs hL kk ha hb (T.up (by rw [hpn]; simp)) (kup_s _ _ _) ((kup_n _ _ hne.symm).trans hps) hne I hX hu0 hu1 hu2 hdn (upd_s _ _ _) ((upd_n _ _ (by decide)).trans hn_1) ((upd_n _ _ (by decide)).trans hn_2) hfs hj (by omega) (by omega)
    · skip
      have h3 : X % 20 = 3 := (nI_eq (by omega) (by omega)).mp c7
      refine r_iload dL_law_255 10 rfl ?_
      refine r_if_eq (tgt := 264) dL_law_257 (by decide) (fun _ => ?_) (fun c9 => absurd c9 (by decide))
      refine r_iconst (v := nI 0) dL_law_264 (by decide) ?_
      refine r_iadd dL_law_265 ?_
      rw [nI_add mF 0]
      have e7 : mF + 0 = nF := by rw [hu0, if_neg (fun z => z.2 hdn)]
      rw [e7]
      refine r_iast dL_law_266 (dw_at T.ga (dw_at T.2.1 hpn)) (vp_in_nI (by decide) (by decide)) ?_
      rw [dw_kup T.ga (by rw [dw_at T.2.1 hpn]; simp), dw_kup T.2.1 (by rw [hpn]; simp)]
      refine r_lo (lo' := [(0, .ref bs), (1, .ref q1), (2, .ref q2), (3, .ref pn), (4, .ref ps), (5, .int (nI T0)), (6, .int (nI 1)), (7, .int (nI j)), (8, .int (nI X)), (10, .int (nI (X % 20))), (11, .int (nI 0))]) [0, 1, 2, 3, 4, 5, 6, 7, 8, 9, 10] rfl ?_
      exact lw_267_n hXs hL kk ha hb (T.up (by rw [hpn]; simp)) (kup_s _ _ _) ((kup_n _ _ hne.symm).trans hps) hne I hX hu0 hu1 hu2 hdn (upd_s _ _ _) ((upd_n _ _ (by decide)).trans hn_1) ((upd_n _ _ (by decide)).trans hn_2) hfs hj (by omega) (by omega)

set_option maxHeartbeats 8000000 in
set_option maxRecDepth 100000 in
theorem lw_197_n {E : kE} {X9 : kX} {bs L : Nat} {xs : Nat → Int32} {q1 q2 pn ps T0 j : Nat} {a cap b capb : Nat → Nat} {h0 : kH} {dt : kM} {nF nC nE w : Nat} {fn fs : Nat → Int32} {X : Nat} {mF mC mE : Nat} {dn : Int32} (hXs : kScr X9 bs L xs) (hL : L ≤ 260) (kk : ∀ (k n : Nat) (H : kH), k ≤ 40 + 1284 * (j + 1) + 16000 * (((j + 1) + 4) / 5) → n ≤ 20000 + 25360 * (j + 1) + 96000 * (((j + 1) + 4) / 5) → LSt E q1 q2 pn ps H → V E X9 room_1 cL_law 12 wsL_law RL k n (H) [(0, .ref bs), (1, .ref q1), (2, .ref q2), (3, .ref pn), (4, .ref ps), (5, .int (nI T0)), (6, .int (nI 1)), (7, .int (nI (j + 1)))] 45 []) (ha : a 15 = q1) (hb : b 15 = q2) (T : Two E a cap nF nC nE b capb nF nC nE h0) (hpn : h0 pn = some (.inl (kI E, 3, .inl fn))) (hps : h0 ps = some (.inl (kI E, 6, .inl fs))) (hne : pn ≠ ps) (I : INV dt nF nC nE w) (hX : X < 2 ^ 31) (hu0 : nF = mF + (if (X % 20 < 2 ∨ X % 20 = 3) ∧ ¬ dn < 0 then 1 else 0)) (hu1 : nC = mC + (if X % 20 = 4 ∧ ¬ dn < 0 then 1 else 0)) (hu2 : nE = mE + (if (9 ≤ X % 20 ∧ X % 20 ≤ 11) ∧ ¬ dn < 0 then 1 else 0)) (hdn : dn < 0) (hn_0 : fn 0 = nI mF) (hn_1 : fn 1 = nI mC) (hn_2 : fn 2 = nI mE) (hcam : X % 20 = 4 → ¬ dn < 0 → dt 11 mC = nI (1 + X / 20 % 20)) (hfm : ∀ k, k < mC → fs k = dt 11 k) (hj : j < 70) {k n : Nat} (hk : k ≤ 40 + 1284 * j + 16000 * ((j + 4) / 5) + 624) (hn : n ≤ 20000 + 25360 * j + 96000 * ((j + 4) / 5) + 13000) : V E X9 room_1 cL_law 12 wsL_law RL k n (dw E a cap nF nC nE dt (dw E b capb nF nC nE dt h0)) [(0, .ref bs), (1, .ref q1), (2, .ref q2), (3, .ref pn), (4, .ref ps), (5, .int (nI T0)), (6, .int (nI 1)), (7, .int (nI j)), (8, .int (nI X)), (10, .int (nI (X % 20))), (11, .int (nI 0))] 197 [] := by
  obtain ⟨hF, hF20, hC, hC6, hE, hE80, hW, hW3, hpl, hof, hsp⟩ := id I.dv
  have hmc : mC ≤ 6 := by omega
  refine r_aload dL_law_197 4 rfl ?_
  refine r_aload_n dL_law_199 3 rfl ?_
  refine r_iconst (v := nI 1) dL_law_200 (by decide) ?_
  refine r_iald dL_law_201 (dw_at T.ga (dw_at T.2.1 hpn)) (vp_in_nI (by decide) (by decide)) ?_
  rw [show fn (nI 1).toNatClampNeg = nI mC from hn_1]
  refine r_bipush (v := nI 6) dL_law_202 (by decide) ?_
  refine r_irem dL_law_204 (by decide) ?_
  rw [nI_mod (a := mC) (b := 6) (by omega) (by omega) (by omega)]
  refine r_iload dL_law_205 9 rfl ?_
  refine r_iconst (v := nI 4) dL_law_207 (by decide) ?_
  refine r_icmp_ne (tgt := 229) dL_law_208 (by decide) (fun c6 => ?_) (fun c6 => ?_)
  · skip
    have h4 : ¬ X % 20 = 4 := fun z => c6 (by rw [z])
    refine r_aload dL_law_229 4 rfl ?_
    refine r_aload_n dL_law_231 3 rfl ?_
    refine r_iconst (v := nI 1) dL_law_232 (by decide) ?_
    refine r_iald dL_law_233 (dw_at T.ga (dw_at T.2.1 hpn)) (vp_in_nI (by decide) (by decide)) ?_
    rw [show fn (nI 1).toNatClampNeg = nI mC from hn_1]
    refine r_bipush (v := nI 6) dL_law_234 (by decide) ?_
    refine r_irem dL_law_236 (by decide) ?_
    rw [nI_mod (a := mC) (b := 6) (by omega) (by omega) (by omega)]
    refine r_iald dL_law_237 (dw_at T.ga (dw_at T.2.1 hps)) (vp_in_nI (Nat.mod_lt _ (by omega)) (by decide)) ?_
    rw [show fs (nI (mC % 6)).toNatClampNeg = fs (mC % 6) from by rw [nI_clamp (by omega)]]
    have hm : nC = mC := by rw [hu1, if_neg (fun z => h4 z.1), Nat.add_zero]
    have hfs2 : ∀ k, k < nC → upd fs (nI (mC % 6)).toNatClampNeg (fs (mC % 6)) k = dt 11 k := fun k hk => by
      rw [nI_clamp (by omega)]
      by_cases c8 : k = mC % 6
      · rw [c8, upd_s]; rw [c8] at hk; exact hfm _ (by omega)
      · rw [upd_n _ _ c8]; exact hfm k (by omega)
    refine r_iast dL_law_238 (dw_at T.ga (dw_at T.2.1 hps)) (vp_in_nI (Nat.mod_lt _ (by omega)) (by decide)) ?_
    rw [dw_kup T.ga (by rw [dw_at T.2.1 hps]; simp), dw_kup T.2.1 (by rw [hps]; simp)]
    refine r_lo (lo' := [(0, .ref bs), (1, .ref q1), (2, .ref q2), (3, .ref pn), (4, .ref ps), (5, .int (nI T0)), (6, .int (nI 1)), (7, .int (nI j)), (8, .int (nI X)), (10, .int (nI (X % 20))), (11, .int (nI 0))]) [0, 1, 2, 3, 4, 5, 6, 7, 8, 9, 10] rfl ?_
    exact lw_239_n hXs hL kk ha hb (T.up (by rw [hps]; simp)) ((kup_n _ _ hne).trans hpn) (kup_s _ _ _) hne I hX hu0 hu1 hu2 hdn hn_0 hn_1 hn_2 hfs2 hj (by omega) (by omega)
  · skip
    have h4 : X % 20 = 4 := (nI_eq (by omega) (by omega)).mp c6
    refine r_iload dL_law_211 10 rfl ?_
    refine r_if_eq (tgt := 229) dL_law_213 (by decide) (fun _ => ?_) (fun c9 => absurd c9 (by decide))
    refine r_aload dL_law_229 4 rfl ?_
    refine r_aload_n dL_law_231 3 rfl ?_
    refine r_iconst (v := nI 1) dL_law_232 (by decide) ?_
    refine r_iald dL_law_233 (dw_at T.ga (dw_at T.2.1 hpn)) (vp_in_nI (by decide) (by decide)) ?_
    rw [show fn (nI 1).toNatClampNeg = nI mC from hn_1]
    refine r_bipush (v := nI 6) dL_law_234 (by decide) ?_
    refine r_irem dL_law_236 (by decide) ?_
    rw [nI_mod (a := mC) (b := 6) (by omega) (by omega) (by omega)]
    refine r_iald dL_law_237 (dw_at T.ga (dw_at T.2.1 hps)) (vp_in_nI (Nat.mod_lt _ (by omega)) (by decide)) ?_
    rw [show fs (nI (mC % 6)).toNatClampNeg = fs (mC % 6) from by rw [nI_clamp (by omega)]]
    have hm : nC = mC := by rw [hu1, if_neg (fun z => z.2 hdn), Nat.add_zero]
    have hfs2 : ∀ k, k < nC → upd fs (nI (mC % 6)).toNatClampNeg (fs (mC % 6)) k = dt 11 k := fun k hk => by
      rw [nI_clamp (by omega)]
      by_cases c8 : k = mC % 6
      · rw [c8, upd_s]; rw [c8] at hk; exact hfm _ (by omega)
      · rw [upd_n _ _ c8]; exact hfm k (by omega)
    refine r_iast dL_law_238 (dw_at T.ga (dw_at T.2.1 hps)) (vp_in_nI (Nat.mod_lt _ (by omega)) (by decide)) ?_
    rw [dw_kup T.ga (by rw [dw_at T.2.1 hps]; simp), dw_kup T.2.1 (by rw [hps]; simp)]
    refine r_lo (lo' := [(0, .ref bs), (1, .ref q1), (2, .ref q2), (3, .ref pn), (4, .ref ps), (5, .int (nI T0)), (6, .int (nI 1)), (7, .int (nI j)), (8, .int (nI X)), (10, .int (nI (X % 20))), (11, .int (nI 0))]) [0, 1, 2, 3, 4, 5, 6, 7, 8, 9, 10] rfl ?_
    exact lw_239_n hXs hL kk ha hb (T.up (by rw [hps]; simp)) ((kup_n _ _ hne).trans hpn) (kup_s _ _ _) hne I hX hu0 hu1 hu2 hdn hn_0 hn_1 hn_2 hfs2 hj (by omega) (by omega)

set_option maxHeartbeats 8000000 in
set_option maxRecDepth 100000 in
theorem lw_178 {E : kE} {X9 : kX} {bs L : Nat} {xs : Nat → Int32} {q1 q2 pn ps T0 j : Nat} {a cap b capb : Nat → Nat} {h0 : kH} {dt : kM} {nF nC nE w : Nat} {fn fs : Nat → Int32} {X : Nat} {mF mC mE : Nat} {dn : Int32} (hXs : kScr X9 bs L xs) (hL : L ≤ 260) (kk : ∀ (k n : Nat) (H : kH), k ≤ 40 + 1284 * (j + 1) + 16000 * (((j + 1) + 4) / 5) → n ≤ 20000 + 25360 * (j + 1) + 96000 * (((j + 1) + 4) / 5) → LSt E q1 q2 pn ps H → V E X9 room_1 cL_law 12 wsL_law RL k n (H) [(0, .ref bs), (1, .ref q1), (2, .ref q2), (3, .ref pn), (4, .ref ps), (5, .int (nI T0)), (6, .int (nI 1)), (7, .int (nI (j + 1)))] 45 []) (ha : a 15 = q1) (hb : b 15 = q2) (T : Two E a cap nF nC nE b capb nF nC nE h0) (hpn : h0 pn = some (.inl (kI E, 3, .inl fn))) (hps : h0 ps = some (.inl (kI E, 6, .inl fs))) (hne : pn ≠ ps) (I : INV dt nF nC nE w) (hX : X < 2 ^ 31) (hu0 : nF = mF + (if (X % 20 < 2 ∨ X % 20 = 3) ∧ ¬ dn < 0 then 1 else 0)) (hu1 : nC = mC + (if X % 20 = 4 ∧ ¬ dn < 0 then 1 else 0)) (hu2 : nE = mE + (if (9 ≤ X % 20 ∧ X % 20 ≤ 11) ∧ ¬ dn < 0 then 1 else 0)) (hn_0 : fn 0 = nI mF) (hn_1 : fn 1 = nI mC) (hn_2 : fn 2 = nI mE) (hcam : X % 20 = 4 → ¬ dn < 0 → dt 11 mC = nI (1 + X / 20 % 20)) (hfm : ∀ k, k < mC → fs k = dt 11 k) (hj : j < 70) {k n : Nat} (hk : k ≤ 40 + 1284 * j + 16000 * ((j + 4) / 5) + 624) (hn : n ≤ 20000 + 25360 * j + 96000 * ((j + 4) / 5) + 13000) : V E X9 room_1 cL_law 12 wsL_law RL k n (dw E a cap nF nC nE dt (dw E b capb nF nC nE dt h0)) [(0, .ref bs), (1, .ref q1), (2, .ref q2), (3, .ref pn), (4, .ref ps), (5, .int (nI T0)), (6, .int (nI 1)), (7, .int (nI j)), (8, .int (nI X)), (9, .int dn)] 178 [] := by
  obtain ⟨hF, hF20, hC, hC6, hE, hE80, hW, hW3, hpl, hof, hsp⟩ := id I.dv
  refine r_iload dL_law_178 8 rfl ?_
  refine r_bipush (v := nI 20) dL_law_180 (by decide) ?_
  refine r_irem dL_law_182 (by decide) ?_
  rw [nI_mod (a := X) (b := 20) (by omega) (by omega) (by omega)]
  refine r_istore (lo' := [(10, .int (nI (X % 20))), (0, .ref bs), (1, .ref q1), (2, .ref q2), (3, .ref pn), (4, .ref ps), (5, .int (nI T0)), (6, .int (nI 1)), (7, .int (nI j)), (8, .int (nI X)), (9, .int dn)]) dL_law_183 (by decide) rfl ?_
  refine r_iload dL_law_185 10 rfl ?_
  refine r_if_lt (tgt := 194) dL_law_187 (by decide) (fun c6 => ?_) (fun c6 => ?_)
  · skip
    refine r_iconst (v := nI 0) dL_law_194 (by decide) ?_
    refine r_istore (lo' := [(11, .int (nI 0)), (10, .int (nI (X % 20))), (0, .ref bs), (1, .ref q1), (2, .ref q2), (3, .ref pn), (4, .ref ps), (5, .int (nI T0)), (6, .int (nI 1)), (7, .int (nI j)), (8, .int (nI X)), (9, .int dn)]) dL_law_195 (by decide) rfl ?_
    refine r_lo (lo' := [(0, .ref bs), (1, .ref q1), (2, .ref q2), (3, .ref pn), (4, .ref ps), (5, .int (nI T0)), (6, .int (nI 1)), (7, .int (nI j)), (8, .int (nI X)), (10, .int (nI (X % 20))), (11, .int (nI 0))]) [2, 3, 4, 5, 6, 7, 8, 9, 10, 1, 0] rfl ?_
    exact lw_197_n hXs hL kk ha hb T hpn hps hne I hX hu0 hu1 hu2 c6 hn_0 hn_1 hn_2 hcam hfm hj (by omega) (by omega)
  · skip
    refine r_iconst (v := nI 1) dL_law_190 (by decide) ?_
    refine r_goto (tgt := 195) dL_law_191 (by decide) ?_
    refine r_istore (lo' := [(11, .int (nI 1)), (10, .int (nI (X % 20))), (0, .ref bs), (1, .ref q1), (2, .ref q2), (3, .ref pn), (4, .ref ps), (5, .int (nI T0)), (6, .int (nI 1)), (7, .int (nI j)), (8, .int (nI X)), (9, .int dn)]) dL_law_195 (by decide) rfl ?_
    refine r_lo (lo' := [(0, .ref bs), (1, .ref q1), (2, .ref q2), (3, .ref pn), (4, .ref ps), (5, .int (nI T0)), (6, .int (nI 1)), (7, .int (nI j)), (8, .int (nI X)), (10, .int (nI (X % 20))), (11, .int (nI 1))]) [2, 3, 4, 5, 6, 7, 8, 9, 10, 1, 0] rfl ?_
    exact lw_197_y hXs hL kk ha hb T hpn hps hne I hX hu0 hu1 hu2 c6 hn_0 hn_1 hn_2 hcam hfm hj (by omega) (by omega)

set_option maxHeartbeats 8000000 in
set_option maxRecDepth 100000 in
theorem lw_136 {E : kE} {X9 : kX} {bs L : Nat} {xs : Nat → Int32} {q1 q2 pn ps T0 j : Nat} {a cap b capb : Nat → Nat} {h0 : kH} {dt : kM} {nF nC nE w : Nat} {fn fs : Nat → Int32} {X : Nat} (hXs : kScr X9 bs L xs) (hL : L ≤ 260) (kk : ∀ (k n : Nat) (H : kH), k ≤ 40 + 1284 * (j + 1) + 16000 * (((j + 1) + 4) / 5) → n ≤ 20000 + 25360 * (j + 1) + 96000 * (((j + 1) + 4) / 5) → LSt E q1 q2 pn ps H → V E X9 room_1 cL_law 12 wsL_law RL k n (H) [(0, .ref bs), (1, .ref q1), (2, .ref q2), (3, .ref pn), (4, .ref ps), (5, .int (nI T0)), (6, .int (nI 1)), (7, .int (nI (j + 1)))] 45 []) (ha : a 15 = q1) (hb : b 15 = q2) (T : Two E a cap nF nC nE b capb nF nC nE h0) (hpn : h0 pn = some (.inl (kI E, 3, .inl fn))) (hps : h0 ps = some (.inl (kI E, 6, .inl fs))) (hne : pn ≠ ps) (I : INV dt nF nC nE w) (hX : X < 2 ^ 31) (hn_0 : fn 0 = nI nF) (hn_1 : fn 1 = nI nC) (hn_2 : fn 2 = nI nE) (hfs : ∀ k, k < nC → fs k = dt 11 k) (hj : j < 70) {k n : Nat} (hk : k ≤ 40 + 1284 * j + 16000 * ((j + 4) / 5) + 0) (hn : n ≤ 20000 + 25360 * j + 96000 * ((j + 4) / 5) + 0) : V E X9 room_1 cL_law 12 wsL_law RL k n (dw E a cap nF nC nE dt (dw E b capb nF nC nE dt h0)) [(0, .ref bs), (1, .ref q1), (2, .ref q2), (3, .ref pn), (4, .ref ps), (5, .int (nI T0)), (6, .int (nI 1)), (7, .int (nI j)), (8, .int (nI X))] 136 [] := by
  obtain ⟨hF, hF20, hC, hC6, hE, hE80, hW, hW3, hpl, hof, hsp⟩ := id I.dv
  refine r_aload_n dL_law_136 1 rfl ?_
  refine r_aload_n dL_law_137 3 rfl ?_
  refine r_iload dL_law_138 8 rfl ?_
  refine r_callSi (nn := 3) (As := [.ref q1, .ref pn, .int (nI X)]) (st := []) dL_law_140 (tA_act T ha I.dv hX hpn hn_0 hn_1 hn_2) gL_law_L_act rfl (by decide +kernel) ⟨Nat.le_of_ble_eq_true rfl, Nat.le_of_ble_eq_true rfl⟩ ⟨rfl, rfl⟩ rfl (Nat.le_of_ble_eq_true rfl) ⟨by show _ ≤ 640345; omega, by show _ ≤ 7180433; omega⟩ rfl (fun r hh hp => ?_)
  obtain ⟨cs, hS, hcs⟩ := step_ok I X
  rcases hS with ⟨c, ho, hc0⟩ | ⟨v, dt2, w2, ho, I2, hv, h11, hc1⟩
  · rw [ho] at hp
    obtain ⟨hr, hhe⟩ := hp
    rw [hhe, hr]
    refine r_istore (lo' := [(9, .int c), (0, .ref bs), (1, .ref q1), (2, .ref q2), (3, .ref pn), (4, .ref ps), (5, .int (nI T0)), (6, .int (nI 1)), (7, .int (nI j)), (8, .int (nI X))]) dL_law_143 (by decide) rfl ?_
    refine r_aload_n dL_law_145 3 rfl ?_
    refine r_aload_n dL_law_146 4 rfl ?_
    refine r_iload dL_law_147 9 rfl ?_
    refine r_sipush (v := nI 9973) dL_law_149 (by decide) ?_
    refine r_irem dL_law_152 (by decide) ?_
    rw [nI_mod (a := X) (b := 9973) (by omega) (by omega) (by omega)]
    refine r_callSi (nn := 3) (As := [.ref q2, .ref pn, .int (nI (X % 9973))]) (st := []) dL_law_153 (tB_refuses (X := X % 9973) T hb I.dv (by have := Nat.mod_lt X (show 0 < 9973 by omega); omega) hpn hn_0 hn_1 hn_2) gL_law_L_refuses rfl (by decide +kernel) ⟨Nat.le_of_ble_eq_true rfl, Nat.le_of_ble_eq_true rfl⟩ ⟨rfl, rfl⟩ rfl (Nat.le_of_ble_eq_true rfl) ⟨by show _ ≤ 640345; omega, by show _ ≤ 7180433; omega⟩ rfl (fun r hh hp => ?_)
    obtain ⟨hr, hhe⟩ := hp
    rw [hhe, hr]
    refine r_if_eq (tgt := 175) dL_law_156 (by decide) (fun c9 => absurd c9 (by decide)) (fun _ => ?_)
    refine r_aload_n dL_law_159 3 rfl ?_
    refine r_aload_n dL_law_160 4 rfl ?_
    refine r_iload dL_law_161 9 rfl ?_
    refine r_callSi (nn := 3) (As := [.ref q2, .ref pn, .int (nI X)]) (st := []) dL_law_163 (tB_act T hb I.dv hX hpn hn_0 hn_1 hn_2) gL_law_L_act rfl (by decide +kernel) ⟨Nat.le_of_ble_eq_true rfl, Nat.le_of_ble_eq_true rfl⟩ ⟨rfl, rfl⟩ rfl (Nat.le_of_ble_eq_true rfl) ⟨by show _ ≤ 640345; omega, by show _ ≤ 7180433; omega⟩ rfl (fun r hh hp => ?_)
    rw [ho] at hp
    obtain ⟨hr, hhe⟩ := hp
    rw [hhe, hr, ← T.swap]
    refine r_iload dL_law_166 0 rfl ?_
    refine r_icmp_ne (tgt := 175) dL_law_168 (by decide) (fun c9 => absurd rfl c9) (fun _ => ?_)
    refine r_iconst (v := nI 1) dL_law_171 (by decide) ?_
    refine r_goto (tgt := 176) dL_law_172 (by decide) ?_
    refine r_istore (lo' := [(6, .int (nI 1)), (9, .int c), (0, .ref bs), (1, .ref q1), (2, .ref q2), (3, .ref pn), (4, .ref ps), (5, .int (nI T0)), (7, .int (nI j)), (8, .int (nI X))]) dL_law_176 (by decide) rfl ?_
    refine r_lo (lo' := [(0, .ref bs), (1, .ref q1), (2, .ref q2), (3, .ref pn), (4, .ref ps), (5, .int (nI T0)), (6, .int (nI 1)), (7, .int (nI j)), (8, .int (nI X)), (9, .int c)]) [2, 3, 4, 5, 6, 7, 0, 8, 9, 1] rfl ?_
    exact lw_178 (mF := nF) (mC := nC) (mE := nE) (dn := c) hXs hL kk ha hb T hpn hps hne I hX (by rw [if_neg (fun z => z.2 hc0), Nat.add_zero]) (by rw [if_neg (fun z => z.2 hc0), Nat.add_zero]) (by rw [if_neg (fun z => z.2 hc0), Nat.add_zero]) hn_0 hn_1 hn_2 (fun _ z => absurd hc0 z) hfs hj (by omega) (by omega)
  · rw [ho] at hp
    obtain ⟨hr, a2, cap2, h15, hg2, hhe⟩ := hp
    rw [hhe, hr]
    have T1 := Two.of T.2.1 hg2
    refine r_istore (lo' := [(9, .int v), (0, .ref bs), (1, .ref q1), (2, .ref q2), (3, .ref pn), (4, .ref ps), (5, .int (nI T0)), (6, .int (nI 1)), (7, .int (nI j)), (8, .int (nI X))]) dL_law_143 (by decide) rfl ?_
    refine r_aload_n dL_law_145 3 rfl ?_
    refine r_aload_n dL_law_146 4 rfl ?_
    refine r_iload dL_law_147 9 rfl ?_
    refine r_sipush (v := nI 9973) dL_law_149 (by decide) ?_
    refine r_irem dL_law_152 (by decide) ?_
    rw [nI_mod (a := X) (b := 9973) (by omega) (by omega) (by omega)]
    refine r_callSi (nn := 3) (As := [.ref q2, .ref pn, .int (nI (X % 9973))]) (st := []) dL_law_153 (tB_refuses (X := X % 9973) T1 hb I.dv (by have := Nat.mod_lt X (show 0 < 9973 by omega); omega) hpn hn_0 hn_1 hn_2) gL_law_L_refuses rfl (by decide +kernel) ⟨Nat.le_of_ble_eq_true rfl, Nat.le_of_ble_eq_true rfl⟩ ⟨rfl, rfl⟩ rfl (Nat.le_of_ble_eq_true rfl) ⟨by show _ ≤ 640345; omega, by show _ ≤ 7180433; omega⟩ rfl (fun r hh hp => ?_)
    obtain ⟨hr, hhe⟩ := hp
    rw [hhe, hr]
    refine r_if_eq (tgt := 175) dL_law_156 (by decide) (fun c9 => absurd c9 (by decide)) (fun _ => ?_)
    refine r_aload_n dL_law_159 3 rfl ?_
    refine r_aload_n dL_law_160 4 rfl ?_
    refine r_iload dL_law_161 9 rfl ?_
    refine r_callSi (nn := 3) (As := [.ref q2, .ref pn, .int (nI X)]) (st := []) dL_law_163 (tB_act T1 hb I.dv hX hpn hn_0 hn_1 hn_2) gL_law_L_act rfl (by decide +kernel) ⟨Nat.le_of_ble_eq_true rfl, Nat.le_of_ble_eq_true rfl⟩ ⟨rfl, rfl⟩ rfl (Nat.le_of_ble_eq_true rfl) ⟨by show _ ≤ 640345; omega, by show _ ≤ 7180433; omega⟩ rfl (fun r hh hp => ?_)
    rw [ho] at hp
    obtain ⟨hr, b2, capb2, h15b, hg2b, hhe⟩ := hp
    have T2 := (Two.of T1.1 hg2b).sym
    rw [hhe, hr, ← T2.swap]
    refine r_iload dL_law_166 0 rfl ?_
    refine r_icmp_ne (tgt := 175) dL_law_168 (by decide) (fun c9 => absurd rfl c9) (fun _ => ?_)
    refine r_iconst (v := nI 1) dL_law_171 (by decide) ?_
    refine r_goto (tgt := 176) dL_law_172 (by decide) ?_
    refine r_istore (lo' := [(6, .int (nI 1)), (9, .int v), (0, .ref bs), (1, .ref q1), (2, .ref q2), (3, .ref pn), (4, .ref ps), (5, .int (nI T0)), (7, .int (nI j)), (8, .int (nI X))]) dL_law_176 (by decide) rfl ?_
    refine r_lo (lo' := [(0, .ref bs), (1, .ref q1), (2, .ref q2), (3, .ref pn), (4, .ref ps), (5, .int (nI T0)), (6, .int (nI 1)), (7, .int (nI j)), (8, .int (nI X)), (9, .int v)]) [2, 3, 4, 5, 6, 7, 0, 8, 9, 1] rfl ?_
    have u0 : nF + uF_ X = nF + (if (X % 20 < 2 ∨ X % 20 = 3) ∧ ¬ v < 0 then 1 else 0) := by
      unfold uF_ at hv ⊢
      by_cases c8 : X % 20 < 2 ∨ X % 20 = 3
      · rw [if_pos c8] at hv ⊢; rw [if_pos ⟨c8, hv (by omega)⟩]
      · rw [if_neg c8, if_neg (fun z => c8 z.1)]
    have u1 : nC + uC_ X = nC + (if X % 20 = 4 ∧ ¬ v < 0 then 1 else 0) := by
      unfold uC_ at hv ⊢
      by_cases c8 : X % 20 = 4
      · rw [if_pos c8] at hv ⊢; rw [if_pos ⟨c8, hv (by omega)⟩]
      · rw [if_neg c8, if_neg (fun z => c8 z.1)]
    have u2 : nE + uE_ X = nE + (if (9 ≤ X % 20 ∧ X % 20 ≤ 11) ∧ ¬ v < 0 then 1 else 0) := by
      unfold uE_ at hv ⊢
      by_cases c8 : 9 ≤ X % 20 ∧ X % 20 ≤ 11
      · rw [if_pos c8] at hv ⊢; rw [if_pos ⟨c8, hv (by omega)⟩]
      · rw [if_neg c8, if_neg (fun z => c8 z.1)]
    exact lw_178 (mF := nF) (mC := nC) (mE := nE) (dn := v) hXs hL kk (h15.trans ha) (h15b.trans hb) T2 hpn hps hne I2 hX u0 u1 u2 hn_0 hn_1 hn_2 (fun z _ => (hc1 (by unfold uC_; rw [if_pos z])).trans (hcs z)) (fun k hk => (hfs k hk).trans (h11 k hk).symm) hj (by omega) (by omega)

set_option maxHeartbeats 8000000 in
set_option maxRecDepth 100000 in
theorem law_loop {E : kE} {X9 : kX} {bs L : Nat} {xs : Nat → Int32} {q1 q2 pn ps T0 : Nat} (hXs : kScr X9 bs L xs) (hL : L ≤ 260) (kend : ∀ (k n : Nat) (h : kH) (lo : List (Nat × Value)), k ≤ 640345 → n ≤ 7180433 → V E X9 room_1 cL_law 12 wsL_law RL k n h lo 448 [.int (nI 1)]) (hT : T0 ≤ 70) : ∀ (d j k n : Nat) (H : kH), T0 < j + d → j ≤ T0 → k ≤ 40 + 1284 * j + 16000 * ((j + 4) / 5) → n ≤ 20000 + 25360 * j + 96000 * ((j + 4) / 5) → LSt E q1 q2 pn ps H → V E X9 room_1 cL_law 12 wsL_law RL k n (H) [(0, .ref bs), (1, .ref q1), (2, .ref q2), (3, .ref pn), (4, .ref ps), (5, .int (nI T0)), (6, .int (nI 1)), (7, .int (nI j))] 45 [] := by
  intro d
  induction d with
  | zero =>
    intro j k n H h1 h2
    exact absurd h1 (by omega)
  | succ d ih =>
    intro j k n H h1 hjT hk hn hS
    obtain ⟨a, cap, b, capb, h0, dt, nF, nC, nE, w, fn, fs, ha, hb, T, hpn, hps, hne, hn_0, hn_1, hn_2, hfs, I, rfl⟩ := hS
    refine r_iload dL_law_45 7 rfl ?_
    refine r_iload dL_law_47 5 rfl ?_
    refine r_icmp_ge (tgt := 385) dL_law_49 (by decide) (fun c6 => ?_) (fun c6 => ?_)
    · skip
      refine r_lo (lo' := [(0, .ref bs), (1, .ref q1), (2, .ref q2), (3, .ref pn), (4, .ref ps), (5, .int (nI T0)), (6, .int (nI 1)), (7, .int (nI j))]) [0, 1, 2, 3, 4, 5, 6, 7] rfl ?_
      exact lw_385 hXs hL kend ha hb T hpn hps hne I hn_0 hn_1 hn_2 hfs hT hjT hk hn
    · skip
      have hlt : j < T0 := (nI_ltI (by omega) (by omega)).mp c6
      refine r_iload dL_law_52 6 rfl ?_
      refine r_if_eq (tgt := 385) dL_law_54 (by decide) (fun c9 => absurd c9 (by decide)) (fun _ => ?_)
      refine r_aload_n dL_law_57 0 rfl ?_
      refine r_iconst (v := nI 1) dL_law_58 (by decide) ?_
      refine r_iload dL_law_59 7 rfl ?_
      refine r_iadd dL_law_61 ?_
      rw [nI_add 1 j]
      refine r_callSiS (nn := 2) (As := [.ref bs, .int (nI (1 + j))]) (st := []) hXs dL_law_62 (tK_drawn (1 + j) (by omega) (by omega)) gL_law_L_drawn rfl (by decide +kernel) ⟨Nat.le_of_ble_eq_true rfl, Nat.le_of_ble_eq_true rfl⟩ ⟨rfl, rfl⟩ rfl (Nat.le_of_ble_eq_true rfl) ⟨by show _ ≤ 640345; omega, by show _ ≤ 7180433; omega⟩ rfl (fun r hh hp => ?_)
      obtain ⟨⟨R4, hR4, hr⟩, hhe⟩ := hp
      rw [hhe, hr]
      refine r_ldc (v := nI 2000000000) dL_law_65 (by decide +kernel) ?_
      refine r_irem dL_law_67 (by decide) ?_
      rw [nI_mod (a := R4) (b := 2000000000) (by omega) (by omega) (by omega)]
      refine r_istore (lo' := [(8, .int (nI (R4 % 2000000000))), (0, .ref bs), (1, .ref q1), (2, .ref q2), (3, .ref pn), (4, .ref ps), (5, .int (nI T0)), (6, .int (nI 1)), (7, .int (nI j))]) dL_law_68 (by decide) rfl ?_
      refine r_iload dL_law_70 8 rfl ?_
      refine r_iconst (v := nI 2) dL_law_72 (by decide) ?_
      refine r_icmp_ge (tgt := 87) dL_law_73 (by decide) (fun c7 => ?_) (fun c7 => ?_)
      · skip
        refine r_iload dL_law_87 8 rfl ?_
        refine r_iconst (v := nI 4) dL_law_89 (by decide) ?_
        refine r_icmp_ge (tgt := 106) dL_law_90 (by decide) (fun c8 => ?_) (fun c8 => ?_)
        · skip
          refine r_iload dL_law_106 8 rfl ?_
          refine r_bipush (v := nI 8) dL_law_108 (by decide) ?_
          refine r_icmp_ge (tgt := 132) dL_law_110 (by decide) (fun c9a => ?_) (fun c9a => ?_)
          · skip
            refine r_iload dL_law_132 0 rfl ?_
            refine r_istore (lo' := [(8, .int (nI (R4 % 2000000000))), (0, .ref bs), (1, .ref q1), (2, .ref q2), (3, .ref pn), (4, .ref ps), (5, .int (nI T0)), (6, .int (nI 1)), (7, .int (nI j))]) dL_law_134 (by decide) rfl ?_
            refine r_lo (lo' := [(0, .ref bs), (1, .ref q1), (2, .ref q2), (3, .ref pn), (4, .ref ps), (5, .int (nI T0)), (6, .int (nI 1)), (7, .int (nI j)), (8, .int (nI (R4 % 2000000000)))]) [1, 2, 3, 4, 5, 6, 7, 8, 0] rfl ?_
            exact lw_136 (X := R4 % 2000000000) hXs hL (fun k n H h1 h2 h3 => ih (j + 1) k n H (by omega) (by omega) h1 h2 h3) ha hb T hpn hps hne I (by omega) hn_0 hn_1 hn_2 hfs (by omega) hk hn
          · skip
            refine r_bipush (v := nI 20) dL_law_113 (by decide) ?_
            refine r_iload dL_law_115 0 rfl ?_
            refine r_bipush (v := nI 20) dL_law_117 (by decide) ?_
            refine r_idiv dL_law_119 (by decide) ?_
            rw [nI_div (a := R4 % 2000000000) (b := 20) (by omega) (by omega) (by omega)]
            refine r_imul dL_law_120 ?_
            rw [pk_mul 20 ((R4 % 2000000000) / 20)]
            refine r_bipush (v := nI 7) dL_law_121 (by decide) ?_
            refine r_iadd dL_law_123 ?_
            rw [nI_add (20 * ((R4 % 2000000000) / 20)) 7]
            refine r_iload dL_law_124 8 rfl ?_
            refine r_iconst (v := nI 2) dL_law_126 (by decide) ?_
            refine r_irem dL_law_127 (by decide) ?_
            rw [nI_mod (a := j) (b := 2) (by omega) (by omega) (by omega)]
            refine r_iadd dL_law_128 ?_
            rw [nI_add (20 * ((R4 % 2000000000) / 20) + 7) (j % 2)]
            refine r_goto (tgt := 134) dL_law_129 (by decide) ?_
            refine r_istore (lo' := [(8, .int (nI (20 * ((R4 % 2000000000) / 20) + 7 + (j % 2)))), (0, .ref bs), (1, .ref q1), (2, .ref q2), (3, .ref pn), (4, .ref ps), (5, .int (nI T0)), (6, .int (nI 1)), (7, .int (nI j))]) dL_law_134 (by decide) rfl ?_
            refine r_lo (lo' := [(0, .ref bs), (1, .ref q1), (2, .ref q2), (3, .ref pn), (4, .ref ps), (5, .int (nI T0)), (6, .int (nI 1)), (7, .int (nI j)), (8, .int (nI (20 * ((R4 % 2000000000) / 20) + 7 + (j % 2))))]) [1, 2, 3, 4, 5, 6, 7, 8, 0] rfl ?_
            exact lw_136 (X := 20 * ((R4 % 2000000000) / 20) + 7 + (j % 2)) hXs hL (fun k n H h1 h2 h3 => ih (j + 1) k n H (by omega) (by omega) h1 h2 h3) ha hb T hpn hps hne I (by omega) hn_0 hn_1 hn_2 hfs (by omega) hk hn
        · skip
          refine r_bipush (v := nI 20) dL_law_93 (by decide) ?_
          refine r_iload dL_law_95 0 rfl ?_
          refine r_bipush (v := nI 20) dL_law_97 (by decide) ?_
          refine r_idiv dL_law_99 (by decide) ?_
          rw [nI_div (a := R4 % 2000000000) (b := 20) (by omega) (by omega) (by omega)]
          refine r_imul dL_law_100 ?_
          rw [pk_mul 20 ((R4 % 2000000000) / 20)]
          refine r_iconst (v := nI 4) dL_law_101 (by decide) ?_
          refine r_iadd dL_law_102 ?_
          rw [nI_add (20 * ((R4 % 2000000000) / 20)) 4]
          refine r_goto (tgt := 134) dL_law_103 (by decide) ?_
          refine r_istore (lo' := [(8, .int (nI (20 * ((R4 % 2000000000) / 20) + 4))), (0, .ref bs), (1, .ref q1), (2, .ref q2), (3, .ref pn), (4, .ref ps), (5, .int (nI T0)), (6, .int (nI 1)), (7, .int (nI j))]) dL_law_134 (by decide) rfl ?_
          refine r_lo (lo' := [(0, .ref bs), (1, .ref q1), (2, .ref q2), (3, .ref pn), (4, .ref ps), (5, .int (nI T0)), (6, .int (nI 1)), (7, .int (nI j)), (8, .int (nI (20 * ((R4 % 2000000000) / 20) + 4)))]) [1, 2, 3, 4, 5, 6, 7, 8, 0] rfl ?_
          exact lw_136 (X := 20 * ((R4 % 2000000000) / 20) + 4) hXs hL (fun k n H h1 h2 h3 => ih (j + 1) k n H (by omega) (by omega) h1 h2 h3) ha hb T hpn hps hne I (by omega) hn_0 hn_1 hn_2 hfs (by omega) hk hn
      · skip
        refine r_bipush (v := nI 20) dL_law_76 (by decide) ?_
        refine r_iload dL_law_78 0 rfl ?_
        refine r_bipush (v := nI 20) dL_law_80 (by decide) ?_
        refine r_idiv dL_law_82 (by decide) ?_
        rw [nI_div (a := R4 % 2000000000) (b := 20) (by omega) (by omega) (by omega)]
        refine r_imul dL_law_83 ?_
        rw [pk_mul 20 ((R4 % 2000000000) / 20)]
        refine r_goto (tgt := 134) dL_law_84 (by decide) ?_
        refine r_istore (lo' := [(8, .int (nI (20 * ((R4 % 2000000000) / 20)))), (0, .ref bs), (1, .ref q1), (2, .ref q2), (3, .ref pn), (4, .ref ps), (5, .int (nI T0)), (6, .int (nI 1)), (7, .int (nI j))]) dL_law_134 (by decide) rfl ?_
        refine r_lo (lo' := [(0, .ref bs), (1, .ref q1), (2, .ref q2), (3, .ref pn), (4, .ref ps), (5, .int (nI T0)), (6, .int (nI 1)), (7, .int (nI j)), (8, .int (nI (20 * ((R4 % 2000000000) / 20))))]) [1, 2, 3, 4, 5, 6, 7, 8, 0] rfl ?_
        exact lw_136 (X := 20 * ((R4 % 2000000000) / 20)) hXs hL (fun k n H h1 h2 h3 => ih (j + 1) k n H (by omega) (by omega) h1 h2 h3) ha hb T hpn hps hne I (by omega) hn_0 hn_1 hn_2 hfs (by omega) hk hn
