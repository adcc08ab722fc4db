theorem kup4 (h : kH) {x q : Nat} {e1 e2 e3 e4 : va_E} (hn : x ≠ q) : kup (kup (kup (kup h q e1) x e2) q e3) x e4 = kup (kup h q e3) x e4 := by
  funext z
  by_cases c : z = x
  · subst c; simp [kup]
  · by_cases d : z = q
    · subst d; simp [kup, c]
    · simp [kup, c, d]
abbrev rmJx4a65c_grow_92f84 : Room := { frames := 3, cells := 1, slots := 400, locals := 240 }
set_option maxHeartbeats 4000000 in
set_option maxRecDepth 100000 in
theorem tJx4a65c_grow_92f84A {E : kE} {h : kH} (x : Nat) (m : Int32) (hx : h x = some (.inr (5, [.int m, .ref (kN E), .int 0]))) : kCq E yJx4a65c_grow_92f84 wsJx4a65c_grow_92f84 rmJx4a65c_grow_92f84 1 400 [.ref x, .int (nI 1)] h (fun r h' => ∃ q, h q = none ∧ r = some q ∧ h' = kup (kup h q (.inl (kO E, 10, .inr (.inr (.inr (.inr (fun _ => none))))))) x (.inr (5, [.int m, .ref q, .int 0]))) := by
  refine kCq_of (rt := .array (.object "java/lang/Object")) (own := RJx4a65c) (cc := cJx4a65c_grow_92f84) (maxL := 4) (by decide) rfl rfl (Or.inr ⟨_, rfl⟩) (Nat.le_of_ble_eq_true rfl) ?_
  intro X hini kret
  refine r_lo (lo' := [(0, .ref x), (1, .int (nI 1))]) [0, 1] rfl ?_
  refine r_aload_n dJx4a65c_grow_92f84_0 0 rfl ?_
  refine r_get (C := RJx4a65c) (ref := RJx4a65c) (b := .ref (kN E)) dJx4a65c_grow_92f84_1 (by decide +kernel : ∀ w ∈ u_ws RJx4a65c TJx4a65c 3, w ∈ wsJx4a65c_grow_92f84) hx rfl 1 (by decide) (by decide +kernel : Cond.fieldLink RJx4a65c 9 RJx4a65c "elementData" "[Ljava/lang/Object;" ∈ wsJx4a65c_grow_92f84) rfl rfl ?_
  refine r_elen dJx4a65c_grow_92f84_4 ?_
  refine r_istore_n (lo' := [(2, .int 0), (0, .ref x), (1, .int (nI 1))]) dJx4a65c_grow_92f84_5 (by decide) rfl ?_
  refine r_iload_n dJx4a65c_grow_92f84_6 0 rfl ?_
  refine r_if_gt (tgt := 20) dJx4a65c_grow_92f84_7 (by decide) (fun z => absurd z (by decide)) (fun _ => ?_)
  refine r_aload_n dJx4a65c_grow_92f84_10 1 rfl ?_
  refine r_get (C := RJx4a65c) (ref := RJx4a65c) (b := .ref (kN E)) dJx4a65c_grow_92f84_11 (by decide +kernel : ∀ w ∈ u_ws RJx4a65c TJx4a65c 3, w ∈ wsJx4a65c_grow_92f84) hx rfl 1 (by decide) (by decide +kernel : Cond.fieldLink RJx4a65c 9 RJx4a65c "elementData" "[Ljava/lang/Object;" ∈ wsJx4a65c_grow_92f84) rfl rfl ?_
  refine r_empty dJx4a65c_grow_92f84_14 (by decide +kernel : Cond.fieldLink RJx4a65c 39 RJx4a65c "DEFAULTCAPACITY_EMPTY_ELEMENTDATA" "[Ljava/lang/Object;" ∈ wsJx4a65c_grow_92f84) ?_
  refine r_acmp_eq (tgt := 45) dJx4a65c_grow_92f84_17 (by decide) (fun _ => ?_) (fun z => absurd rfl z)
  refine r_aload_n dJx4a65c_grow_92f84_45 1 rfl ?_
  refine r_bipush (v := 10) dJx4a65c_grow_92f84_46 (by decide) ?_
  refine r_iload_n dJx4a65c_grow_92f84_48 2 rfl ?_
  refine r_mmax dJx4a65c_grow_92f84_49 (by decide +kernel : Cond.methodLink RJx4a65c 79 Lib.Math.max.name ∈ wsJx4a65c_grow_92f84) (by decide +kernel : Cond.static Lib.Math.max.name ∈ wsJx4a65c_grow_92f84) (by decide +kernel : Cond.initialized "java/lang/Math" ∈ wsJx4a65c_grow_92f84) (by decide +kernel : Cond.code Lib.Math.max.name Lib.Math.max.code 2 (some .int) ∈ wsJx4a65c_grow_92f84) (by decide) (Nat.le_of_ble_eq_true rfl) (Nat.le_of_ble_eq_true rfl) (Nat.le_of_ble_eq_true rfl) ?_
  rw [show (if (10 : Int32) < nI 1 then nI 1 else 10) = nI 10 from by decide]
  refine r_newO (N := 10) dJx4a65c_grow_92f84_52 (by decide +kernel : Cond.classLink RJx4a65c 7 "java/lang/Object" ∈ wsJx4a65c_grow_92f84) (nI_pos (by decide)) (nI_clamp (by decide)) (by decide) (Nat.le_of_ble_eq_true rfl) (Nat.le_of_ble_eq_true rfl) (fun q hq => ?_)
  refine r_dup_x1 dJx4a65c_grow_92f84_55 rfl rfl ?_
  have hxq : x ≠ q := fun z => by rw [z, hq] at hx; cases hx
  have hx2 : kup h q (.inl (kO E, 10, .inr (.inr (.inr (.inr (fun _ => none)))))) x = some (.inr (5, [.int m, .ref (kN E), .int 0])) := by rw [kup_n _ _ hxq, hx]
  refine r_put (C := RJx4a65c) (ref := RJx4a65c) (ty := .array (.object "java/lang/Object")) dJx4a65c_grow_92f84_56 (by decide +kernel : ∀ w ∈ u_ws RJx4a65c TJx4a65c 3, w ∈ wsJx4a65c_grow_92f84) tyJx4a65c tyJx4a65c_ok nmJx4a65c hx2 rfl 1 (by decide) (by decide +kernel : Cond.fieldLink RJx4a65c 9 RJx4a65c "elementData" "[Ljava/lang/Object;" ∈ wsJx4a65c_grow_92f84) rfl rfl (by decide +kernel) rfl rfl (Nat.le_of_ble_eq_true rfl) ?_
  exact kret _ _ _ _ _ (some q) (Nat.le_refl _) (Nat.le_of_ble_eq_true rfl) dJx4a65c_grow_92f84_59 (⟨q, hq, rfl, rfl⟩)

set_option maxHeartbeats 4000000 in
set_option maxRecDepth 100000 in
theorem tJx4a65c_grow_92f84B {E : kE} {h : kH} {C : String} {T : u_T} {M : Nat} (x ed cap ci : Nat) (m : Int32) (row : Nat → Option Nat) (hc0 : 2 ≤ cap) (hcap : cap ≤ 200) (hc : kcl[ci]? = some (C, T, M)) (hca : (C, "java/lang/Object") ∈ kCast) (hx : h x = some (.inr (5, [.int m, .ref ed, .int (nI cap)]))) (he : h ed = some (.inl (kO E, cap, .inr (.inr (.inr (.inr row)))))) (hel : ∀ j, j < cap → ∀ y, row j = some y → ∃ fs, h y = some (.inr (ci, fs))) : kCq E yJx4a65c_grow_92f84 wsJx4a65c_grow_92f84 rmJx4a65c_grow_92f84 1 400 [.ref x, .int (nI (cap + 1))] h (fun r h' => ∃ q, h q = none ∧ r = some q ∧ h' = kup (kup h q (.inl (kO E, cap + cap / 2, .inr (.inr (.inr (.inr (va_cpy row (fun _ => none) 0 0 cap))))))) x (.inr (5, [.int m, .ref q, .int (nI cap)]))) := by
  refine kCq_of (rt := .array (.object "java/lang/Object")) (own := RJx4a65c) (cc := cJx4a65c_grow_92f84) (maxL := 4) (by decide) rfl rfl (Or.inr ⟨_, rfl⟩) (Nat.le_of_ble_eq_true rfl) ?_
  intro X hini kret
  refine r_lo (lo' := [(0, .ref x), (1, .int (nI (cap + 1)))]) [0, 1] rfl ?_
  refine r_aload_n dJx4a65c_grow_92f84_0 0 rfl ?_
  refine r_get (C := RJx4a65c) (ref := RJx4a65c) (b := .ref ed) dJx4a65c_grow_92f84_1 (by decide +kernel : ∀ w ∈ u_ws RJx4a65c TJx4a65c 3, w ∈ wsJx4a65c_grow_92f84) hx rfl 1 (by decide) (by decide +kernel : Cond.fieldLink RJx4a65c 9 RJx4a65c "elementData" "[Ljava/lang/Object;" ∈ wsJx4a65c_grow_92f84) rfl rfl ?_
  refine r_alen dJx4a65c_grow_92f84_4 he ?_
  rw [show Int32.ofNat cap = nI cap from rfl]
  refine r_istore_n (lo' := [(2, .int (nI cap)), (0, .ref x), (1, .int (nI (cap + 1)))]) dJx4a65c_grow_92f84_5 (by decide) rfl ?_
  refine r_iload_n dJx4a65c_grow_92f84_6 0 rfl ?_
  refine r_if_gt (tgt := 20) dJx4a65c_grow_92f84_7 (by decide) (fun _ => ?_) (fun z => absurd (show (0 : Int32) < nI cap from nI_lt (a := 0) (by omega) (by omega)) z)
  refine r_iload_n dJx4a65c_grow_92f84_20 0 rfl ?_
  refine r_iload_n dJx4a65c_grow_92f84_21 2 rfl ?_
  refine r_iload_n dJx4a65c_grow_92f84_22 0 rfl ?_
  refine r_isub dJx4a65c_grow_92f84_23 ?_
  rw [show nI (cap + 1) - nI cap = nI 1 from by rw [pk_sub (by omega), Nat.add_sub_cancel_left]]
  refine r_iload_n dJx4a65c_grow_92f84_24 0 rfl ?_
  refine r_iconst (v := 1) dJx4a65c_grow_92f84_25 (by decide) ?_
  refine r_ishr dJx4a65c_grow_92f84_26 ?_
  rw [show nI cap >>> ((1 : Int32) &&& 31) = nI (cap / 2) from by have z := pk_shrN (n := cap) (by omega) ((1 : Int32) &&& 31) 1 (by decide); rw [Nat.pow_one] at z; exact z]
  refine r_callSi (nn := 3) (As := [.int (nI cap), .int (nI 1), .int (nI (cap / 2))]) (st := []) dJx4a65c_grow_92f84_27 (tJ8_newLength_cabcc cap (cap / 2) (by omega) (by omega) (by omega)) gJx4a65c_grow_92f84_J8_newLength_cabcc rfl (by decide +kernel) ⟨Nat.le_of_ble_eq_true rfl, Nat.le_of_ble_eq_true rfl⟩ ⟨rfl, rfl⟩ rfl (Nat.le_of_ble_eq_true rfl) ⟨Nat.le_of_ble_eq_true rfl, Nat.le_of_ble_eq_true rfl⟩ rfl (fun r hh hp => ?_)
  obtain ⟨rfl, hhe⟩ := hp
  rw [hhe]
  refine r_istore_n (lo' := [(3, .int (nI (cap + cap / 2))), (2, .int (nI cap)), (0, .ref x), (1, .int (nI (cap + 1)))]) dJx4a65c_grow_92f84_30 (by decide) rfl ?_
  refine r_aload_n dJx4a65c_grow_92f84_31 2 rfl ?_
  refine r_aload_n dJx4a65c_grow_92f84_32 2 rfl ?_
  refine r_get (C := RJx4a65c) (ref := RJx4a65c) (b := .ref ed) dJx4a65c_grow_92f84_33 (by decide +kernel : ∀ w ∈ u_ws RJx4a65c TJx4a65c 3, w ∈ wsJx4a65c_grow_92f84) hx rfl 1 (by decide) (by decide +kernel : Cond.fieldLink RJx4a65c 9 RJx4a65c "elementData" "[Ljava/lang/Object;" ∈ wsJx4a65c_grow_92f84) rfl rfl ?_
  refine r_iload_n dJx4a65c_grow_92f84_36 0 rfl ?_
  refine r_callSq (nn := 2) (As := [.ref ed, .int (nI (cap + cap / 2))]) (st := [.ref x]) dJx4a65c_grow_92f84_37 (tJ7_copyOf_1904c ed cap (cap + cap / 2) ci row (by omega) (by omega) hc hca he hel) gJx4a65c_grow_92f84_J7_copyOf_1904c rfl (by decide +kernel) ⟨Nat.le_of_ble_eq_true rfl, Nat.le_of_ble_eq_true rfl⟩ ⟨rfl, rfl⟩ rfl (Nat.le_of_ble_eq_true rfl) ⟨Nat.le_of_ble_eq_true rfl, Nat.le_of_ble_eq_true rfl⟩ rfl (fun r hh hp => ?_)
  obtain ⟨q, hq, rfl, rfl⟩ := hp
  refine r_dup_x1 (a := .ref q) dJx4a65c_grow_92f84_40 rfl rfl ?_
  have hxq : x ≠ q := fun z => by rw [z, hq] at hx; cases hx
  have hx2 : kup h q (.inl (kO E, cap + cap / 2, .inr (.inr (.inr (.inr (va_cpy row (fun _ => none) 0 0 cap)))))) x = some (.inr (5, [.int m, .ref ed, .int (nI cap)])) := by rw [kup_n _ _ hxq, hx]
  refine r_put (C := RJx4a65c) (ref := RJx4a65c) (ty := .array (.object "java/lang/Object")) dJx4a65c_grow_92f84_41 (by decide +kernel : ∀ w ∈ u_ws RJx4a65c TJx4a65c 3, w ∈ wsJx4a65c_grow_92f84) tyJx4a65c tyJx4a65c_ok nmJx4a65c hx2 rfl 1 (by decide) (by decide +kernel : Cond.fieldLink RJx4a65c 9 RJx4a65c "elementData" "[Ljava/lang/Object;" ∈ wsJx4a65c_grow_92f84) rfl rfl (by decide +kernel) rfl rfl (Nat.le_of_ble_eq_true rfl) ?_
  exact kret _ _ _ _ _ (some q) (Nat.le_refl _) (Nat.le_of_ble_eq_true rfl) dJx4a65c_grow_92f84_44 (⟨q, hq, rfl, rfl⟩)

abbrev rmJx4a65c_grow_d5877 : Room := { frames := 4, cells := 1, slots := 400, locals := 280 }
set_option maxHeartbeats 4000000 in
set_option maxRecDepth 100000 in
theorem tJx4a65c_grow_d5877A {E : kE} {h : kH} (x : Nat) (m : Int32) (hx : h x = some (.inr (5, [.int m, .ref (kN E), .int 0]))) : kCq E yJx4a65c_grow_d5877 wsJx4a65c_grow_d5877 rmJx4a65c_grow_d5877 1 400 [.ref x] h (fun r h' => ∃ q, h q = none ∧ r = some q ∧ h' = kup (kup h q (.inl (kO E, 10, .inr (.inr (.inr (.inr (fun _ => none))))))) x (.inr (5, [.int m, .ref q, .int 0]))) := by
  refine kCq_of (rt := .array (.object "java/lang/Object")) (own := RJx4a65c) (cc := cJx4a65c_grow_d5877) (maxL := 1) (by decide) rfl rfl (Or.inr ⟨_, rfl⟩) (Nat.le_of_ble_eq_true rfl) ?_
  intro X hini kret
  refine r_lo (lo' := [(0, .ref x)]) [0] rfl ?_
  refine r_aload_n dJx4a65c_grow_d5877_0 0 rfl ?_
  refine r_aload_n dJx4a65c_grow_d5877_1 0 rfl ?_
  refine r_get (C := RJx4a65c) (ref := RJx4a65c) (b := .int 0) dJx4a65c_grow_d5877_2 (by decide +kernel : ∀ w ∈ u_ws RJx4a65c TJx4a65c 3, w ∈ wsJx4a65c_grow_d5877) hx rfl 2 (by decide) (by decide +kernel : Cond.fieldLink RJx4a65c 48 RJx4a65c "size" "I" ∈ wsJx4a65c_grow_d5877) rfl rfl ?_
  refine r_iconst (v := 1) dJx4a65c_grow_d5877_5 (by decide) ?_
  refine r_iadd dJx4a65c_grow_d5877_6 ?_
  rw [show (0 : Int32) + 1 = nI 1 from by decide]
  refine r_callVq (nn := 1) (As := [.int (nI 1)]) (st := []) dJx4a65c_grow_d5877_7 (tJx4a65c_grow_92f84A x m hx) gJx4a65c_grow_d5877_Jx4a65c_grow_92f84 rfl (by decide +kernel) ⟨Nat.le_of_ble_eq_true rfl, Nat.le_of_ble_eq_true rfl⟩ ⟨rfl, rfl⟩ hx rfl rfl (Nat.le_of_ble_eq_true rfl) ⟨Nat.le_of_ble_eq_true rfl, Nat.le_of_ble_eq_true rfl⟩ rfl (fun r hh hp => ?_)
  obtain ⟨q, hq, rfl, rfl⟩ := hp
  exact kret _ _ _ _ _ (some q) (Nat.le_refl _) (Nat.le_refl _) dJx4a65c_grow_d5877_10 (⟨q, hq, rfl, rfl⟩)

set_option maxHeartbeats 4000000 in
set_option maxRecDepth 100000 in
theorem tJx4a65c_grow_d5877B {E : kE} {h : kH} {C : String} {T : u_T} {M : Nat} (x ed cap ci : Nat) (m : Int32) (row : Nat → Option Nat) (hc0 : 2 ≤ cap) (hcap : cap ≤ 200) (hc : kcl[ci]? = some (C, T, M)) (hca : (C, "java/lang/Object") ∈ kCast) (hx : h x = some (.inr (5, [.int m, .ref ed, .int (nI cap)]))) (he : h ed = some (.inl (kO E, cap, .inr (.inr (.inr (.inr row)))))) (hel : ∀ j, j < cap → ∀ y, row j = some y → ∃ fs, h y = some (.inr (ci, fs))) : kCq E yJx4a65c_grow_d5877 wsJx4a65c_grow_d5877 rmJx4a65c_grow_d5877 1 400 [.ref x] h (fun r h' => ∃ q, h q = none ∧ r = some q ∧ h' = kup (kup h q (.inl (kO E, cap + cap / 2, .inr (.inr (.inr (.inr (va_cpy row (fun _ => none) 0 0 cap))))))) x (.inr (5, [.int m, .ref q, .int (nI cap)]))) := by
  refine kCq_of (rt := .array (.object "java/lang/Object")) (own := RJx4a65c) (cc := cJx4a65c_grow_d5877) (maxL := 1) (by decide) rfl rfl (Or.inr ⟨_, rfl⟩) (Nat.le_of_ble_eq_true rfl) ?_
  intro X hini kret
  refine r_lo (lo' := [(0, .ref x)]) [0] rfl ?_
  refine r_aload_n dJx4a65c_grow_d5877_0 0 rfl ?_
  refine r_aload_n dJx4a65c_grow_d5877_1 0 rfl ?_
  refine r_get (C := RJx4a65c) (ref := RJx4a65c) (b := .int (nI cap)) dJx4a65c_grow_d5877_2 (by decide +kernel : ∀ w ∈ u_ws RJx4a65c TJx4a65c 3, w ∈ wsJx4a65c_grow_d5877) hx rfl 2 (by decide) (by decide +kernel : Cond.fieldLink RJx4a65c 48 RJx4a65c "size" "I" ∈ wsJx4a65c_grow_d5877) rfl rfl ?_
  refine r_iconst (v := 1) dJx4a65c_grow_d5877_5 (by decide) ?_
  refine r_iadd dJx4a65c_grow_d5877_6 ?_
  rw [show nI cap + 1 = nI (cap + 1) from nI_1 cap]
  refine r_callVq (nn := 1) (As := [.int (nI (cap + 1))]) (st := []) dJx4a65c_grow_d5877_7 (tJx4a65c_grow_92f84B x ed cap ci m row hc0 hcap hc hca hx he hel) gJx4a65c_grow_d5877_Jx4a65c_grow_92f84 rfl (by decide +kernel) ⟨Nat.le_of_ble_eq_true rfl, Nat.le_of_ble_eq_true rfl⟩ ⟨rfl, rfl⟩ hx rfl rfl (Nat.le_of_ble_eq_true rfl) ⟨Nat.le_of_ble_eq_true rfl, Nat.le_of_ble_eq_true rfl⟩ rfl (fun r hh hp => ?_)
  obtain ⟨q, hq, rfl, rfl⟩ := hp
  exact kret _ _ _ _ _ (some q) (Nat.le_refl _) (Nat.le_refl _) dJx4a65c_grow_d5877_10 (⟨q, hq, rfl, rfl⟩)

abbrev rmJx4a65c_add_72be8 : Room := { frames := 5, cells := 1, slots := 400, locals := 330 }
set_option maxHeartbeats 4000000 in
set_option maxRecDepth 100000 in
theorem tJx4a65c_add_72be8A {E : kE} {h : kH} {C : String} {T : u_T} {M : Nat} (x ci : Nat) (m : Int32) (hc : kcl[ci]? = some (C, T, M)) (hca : (C, "java/lang/Object") ∈ kCast) (hx : h x = some (.inr (5, [.int m, .ref (kN E), .int 0]))) (v : Nat) (vs : List Value) (hv : h v = some (.inr (ci, vs))) (hci : ci ≠ 5) : kCv E yJx4a65c_add_72be8 wsJx4a65c_add_72be8 rmJx4a65c_add_72be8 1 400 [.ref x, .ref v, .ref (kN E), .int (nI 0)] h (fun h' => ∃ q, h q = none ∧ h' = kup (kup h q (.inl (kO E, 10, .inr (.inr (.inr (.inr (va_up (fun _ => none) 0 (some v)))))))) x (.inr (5, [.int m, .ref q, .int (nI 1)]))) := by
  refine kCv_of (own := RJx4a65c) (cc := cJx4a65c_add_72be8) (maxL := 4) (by decide) rfl rfl (Nat.le_of_ble_eq_true rfl) ?_
  intro X hini kret
  refine r_lo (lo' := [(0, .ref x), (1, .ref v), (2, .ref (kN E)), (3, .int (nI 0))]) [0, 1, 2, 3] rfl ?_
  refine r_iload_n dJx4a65c_add_72be8_0 3 rfl ?_
  refine r_aload_n dJx4a65c_add_72be8_1 2 rfl ?_
  refine r_elen dJx4a65c_add_72be8_2 ?_
  refine r_icmp_ne (tgt := 11) dJx4a65c_add_72be8_3 (by decide) (fun z => absurd nI_0 z) (fun _ => ?_)
  refine r_aload_n dJx4a65c_add_72be8_6 0 rfl ?_
  refine r_callVq (nn := 0) (As := []) (st := []) dJx4a65c_add_72be8_7 (tJx4a65c_grow_d5877A x m hx) gJx4a65c_add_72be8_Jx4a65c_grow_d5877 rfl (by decide +kernel) ⟨Nat.le_of_ble_eq_true rfl, Nat.le_of_ble_eq_true rfl⟩ ⟨rfl, rfl⟩ hx rfl rfl (Nat.le_of_ble_eq_true rfl) ⟨Nat.le_of_ble_eq_true rfl, Nat.le_of_ble_eq_true rfl⟩ rfl (fun r hh hp => ?_)
  obtain ⟨q, hq, rfl, rfl⟩ := hp
  refine r_astore_n (a := q) (lo' := [(2, .ref q), (0, .ref x), (1, .ref v), (3, .int (nI 0))]) dJx4a65c_add_72be8_10 (by decide) rfl ?_
  refine r_aload_n dJx4a65c_add_72be8_11 0 rfl ?_
  refine r_iload_n dJx4a65c_add_72be8_12 3 rfl ?_
  refine r_aload_n dJx4a65c_add_72be8_13 2 rfl ?_
  have hxq : x ≠ q := fun z => by rw [z, hq] at hx; cases hx
  have hvq : v ≠ q := fun z => by rw [z, hq] at hv; cases hv
  have hvx : v ≠ x := fun z => by rw [z, hx] at hv; cases hv; exact hci rfl
  refine r_aast (N := 10) (j := 0) dJx4a65c_add_72be8_14 (by rw [kup_n _ _ (Ne.symm hxq), kup_s]) (by decide) (by decide) (by rw [kup_n _ _ hvx, kup_n _ _ hvq, hv]) hc hca ?_
  refine r_aload_n dJx4a65c_add_72be8_15 1 rfl ?_
  refine r_iload_n dJx4a65c_add_72be8_16 3 rfl ?_
  refine r_iconst (v := 1) dJx4a65c_add_72be8_17 (by decide) ?_
  refine r_iadd dJx4a65c_add_72be8_18 ?_
  rw [nI_1]
  refine r_put (C := RJx4a65c) (ref := RJx4a65c) (ty := .int) dJx4a65c_add_72be8_19 (by decide +kernel : ∀ w ∈ u_ws RJx4a65c TJx4a65c 3, w ∈ wsJx4a65c_add_72be8) tyJx4a65c tyJx4a65c_ok nmJx4a65c (by rw [kup_n _ _ hxq, kup_s]) rfl 2 (by decide) (by decide +kernel : Cond.fieldLink RJx4a65c 48 RJx4a65c "size" "I" ∈ wsJx4a65c_add_72be8) rfl rfl (by decide +kernel) rfl rfl (Nat.le_of_ble_eq_true rfl) ?_
  rw [show (0 + 1 : Nat) = 1 from rfl]
  exact kret _ _ _ _ _ (Nat.le_refl _) (Nat.le_refl _) dJx4a65c_add_72be8_22 (⟨q, hq, kup4 _ hxq⟩)

set_option maxHeartbeats 4000000 in
set_option maxRecDepth 100000 in
theorem tJx4a65c_add_72be8B {E : kE} {h : kH} {C : String} {T : u_T} {M : Nat} (x ed cap ci : Nat) (m : Int32) (row : Nat → Option Nat) (hc0 : 2 ≤ cap) (hcap : cap ≤ 200) (hc : kcl[ci]? = some (C, T, M)) (hca : (C, "java/lang/Object") ∈ kCast) (hx : h x = some (.inr (5, [.int m, .ref ed, .int (nI cap)]))) (he : h ed = some (.inl (kO E, cap, .inr (.inr (.inr (.inr row)))))) (hel : ∀ j, j < cap → ∀ y, row j = some y → ∃ fs, h y = some (.inr (ci, fs))) (v : Nat) (vs : List Value) (hv : h v = some (.inr (ci, vs))) (hci : ci ≠ 5) : kCv E yJx4a65c_add_72be8 wsJx4a65c_add_72be8 rmJx4a65c_add_72be8 1 400 [.ref x, .ref v, .ref ed, .int (nI cap)] h (fun h' => ∃ q, h q = none ∧ h' = kup (kup h q (.inl (kO E, cap + cap / 2, .inr (.inr (.inr (.inr (va_up (va_cpy row (fun _ => none) 0 0 cap) cap (some v)))))))) x (.inr (5, [.int m, .ref q, .int (nI (cap + 1))]))) := by
  refine kCv_of (own := RJx4a65c) (cc := cJx4a65c_add_72be8) (maxL := 4) (by decide) rfl rfl (Nat.le_of_ble_eq_true rfl) ?_
  intro X hini kret
  refine r_lo (lo' := [(0, .ref x), (1, .ref v), (2, .ref ed), (3, .int (nI cap))]) [0, 1, 2, 3] rfl ?_
  refine r_iload_n dJx4a65c_add_72be8_0 3 rfl ?_
  refine r_aload_n dJx4a65c_add_72be8_1 2 rfl ?_
  refine r_alen dJx4a65c_add_72be8_2 he ?_
  rw [show Int32.ofNat cap = nI cap from rfl]
  refine r_icmp_ne (tgt := 11) dJx4a65c_add_72be8_3 (by decide) (fun z => absurd rfl z) (fun _ => ?_)
  refine r_aload_n dJx4a65c_add_72be8_6 0 rfl ?_
  refine r_callVq (nn := 0) (As := []) (st := []) dJx4a65c_add_72be8_7 (tJx4a65c_grow_d5877B x ed cap ci m row hc0 hcap hc hca hx he hel) gJx4a65c_add_72be8_Jx4a65c_grow_d5877 rfl (by decide +kernel) ⟨Nat.le_of_ble_eq_true rfl, Nat.le_of_ble_eq_true rfl⟩ ⟨rfl, rfl⟩ hx rfl rfl (Nat.le_of_ble_eq_true rfl) ⟨Nat.le_of_ble_eq_true rfl, Nat.le_of_ble_eq_true rfl⟩ rfl (fun r hh hp => ?_)
  obtain ⟨q, hq, rfl, rfl⟩ := hp
  refine r_astore_n (a := q) (lo' := [(2, .ref q), (0, .ref x), (1, .ref v), (3, .int (nI cap))]) dJx4a65c_add_72be8_10 (by decide) rfl ?_
  refine r_aload_n dJx4a65c_add_72be8_11 0 rfl ?_
  refine r_iload_n dJx4a65c_add_72be8_12 3 rfl ?_
  refine r_aload_n dJx4a65c_add_72be8_13 2 rfl ?_
  have hxq : x ≠ q := fun z => by rw [z, hq] at hx; cases hx
  have hvq : v ≠ q := fun z => by rw [z, hq] at hv; cases hv
  have hvx : v ≠ x := fun z => by rw [z, hx] at hv; cases hv; exact hci rfl
  refine r_aast (N := cap + cap / 2) (j := cap) dJx4a65c_add_72be8_14 (by rw [kup_n _ _ (Ne.symm hxq), kup_s]) (by omega) (by omega) (by rw [kup_n _ _ hvx, kup_n _ _ hvq, hv]) hc hca ?_
  refine r_aload_n dJx4a65c_add_72be8_15 1 rfl ?_
  refine r_iload_n dJx4a65c_add_72be8_16 3 rfl ?_
  refine r_iconst (v := 1) dJx4a65c_add_72be8_17 (by decide) ?_
  refine r_iadd dJx4a65c_add_72be8_18 ?_
  rw [nI_1]
  refine r_put (C := RJx4a65c) (ref := RJx4a65c) (ty := .int) dJx4a65c_add_72be8_19 (by decide +kernel : ∀ w ∈ u_ws RJx4a65c TJx4a65c 3, w ∈ wsJx4a65c_add_72be8) tyJx4a65c tyJx4a65c_ok nmJx4a65c (by rw [kup_n _ _ hxq, kup_s]) rfl 2 (by decide) (by decide +kernel : Cond.fieldLink RJx4a65c 48 RJx4a65c "size" "I" ∈ wsJx4a65c_add_72be8) rfl rfl (by decide +kernel) rfl rfl (Nat.le_of_ble_eq_true rfl) ?_
  exact kret _ _ _ _ _ (Nat.le_refl _) (Nat.le_refl _) dJx4a65c_add_72be8_22 (⟨q, hq, kup4 _ hxq⟩)

set_option maxHeartbeats 4000000 in
set_option maxRecDepth 100000 in
theorem tJx4a65c_add_72be8C {E : kE} {h : kH} {C : String} {T : u_T} {M : Nat} (x ed cap n ci : Nat) (m : Int32) (row : Nat → Option Nat) (hn : n < cap) (hcap : cap ≤ 200) (hc : kcl[ci]? = some (C, T, M)) (hca : (C, "java/lang/Object") ∈ kCast) (hx : h x = some (.inr (5, [.int m, .ref ed, .int (nI n)]))) (he : h ed = some (.inl (kO E, cap, .inr (.inr (.inr (.inr row)))))) (v : Nat) (vs : List Value) (hv : h v = some (.inr (ci, vs))) (hci : ci ≠ 5) : kCv E yJx4a65c_add_72be8 wsJx4a65c_add_72be8 rmJx4a65c_add_72be8 1 400 [.ref x, .ref v, .ref ed, .int (nI n)] h (fun h' => h' = kup (kup h ed (.inl (kO E, cap, .inr (.inr (.inr (.inr (va_up row n (some v)))))))) x (.inr (5, [.int m, .ref ed, .int (nI (n + 1))]))) := by
  refine kCv_of (own := RJx4a65c) (cc := cJx4a65c_add_72be8) (maxL := 4) (by decide) rfl rfl (Nat.le_of_ble_eq_true rfl) ?_
  intro X hini kret
  refine r_lo (lo' := [(0, .ref x), (1, .ref v), (2, .ref ed), (3, .int (nI n))]) [0, 1, 2, 3] rfl ?_
  refine r_iload_n dJx4a65c_add_72be8_0 3 rfl ?_
  refine r_aload_n dJx4a65c_add_72be8_1 2 rfl ?_
  refine r_alen dJx4a65c_add_72be8_2 he ?_
  rw [show Int32.ofNat cap = nI cap from rfl]
  refine r_icmp_ne (tgt := 11) dJx4a65c_add_72be8_3 (by decide) (fun _ => ?_) (fun z => absurd ((nI_eq (by omega) (by omega)).mp z) (by omega))
  refine r_aload_n dJx4a65c_add_72be8_11 2 rfl ?_
  refine r_iload_n dJx4a65c_add_72be8_12 3 rfl ?_
  refine r_aload_n dJx4a65c_add_72be8_13 1 rfl ?_
  have hxe : x ≠ ed := fun z => by rw [z, he] at hx; cases hx
  refine r_aast (N := cap) (j := n) dJx4a65c_add_72be8_14 he hn (by omega) hv hc hca ?_
  refine r_aload_n dJx4a65c_add_72be8_15 0 rfl ?_
  refine r_iload_n dJx4a65c_add_72be8_16 3 rfl ?_
  refine r_iconst (v := 1) dJx4a65c_add_72be8_17 (by decide) ?_
  refine r_iadd dJx4a65c_add_72be8_18 ?_
  rw [nI_1]
  refine r_put (C := RJx4a65c) (ref := RJx4a65c) (ty := .int) dJx4a65c_add_72be8_19 (by decide +kernel : ∀ w ∈ u_ws RJx4a65c TJx4a65c 3, w ∈ wsJx4a65c_add_72be8) tyJx4a65c tyJx4a65c_ok nmJx4a65c (by rw [kup_n _ _ hxe, hx]) rfl 2 (by decide) (by decide +kernel : Cond.fieldLink RJx4a65c 48 RJx4a65c "size" "I" ∈ wsJx4a65c_add_72be8) rfl rfl (by decide +kernel) rfl rfl (Nat.le_of_ble_eq_true rfl) ?_
  exact kret _ _ _ _ _ (Nat.le_of_ble_eq_true rfl) (Nat.le_of_ble_eq_true rfl) dJx4a65c_add_72be8_22 (rfl)

