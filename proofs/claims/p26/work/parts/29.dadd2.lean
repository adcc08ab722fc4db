theorem rowC (a : Nat → Nat) (bs N v : Nat) : ∀ j, va_up (drow a bs N) N (some v) j = if j < N then some (a (bs + j)) else if j = N then some v else none := by
  intro j
  by_cases c : j = N
  · subst c; simp [va_up, drow]
  · simp [va_up, drow, c]
theorem rowB (a : Nat → Nat) (bs N v : Nat) : ∀ j, va_up (va_cpy (drow a bs N) (fun _ => none) 0 0 N) N (some v) j = if j < N then some (a (bs + j)) else if j = N then some v else none := by
  intro j
  by_cases c : j = N
  · subst c; simp [va_up]
  · by_cases z : j < N
    · simp [va_up, va_cpy, drow, c, z]
    · simp [va_up, va_cpy, drow, c, z]
abbrev rmX0_init : Room := { frames := 1, cells := 0, slots := 0, locals := 20 }
theorem hinX0_init : ∀ w ∈ u_ws RX0 TX0 4, w ∈ wsX0_init := by decide +kernel
set_option maxHeartbeats 4000000 in
set_option maxRecDepth 100000 in
theorem tX0_init {E : kE} {h : kH} (q : Nat) (x : Int32) (y : Int32) (hq : h q = some (.inr (0, [.int 0, .int 0, .int 0, .int 0]))) : kCv E yX0_init wsX0_init rmX0_init 0 0 [.ref q, .int x, .int y] h (fun h' => h' = kup h q (.inr (0, [.int x, .int y, .int 0, .int 0]))) := by
  refine kCv_of (own := RX0) (cc := cX0_init) (maxL := 3) (by decide) rfl rfl (Nat.le_of_ble_eq_true rfl) ?_
  intro X hini kret
  refine r_lo (lo' := [(0, .ref q), (1, .int x), (2, .int y)]) [0, 1, 2] rfl ?_
  refine r_aload_n dX0_init_0 0 rfl ?_
  refine r_objInit dX0_init_1 (by decide +kernel : Cond.methodLink RX0 1 objectInit ∈ wsX0_init) (by decide +kernel) (by decide +kernel) (Nat.le_of_ble_eq_true rfl) (Nat.le_of_ble_eq_true rfl) ?_
  refine r_aload_n dX0_init_4 0 rfl ?_
  refine r_iload_n dX0_init_5 1 rfl ?_
  refine r_putF (C := RX0) (ref := "Castdesk$Camera") (ty := .int) dX0_init_6 hinX0_init tyX0 tyX0_ok nmX0 hq rfl 0 (by decide) (by decide +kernel : Cond.fieldLink RX0 7 "Castdesk$Camera" "stamina" "I" ∈ wsX0_init) rfl rfl (hini rfl) rfl (by decide +kernel) rfl rfl (Nat.le_of_ble_eq_true rfl) ?_
  dsimp only [List.set]
  refine r_aload_n dX0_init_9 0 rfl ?_
  refine r_iload_n dX0_init_10 2 rfl ?_
  refine r_putF (C := RX0) (ref := "Castdesk$Camera") (ty := .int) dX0_init_11 hinX0_init tyX0 tyX0_ok nmX0 (kup_s _ _ _) rfl 1 (by decide) (by decide +kernel : Cond.fieldLink RX0 13 "Castdesk$Camera" "rest" "I" ∈ wsX0_init) rfl rfl (hini rfl) rfl (by decide +kernel) rfl rfl (Nat.le_of_ble_eq_true rfl) ?_
  rw [kup_kup]
  dsimp only [List.set]
  exact kret _ _ _ _ _ (Nat.le_refl _) (Nat.le_refl _) dX0_init_14 rfl

abbrev rmX1_init : Room := { frames := 1, cells := 0, slots := 0, locals := 20 }
theorem hinX1_init : ∀ w ∈ u_ws RX1 TX1 5, w ∈ wsX1_init := by decide +kernel
set_option maxHeartbeats 4000000 in
set_option maxRecDepth 100000 in
theorem tX1_init {E : kE} {h : kH} (q : Nat) (f : Nat) (p : Int32) (t : Int32) (u : Int32) (hq : h q = some (.inr (1, [.null, .int 0, .int 0, .int 0, .int 0]))) : kCv E yX1_init wsX1_init rmX1_init 0 0 [.ref q, .ref f, .int p, .int t, .int u] h (fun h' => h' = kup h q (.inr (1, [.ref f, .int p, .int t, .int u, .int 0]))) := by
  refine kCv_of (own := RX1) (cc := cX1_init) (maxL := 5) (by decide) rfl rfl (Nat.le_of_ble_eq_true rfl) ?_
  intro X hini kret
  refine r_lo (lo' := [(0, .ref q), (1, .ref f), (2, .int p), (3, .int t), (4, .int u)]) [0, 1, 2, 3, 4] rfl ?_
  refine r_aload_n dX1_init_0 0 rfl ?_
  refine r_objInit dX1_init_1 (by decide +kernel : Cond.methodLink RX1 3 objectInit ∈ wsX1_init) (by decide +kernel) (by decide +kernel) (Nat.le_of_ble_eq_true rfl) (Nat.le_of_ble_eq_true rfl) ?_
  refine r_aload_n dX1_init_4 0 rfl ?_
  refine r_aload_n dX1_init_5 1 rfl ?_
  refine r_putF (C := RX1) (ref := "Castdesk$Entry") (ty := .object "Castdesk$Fight") dX1_init_6 hinX1_init tyX1 tyX1_ok nmX1 hq rfl 0 (by decide) (by decide +kernel : Cond.fieldLink RX1 9 "Castdesk$Entry" "fight" "LCastdesk$Fight;" ∈ wsX1_init) rfl rfl (hini rfl) rfl (by decide +kernel) rfl rfl (Nat.le_of_ble_eq_true rfl) ?_
  dsimp only [List.set]
  refine r_aload_n dX1_init_9 0 rfl ?_
  refine r_iload_n dX1_init_10 2 rfl ?_
  refine r_putF (C := RX1) (ref := "Castdesk$Entry") (ty := .int) dX1_init_11 hinX1_init tyX1 tyX1_ok nmX1 (kup_s _ _ _) rfl 1 (by decide) (by decide +kernel : Cond.fieldLink RX1 15 "Castdesk$Entry" "player" "I" ∈ wsX1_init) rfl rfl (hini rfl) rfl (by decide +kernel) rfl rfl (Nat.le_of_ble_eq_true rfl) ?_
  rw [kup_kup]
  dsimp only [List.set]
  refine r_aload_n dX1_init_14 0 rfl ?_
  refine r_iload_n dX1_init_15 3 rfl ?_
  refine r_putF (C := RX1) (ref := "Castdesk$Entry") (ty := .int) dX1_init_16 hinX1_init tyX1 tyX1_ok nmX1 (kup_s _ _ _) rfl 2 (by decide) (by decide +kernel : Cond.fieldLink RX1 19 "Castdesk$Entry" "frame" "I" ∈ wsX1_init) rfl rfl (hini rfl) rfl (by decide +kernel) rfl rfl (Nat.le_of_ble_eq_true rfl) ?_
  rw [kup_kup]
  dsimp only [List.set]
  refine r_aload_n dX1_init_19 0 rfl ?_
  refine r_iload dX1_init_20 4 rfl ?_
  refine r_put (C := RX1) (ref := "Castdesk$Entry") (ty := .int) dX1_init_22 hinX1_init tyX1 tyX1_ok nmX1 (kup_s _ _ _) rfl 3 (by decide) (by decide +kernel : Cond.fieldLink RX1 22 "Castdesk$Entry" "points" "I" ∈ wsX1_init) rfl rfl (by decide +kernel) rfl rfl (Nat.le_of_ble_eq_true rfl) ?_
  rw [kup_kup]
  dsimp only [List.set]
  exact kret _ _ _ _ _ (Nat.le_refl _) (Nat.le_refl _) dX1_init_25 rfl

abbrev rmX2_init : Room := { frames := 1, cells := 0, slots := 0, locals := 20 }
theorem hinX2_init : ∀ w ∈ u_ws RX2 TX2 7, w ∈ wsX2_init := by decide +kernel
set_option maxHeartbeats 4000000 in
set_option maxRecDepth 100000 in
theorem tX2_init {E : kE} {h : kH} (q : Nat) (n : Int32) (x : Int32) (y : Int32) (hq : h q = some (.inr (2, [.int 0, .int 0, .int 0, .int 0, .int 0, .int 0, .int 0]))) : kCv E yX2_init wsX2_init rmX2_init 0 0 [.ref q, .int n, .int x, .int y] h (fun h' => h' = kup h q (.inr (2, [.int n, .int x, .int y, .int 0, .int (-1), .int 0, .int 0]))) := by
  refine kCv_of (own := RX2) (cc := cX2_init) (maxL := 4) (by decide) rfl rfl (Nat.le_of_ble_eq_true rfl) ?_
  intro X hini kret
  refine r_lo (lo' := [(0, .ref q), (1, .int n), (2, .int x), (3, .int y)]) [0, 1, 2, 3] rfl ?_
  refine r_aload_n dX2_init_0 0 rfl ?_
  refine r_objInit dX2_init_1 (by decide +kernel : Cond.methodLink RX2 3 objectInit ∈ wsX2_init) (by decide +kernel) (by decide +kernel) (Nat.le_of_ble_eq_true rfl) (Nat.le_of_ble_eq_true rfl) ?_
  refine r_aload_n dX2_init_4 0 rfl ?_
  refine r_iload_n dX2_init_5 1 rfl ?_
  refine r_putF (C := RX2) (ref := "Castdesk$Fight") (ty := .int) dX2_init_6 hinX2_init tyX2 tyX2_ok nmX2 hq rfl 0 (by decide) (by decide +kernel : Cond.fieldLink RX2 9 "Castdesk$Fight" "number" "I" ∈ wsX2_init) rfl rfl (hini rfl) rfl (by decide +kernel) rfl rfl (Nat.le_of_ble_eq_true rfl) ?_
  dsimp only [List.set]
  refine r_aload_n dX2_init_9 0 rfl ?_
  refine r_iload_n dX2_init_10 2 rfl ?_
  refine r_putF (C := RX2) (ref := "Castdesk$Fight") (ty := .int) dX2_init_11 hinX2_init tyX2 tyX2_ok nmX2 (kup_s _ _ _) rfl 1 (by decide) (by decide +kernel : Cond.fieldLink RX2 15 "Castdesk$Fight" "first" "I" ∈ wsX2_init) rfl rfl (hini rfl) rfl (by decide +kernel) rfl rfl (Nat.le_of_ble_eq_true rfl) ?_
  rw [kup_kup]
  dsimp only [List.set]
  refine r_aload_n dX2_init_14 0 rfl ?_
  refine r_iload_n dX2_init_15 3 rfl ?_
  refine r_putF (C := RX2) (ref := "Castdesk$Fight") (ty := .int) dX2_init_16 hinX2_init tyX2 tyX2_ok nmX2 (kup_s _ _ _) rfl 2 (by decide) (by decide +kernel : Cond.fieldLink RX2 18 "Castdesk$Fight" "second" "I" ∈ wsX2_init) rfl rfl (hini rfl) rfl (by decide +kernel) rfl rfl (Nat.le_of_ble_eq_true rfl) ?_
  rw [kup_kup]
  dsimp only [List.set]
  refine r_aload_n dX2_init_19 0 rfl ?_
  refine r_iconst (v := 0) dX2_init_20 (by decide) ?_
  refine r_put (C := RX2) (ref := "Castdesk$Fight") (ty := .int) dX2_init_21 hinX2_init tyX2 tyX2_ok nmX2 (kup_s _ _ _) rfl 3 (by decide) (by decide +kernel : Cond.fieldLink RX2 21 "Castdesk$Fight" "state" "I" ∈ wsX2_init) rfl rfl (by decide +kernel) rfl rfl (Nat.le_of_ble_eq_true rfl) ?_
  rw [kup_kup]
  dsimp only [List.set]
  refine r_aload_n dX2_init_24 0 rfl ?_
  refine r_iconst (v := (-1)) dX2_init_25 (by decide) ?_
  refine r_put (C := RX2) (ref := "Castdesk$Fight") (ty := .int) dX2_init_26 hinX2_init tyX2 tyX2_ok nmX2 (kup_s _ _ _) rfl 4 (by decide) (by decide +kernel : Cond.fieldLink RX2 24 "Castdesk$Fight" "winner" "I" ∈ wsX2_init) rfl rfl (by decide +kernel) rfl rfl (Nat.le_of_ble_eq_true rfl) ?_
  rw [kup_kup]
  dsimp only [List.set]
  exact kret _ _ _ _ _ (Nat.le_refl _) (Nat.le_refl _) dX2_init_29 rfl

abbrev rmJxa1e45_init_da8c8 : Room := { frames := 1, cells := 0, slots := 0, locals := 20 }
set_option maxHeartbeats 4000000 in
set_option maxRecDepth 100000 in
theorem tJxa1e45_init_da8c8 {E : kE} {h : kH} (q : Nat)  (hq : h q = some (.inr (5, [.int 0, .null, .int 0]))) : kCv E yJxa1e45_init_da8c8 wsJxa1e45_init_da8c8 rmJxa1e45_init_da8c8 0 0 [.ref q] h (fun h' => h' = h) := by
  refine kCv_of (own := RJxa1e45) (cc := cJxa1e45_init_da8c8) (maxL := 1) (by decide) rfl rfl (Nat.le_of_ble_eq_true rfl) ?_
  intro X hini kret
  refine r_lo (lo' := [(0, .ref q)]) [0] rfl ?_
  refine r_aload_n dJxa1e45_init_da8c8_0 0 rfl ?_
  refine r_objInit dJxa1e45_init_da8c8_1 (by decide +kernel : Cond.methodLink RJxa1e45 1 objectInit ∈ wsJxa1e45_init_da8c8) (by decide +kernel) (by decide +kernel) (Nat.le_of_ble_eq_true rfl) (Nat.le_of_ble_eq_true rfl) ?_
  exact kret _ _ _ _ _ (Nat.le_refl _) (Nat.le_refl _) dJxa1e45_init_da8c8_4 rfl

abbrev rmJxc12de_init_da8c8 : Room := { frames := 2, cells := 0, slots := 0, locals := 40 }
theorem hinJxc12de_init_da8c8 : ∀ w ∈ u_ws RJx4a65c TJx4a65c 3, w ∈ wsJxc12de_init_da8c8 := by decide +kernel
set_option maxHeartbeats 4000000 in
set_option maxRecDepth 100000 in
theorem tJxc12de_init_da8c8 {E : kE} {h : kH} (q : Nat)  (hq : h q = some (.inr (5, [.int 0, .null, .int 0]))) : kCv E yJxc12de_init_da8c8 wsJxc12de_init_da8c8 rmJxc12de_init_da8c8 0 0 [.ref q] h (fun h' => h' = kup h q (.inr (5, [.int 0, .null, .int 0]))) := by
  refine kCv_of (own := RJxc12de) (cc := cJxc12de_init_da8c8) (maxL := 1) (by decide) rfl rfl (Nat.le_of_ble_eq_true rfl) ?_
  intro X hini kret
  refine r_lo (lo' := [(0, .ref q)]) [0] rfl ?_
  refine r_aload_n dJxc12de_init_da8c8_0 0 rfl ?_
  refine r_callIv (nn := 0) (As := []) (st := []) dJxc12de_init_da8c8_1 (tJxa1e45_init_da8c8 q hq) gJxc12de_init_da8c8_Jxa1e45_init_da8c8 (by decide +kernel) (by decide +kernel) (by decide +kernel) rfl rfl (by decide +kernel) ⟨Nat.le_of_ble_eq_true rfl, Nat.le_of_ble_eq_true rfl⟩ ⟨rfl, rfl⟩ rfl (Nat.le_of_ble_eq_true rfl) ⟨Nat.le_of_ble_eq_true rfl, Nat.le_of_ble_eq_true rfl⟩ rfl (fun hh hp => ?_)
  subst hp
  refine r_aload_n dJxc12de_init_da8c8_4 0 rfl ?_
  refine r_iconst (v := 0) dJxc12de_init_da8c8_5 (by decide) ?_
  refine r_put (C := RJx4a65c) (ref := "java/util/AbstractList") (ty := .int) dJxc12de_init_da8c8_6 hinJxc12de_init_da8c8 tyJx4a65c tyJx4a65c_ok nmJx4a65c hq rfl 0 (by decide) (by decide +kernel : Cond.fieldLink RJxc12de 7 "java/util/AbstractList" "modCount" "I" ∈ wsJxc12de_init_da8c8) rfl rfl (by decide +kernel) rfl rfl (Nat.le_of_ble_eq_true rfl) ?_
  dsimp only [List.set]
  exact kret _ _ _ _ _ (Nat.le_refl _) (Nat.le_refl _) dJxc12de_init_da8c8_9 rfl

abbrev rmJx4a65c_init_da8c8 : Room := { frames := 3, cells := 0, slots := 0, locals := 60 }
theorem hinJx4a65c_init_da8c8 : ∀ w ∈ u_ws RJx4a65c TJx4a65c 3, w ∈ wsJx4a65c_init_da8c8 := by decide +kernel
set_option maxHeartbeats 4000000 in
set_option maxRecDepth 100000 in
theorem tJx4a65c_init_da8c8 {E : kE} {h : kH} (q : Nat)  (hq : h q = some (.inr (5, [.int 0, .null, .int 0]))) : kCv E yJx4a65c_init_da8c8 wsJx4a65c_init_da8c8 rmJx4a65c_init_da8c8 0 0 [.ref q] h (fun h' => h' = kup h q (.inr (5, [.int 0, .ref (kN E), .int 0]))) := by
  refine kCv_of (own := RJx4a65c) (cc := cJx4a65c_init_da8c8) (maxL := 1) (by decide) rfl rfl (Nat.le_of_ble_eq_true rfl) ?_
  intro X hini kret
  refine r_lo (lo' := [(0, .ref q)]) [0] rfl ?_
  refine r_aload_n dJx4a65c_init_da8c8_0 0 rfl ?_
  refine r_callIv (nn := 0) (As := []) (st := []) dJx4a65c_init_da8c8_1 (tJxc12de_init_da8c8 q hq) gJx4a65c_init_da8c8_Jxc12de_init_da8c8 (by decide +kernel) (by decide +kernel) (by decide +kernel) rfl rfl (by decide +kernel) ⟨Nat.le_of_ble_eq_true rfl, Nat.le_of_ble_eq_true rfl⟩ ⟨rfl, rfl⟩ rfl (Nat.le_of_ble_eq_true rfl) ⟨Nat.le_of_ble_eq_true rfl, Nat.le_of_ble_eq_true rfl⟩ rfl (fun hh hp => ?_)
  subst hp
  refine r_aload_n dJx4a65c_init_da8c8_4 0 rfl ?_
  refine r_empty dJx4a65c_init_da8c8_5 (by decide +kernel : Cond.fieldLink RJx4a65c 39 RJx4a65c "DEFAULTCAPACITY_EMPTY_ELEMENTDATA" "[Ljava/lang/Object;" ∈ wsJx4a65c_init_da8c8) ?_
  refine r_put (C := RJx4a65c) (ref := "java/util/ArrayList") (ty := .array (.object "java/lang/Object")) dJx4a65c_init_da8c8_8 hinJx4a65c_init_da8c8 tyJx4a65c tyJx4a65c_ok nmJx4a65c (kup_s _ _ _) rfl 1 (by decide) (by decide +kernel : Cond.fieldLink RJx4a65c 9 "java/util/ArrayList" "elementData" "[Ljava/lang/Object;" ∈ wsJx4a65c_init_da8c8) rfl rfl (by decide +kernel) rfl rfl (Nat.le_of_ble_eq_true rfl) ?_
  rw [kup_kup]
  dsimp only [List.set]
  exact kret _ _ _ _ _ (Nat.le_refl _) (Nat.le_refl _) dJx4a65c_init_da8c8_11 rfl

abbrev rmJx4a65c_add_9ea2d : Room := { frames := 6, cells := 1, slots := 400, locals := 353 }
set_option maxHeartbeats 4000000 in
set_option maxRecDepth 100000 in
theorem tadd_F {E : kE} {a cap : Nat → Nat} {h0 : kH} (dt : kM)  (nF nC nE w : Nat) (hg : dgeo E a cap nF nC nE h0) (hd : dwf dt nF nC nE w) (hn : nF < 20) (x y : Int32) (v : Nat) (hv : dw E a cap nF nC nE dt h0 v = none) : kCi E yJx4a65c_add_9ea2d wsJx4a65c_add_9ea2d rmJx4a65c_add_9ea2d 1 400 [.ref (a 2), .ref v] (kup (dw E a cap nF nC nE dt h0) v (.inr (2, [.int (nI nF), .int x, .int y, .int 0, .int (-1), .int 0, .int 0]))) (fun r h' => r = 1 ∧ ∃ a' cap' : Nat → Nat, dgeo E a' cap' (nF + 1) nC nE h0 ∧ (∀ j, j ≠ 16 → j ≠ 20 + nF → a' j = a j) ∧ h' = dw E a' cap' (nF + 1) nC nE (dBeg dt nF x y) h0) := by
  obtain ⟨hF, hF20, hC, hC6, hE, hE80, hW, hW3, hpl, hof, hsp⟩ := id hd
  obtain ⟨hz1, hz2, hz3, hz4⟩ := hg.2.2.1 2 (by decide)
  have hvk : a 2 ≠ v := fun z => by rw [← z, dw_lst hg (k := 2) (by decide)] at hv; cases hv
  have hx1 : (kup (dw E a cap nF nC nE dt h0) v (.inr (2, [.int (nI nF), .int x, .int y, .int 0, .int (-1), .int 0, .int 0]))) (a 2) = some (.inr (5, [.int (dt 40 0), .ref (a 16), .int (nI nF)])) := by rw [kup_n _ _ hvk]; exact dw_lstN hg (k := 2) (by decide) hF
  refine kCi_of (rt := .boolean) (own := RJx4a65c) (cc := cJx4a65c_add_9ea2d) (maxL := 2) (by decide) rfl rfl (Nat.le_of_ble_eq_true rfl) ?_
  intro X hini kret
  refine r_lo (lo' := [(0, .ref (a 2)), (1, .ref v)]) [0, 1] rfl ?_
  refine r_aload_n dJx4a65c_add_9ea2d_0 0 rfl ?_
  refine r_dup dJx4a65c_add_9ea2d_1 rfl ?_
  refine r_getS (C := RJx4a65c) (ref := RJx4a65c) (b := .int (dt 40 0)) dJx4a65c_add_9ea2d_2 (by decide +kernel : ∀ w ∈ u_ws RJx4a65c TJx4a65c 3, w ∈ wsJx4a65c_add_9ea2d) hx1 rfl 0 (by decide) (by decide +kernel : Cond.fieldLink RJx4a65c 63 RJx4a65c "modCount" "I" ∈ wsJx4a65c_add_9ea2d) (by decide +kernel : Cond.sameField RJx4a65c "java/util/AbstractList" "modCount" "I" ∈ wsJx4a65c_add_9ea2d) rfl ?_
  refine r_iconst (v := 1) dJx4a65c_add_9ea2d_5 (by decide) ?_
  refine r_iadd dJx4a65c_add_9ea2d_6 ?_
  refine r_putS (C := RJx4a65c) (ref := RJx4a65c) (ty := .int) dJx4a65c_add_9ea2d_7 (by decide +kernel : ∀ w ∈ u_ws RJx4a65c TJx4a65c 3, w ∈ wsJx4a65c_add_9ea2d) tyJx4a65c tyJx4a65c_ok nmJx4a65c hx1 rfl 0 (by decide) (by decide +kernel : Cond.fieldLink RJx4a65c 63 RJx4a65c "modCount" "I" ∈ wsJx4a65c_add_9ea2d) (by decide +kernel : Cond.sameField RJx4a65c "java/util/AbstractList" "modCount" "I" ∈ wsJx4a65c_add_9ea2d) rfl (by decide +kernel) rfl rfl (Nat.le_of_ble_eq_true rfl) ?_
  dsimp only [List.set]
  refine r_aload_n dJx4a65c_add_9ea2d_10 0 rfl ?_
  refine r_aload_n dJx4a65c_add_9ea2d_11 1 rfl ?_
  refine r_aload_n dJx4a65c_add_9ea2d_12 0 rfl ?_
  refine r_get (C := RJx4a65c) (ref := RJx4a65c) (b := .ref (a 16)) dJx4a65c_add_9ea2d_13 (by decide +kernel : ∀ w ∈ u_ws RJx4a65c TJx4a65c 3, w ∈ wsJx4a65c_add_9ea2d) (kup_s _ _ _) rfl 1 (by decide) (by decide +kernel : Cond.fieldLink RJx4a65c 9 RJx4a65c "elementData" "[Ljava/lang/Object;" ∈ wsJx4a65c_add_9ea2d) rfl rfl ?_
  refine r_aload_n dJx4a65c_add_9ea2d_16 0 rfl ?_
  refine r_get (C := RJx4a65c) (ref := RJx4a65c) (b := .int (nI nF)) dJx4a65c_add_9ea2d_17 (by decide +kernel : ∀ w ∈ u_ws RJx4a65c TJx4a65c 3, w ∈ wsJx4a65c_add_9ea2d) (kup_s _ _ _) rfl 2 (by decide) (by decide +kernel : Cond.fieldLink RJx4a65c 48 RJx4a65c "size" "I" ∈ wsJx4a65c_add_9ea2d) rfl rfl ?_
  have hvv : (kup (kup (dw E a cap nF nC nE dt h0) v (.inr (2, [.int (nI nF), .int x, .int y, .int 0, .int (-1), .int 0, .int 0]))) (a 2) (.inr (5, [.int (dt 40 0 + 1), .ref (a 16), .int (nI nF)]))) v = some (.inr (2, [.int (nI nF), .int x, .int y, .int 0, .int (-1), .int 0, .int 0])) := by rw [kup_n _ _ (Ne.symm hvk), kup_s]
  have hxx : (kup (kup (dw E a cap nF nC nE dt h0) v (.inr (2, [.int (nI nF), .int x, .int y, .int 0, .int (-1), .int 0, .int 0]))) (a 2) (.inr (5, [.int (dt 40 0 + 1), .ref (a 16), .int (nI nF)]))) (a 2) = some (.inr (5, [.int (dt 40 0 + 1), .ref (a 16), .int (nI nF)])) := kup_s _ _ _
  by_cases c0 : cap 16 = 0
  · have hn0 : nF = 0 := by have : nF ≤ cap 16 := hz1; omega
    have hed : a 16 = kN E := hz3 c0
    have hcA : kCv E yJx4a65c_add_72be8 wsJx4a65c_add_72be8 rmJx4a65c_add_72be8 1 400 [.ref (a 2), .ref v, .ref (a 16), .int (nI nF)] (kup (kup (dw E a cap nF nC nE dt h0) v (.inr (2, [.int (nI nF), .int x, .int y, .int 0, .int (-1), .int 0, .int 0]))) (a 2) (.inr (5, [.int (dt 40 0 + 1), .ref (a 16), .int (nI nF)]))) (fun h' => ∃ q, (kup (kup (dw E a cap nF nC nE dt h0) v (.inr (2, [.int (nI nF), .int x, .int y, .int 0, .int (-1), .int 0, .int 0]))) (a 2) (.inr (5, [.int (dt 40 0 + 1), .ref (a 16), .int (nI nF)]))) q = none ∧ h' = kup (kup (kup (kup (dw E a cap nF nC nE dt h0) v (.inr (2, [.int (nI nF), .int x, .int y, .int 0, .int (-1), .int 0, .int 0]))) (a 2) (.inr (5, [.int (dt 40 0 + 1), .ref (a 16), .int (nI nF)]))) q (.inl (kO E, 10, .inr (.inr (.inr (.inr (va_up (fun _ => none) 0 (some v)))))))) (a 2) (.inr (5, [.int (dt 40 0 + 1), .ref q, .int (nI (nF + 1))]))) := by
      have zA := tJx4a65c_add_72be8A (E := E) (h := (kup (kup (dw E a cap nF nC nE dt h0) v (.inr (2, [.int (nI nF), .int x, .int y, .int 0, .int (-1), .int 0, .int 0]))) (a 2) (.inr (5, [.int (dt 40 0 + 1), .ref (a 16), .int (nI nF)])))) (a 2) 2 (dt 40 0 + 1) rfl (by decide +kernel) (by rw [← hed]; rw [hxx, hn0]; rfl) v _ hvv (by decide)
      rw [← hed] at zA
      rw [show nI 0 = nI nF by rw [hn0], show nI 1 = nI (nF + 1) by rw [hn0]] at zA
      exact zA
    refine r_callVv (nn := 3) (As := [.ref v, .ref (a 16), .int (nI nF)]) (st := []) dJx4a65c_add_9ea2d_20 (hcA) gJx4a65c_add_9ea2d_Jx4a65c_add_72be8 rfl (by decide +kernel) ⟨Nat.le_of_ble_eq_true rfl, Nat.le_of_ble_eq_true rfl⟩ ⟨rfl, rfl⟩ hxx rfl rfl (Nat.le_of_ble_eq_true rfl) ⟨Nat.le_of_ble_eq_true rfl, Nat.le_of_ble_eq_true rfl⟩ rfl (fun hh hp => ?_)
    obtain ⟨q, hq0, rfl⟩ := hp
    have hq1 := (kup_none hq0).2
    have hq2 := kup_none hq1
    obtain ⟨a', cap', hg', hao, hsub⟩ := dw_addF hg hof hn x y (v := v) (q := q) (cp := 10) (row := (va_up (fun _ => none) 0 (some v))) (.inr (5, [.int (dt 40 0 + 1), .ref (a 16), .int (nI nF)])) hv (Or.inr ⟨hq2.2, hq2.1⟩) (by omega) (fun j => by rw [hn0]; by_cases c : j = 0 <;> simp [va_up, c])
    refine r_sub hsub ?_
    refine r_iconst (v := 1) dJx4a65c_add_9ea2d_23 (by decide) ?_
    exact kret _ _ _ _ _ _ (Nat.le_of_ble_eq_true rfl) (Nat.le_of_ble_eq_true rfl) dJx4a65c_add_9ea2d_24 rfl ⟨rfl, a', cap', hg', hao, rfl⟩
  by_cases c1 : nF = cap 16
  · skip
    have hrk : a 16 ≠ a 2 := fun z => by have := hg.1 16 2 (Or.inr (Or.inl ⟨by decide, by omega⟩)) (Or.inl (Or.inl (by decide))) z; omega
    have hrv : a 16 ≠ v := fun z => by rw [← z, show a 16 = a (14 + 2) from rfl, dw_ed hg (k := 2) (by decide) (by show 0 < cap 16; omega)] at hv; cases hv
    have hedd : (kup (kup (dw E a cap nF nC nE dt h0) v (.inr (2, [.int (nI nF), .int x, .int y, .int 0, .int (-1), .int 0, .int 0]))) (a 2) (.inr (5, [.int (dt 40 0 + 1), .ref (a 16), .int (nI nF)]))) (a 16) = some (.inl (kO E, cap 16, .inr (.inr (.inr (.inr (drow a 20 nF)))))) := by rw [kup_n _ _ hrk, kup_n _ _ hrv]; exact dw_ed hg (k := 2) (by decide) (by show 0 < cap 16; omega)
    have h10 : 10 ≤ cap 16 := hz4 (by show 0 < cap 16; omega)
    have hcB := tJx4a65c_add_72be8B (E := E) (h := (kup (kup (dw E a cap nF nC nE dt h0) v (.inr (2, [.int (nI nF), .int x, .int y, .int 0, .int (-1), .int 0, .int 0]))) (a 2) (.inr (5, [.int (dt 40 0 + 1), .ref (a 16), .int (nI nF)])))) (C := RX2) (T := TX2) (M := 7) (a 2) (a 16) (cap 16) 2 (dt 40 0 + 1) (drow a 20 nF) (by omega) hz2 rfl (by decide +kernel) (by rw [← c1]; exact hxx) hedd (fun j hj y hy => by rw [← c1] at hj; rw [show (drow a 20 nF) j = some (a (20 + j)) from if_pos hj] at hy; cases hy; exact ⟨_, by rw [kup_n _ _ (fun z => by have := hg.1 (20 + j) 2 (Or.inr (Or.inr (Or.inl (by omega)))) (Or.inl (Or.inl (by decide))) z; omega), kup_n _ _ (fun z => by rw [← z, dw_fgt hg hj] at hv; cases hv), dw_fgt hg hj]⟩) v _ hvv (by decide)
    rw [← c1] at hcB
    refine r_callVv (nn := 3) (As := [.ref v, .ref (a 16), .int (nI nF)]) (st := []) dJx4a65c_add_9ea2d_20 (hcB) gJx4a65c_add_9ea2d_Jx4a65c_add_72be8 rfl (by decide +kernel) ⟨Nat.le_of_ble_eq_true rfl, Nat.le_of_ble_eq_true rfl⟩ ⟨rfl, rfl⟩ hxx rfl rfl (Nat.le_of_ble_eq_true rfl) ⟨Nat.le_of_ble_eq_true rfl, Nat.le_of_ble_eq_true rfl⟩ rfl (fun hh hp => ?_)
    obtain ⟨q, hq0, rfl⟩ := hp
    have hq1 := (kup_none hq0).2
    have hq2 := kup_none hq1
    obtain ⟨a', cap', hg', hao, hsub⟩ := dw_addF hg hof hn x y (v := v) (q := q) (cp := (nF + nF / 2)) (row := (va_up (va_cpy (drow a 20 nF) (fun _ => none) 0 0 nF) nF (some v))) (.inr (5, [.int (dt 40 0 + 1), .ref (a 16), .int (nI nF)])) hv (Or.inr ⟨hq2.2, hq2.1⟩) (by omega) (rowB a 20 nF v)
    refine r_sub hsub ?_
    refine r_iconst (v := 1) dJx4a65c_add_9ea2d_23 (by decide) ?_
    exact kret _ _ _ _ _ _ (Nat.le_of_ble_eq_true rfl) (Nat.le_of_ble_eq_true rfl) dJx4a65c_add_9ea2d_24 rfl ⟨rfl, a', cap', hg', hao, rfl⟩
  · skip
    have hrk : a 16 ≠ a 2 := fun z => by have := hg.1 16 2 (Or.inr (Or.inl ⟨by decide, by omega⟩)) (Or.inl (Or.inl (by decide))) z; omega
    have hrv : a 16 ≠ v := fun z => by rw [← z, show a 16 = a (14 + 2) from rfl, dw_ed hg (k := 2) (by decide) (by show 0 < cap 16; omega)] at hv; cases hv
    have hedd : (kup (kup (dw E a cap nF nC nE dt h0) v (.inr (2, [.int (nI nF), .int x, .int y, .int 0, .int (-1), .int 0, .int 0]))) (a 2) (.inr (5, [.int (dt 40 0 + 1), .ref (a 16), .int (nI nF)]))) (a 16) = some (.inl (kO E, cap 16, .inr (.inr (.inr (.inr (drow a 20 nF)))))) := by rw [kup_n _ _ hrk, kup_n _ _ hrv]; exact dw_ed hg (k := 2) (by decide) (by show 0 < cap 16; omega)
    have hlt : nF < cap 16 := by have : nF ≤ cap 16 := hz1; omega
    have h10 : 10 ≤ cap 16 := hz4 (by show 0 < cap 16; omega)
    refine r_callVv (nn := 3) (As := [.ref v, .ref (a 16), .int (nI nF)]) (st := []) dJx4a65c_add_9ea2d_20 (tJx4a65c_add_72be8C (E := E) (h := (kup (kup (dw E a cap nF nC nE dt h0) v (.inr (2, [.int (nI nF), .int x, .int y, .int 0, .int (-1), .int 0, .int 0]))) (a 2) (.inr (5, [.int (dt 40 0 + 1), .ref (a 16), .int (nI nF)])))) (C := RX2) (T := TX2) (M := 7) (a 2) (a 16) (cap 16) nF 2 (dt 40 0 + 1) (drow a 20 nF) hlt hz2 rfl (by decide +kernel) hxx hedd v _ hvv (by decide)) gJx4a65c_add_9ea2d_Jx4a65c_add_72be8 rfl (by decide +kernel) ⟨Nat.le_of_ble_eq_true rfl, Nat.le_of_ble_eq_true rfl⟩ ⟨rfl, rfl⟩ hxx rfl rfl (Nat.le_of_ble_eq_true rfl) ⟨Nat.le_of_ble_eq_true rfl, Nat.le_of_ble_eq_true rfl⟩ rfl (fun hh hp => ?_)
    subst hp
    obtain ⟨a', cap', hg', hao, hsub⟩ := dw_addF hg hof hn x y (v := v) (q := (a 16)) (cp := (cap 16)) (row := (va_up (drow a 20 nF) nF (some v))) (.inr (5, [.int (dt 40 0 + 1), .ref (a 16), .int (nI nF)])) hv (Or.inl ⟨rfl, by omega⟩) ⟨by omega, hz2, h10⟩ (rowC a 20 nF v)
    refine r_sub hsub ?_
    refine r_iconst (v := 1) dJx4a65c_add_9ea2d_23 (by decide) ?_
    exact kret _ _ _ _ _ _ (Nat.le_of_ble_eq_true rfl) (Nat.le_of_ble_eq_true rfl) dJx4a65c_add_9ea2d_24 rfl ⟨rfl, a', cap', hg', hao, rfl⟩

set_option maxHeartbeats 4000000 in
set_option maxRecDepth 100000 in
theorem tadd_C {E : kE} {a cap : Nat → Nat} {h0 : kH} (dt : kM)  (nF nC nE w : Nat) (hg : dgeo E a cap nF nC nE h0) (hd : dwf dt nF nC nE w) (hn : nC < 6) (x y : Int32) (v : Nat) (hv : dw E a cap nF nC nE dt h0 v = none) : kCi E yJx4a65c_add_9ea2d wsJx4a65c_add_9ea2d rmJx4a65c_add_9ea2d 1 400 [.ref (a 3), .ref v] (kup (dw E a cap nF nC nE dt h0) v (.inr (0, [.int x, .int y, .int 0, .int 0]))) (fun r h' => r = 1 ∧ ∃ a' cap' : Nat → Nat, dgeo E a' cap' nF (nC + 1) nE h0 ∧ (∀ j, j ≠ 17 → j ≠ 40 + nC → a' j = a j) ∧ h' = dw E a' cap' nF (nC + 1) nE (dCamN dt nC x y) h0) := by
  obtain ⟨hF, hF20, hC, hC6, hE, hE80, hW, hW3, hpl, hof, hsp⟩ := id hd
  obtain ⟨hz1, hz2, hz3, hz4⟩ := hg.2.2.1 3 (by decide)
  have hvk : a 3 ≠ v := fun z => by rw [← z, dw_lst hg (k := 3) (by decide)] at hv; cases hv
  have hx1 : (kup (dw E a cap nF nC nE dt h0) v (.inr (0, [.int x, .int y, .int 0, .int 0]))) (a 3) = some (.inr (5, [.int (dt 41 0), .ref (a 17), .int (nI nC)])) := by rw [kup_n _ _ hvk]; exact dw_lstN hg (k := 3) (by decide) hC
  refine kCi_of (rt := .boolean) (own := RJx4a65c) (cc := cJx4a65c_add_9ea2d) (maxL := 2) (by decide) rfl rfl (Nat.le_of_ble_eq_true rfl) ?_
  intro X hini kret
  refine r_lo (lo' := [(0, .ref (a 3)), (1, .ref v)]) [0, 1] rfl ?_
  refine r_aload_n dJx4a65c_add_9ea2d_0 0 rfl ?_
  refine r_dup dJx4a65c_add_9ea2d_1 rfl ?_
  refine r_getS (C := RJx4a65c) (ref := RJx4a65c) (b := .int (dt 41 0)) dJx4a65c_add_9ea2d_2 (by decide +kernel : ∀ w ∈ u_ws RJx4a65c TJx4a65c 3, w ∈ wsJx4a65c_add_9ea2d) hx1 rfl 0 (by decide) (by decide +kernel : Cond.fieldLink RJx4a65c 63 RJx4a65c "modCount" "I" ∈ wsJx4a65c_add_9ea2d) (by decide +kernel : Cond.sameField RJx4a65c "java/util/AbstractList" "modCount" "I" ∈ wsJx4a65c_add_9ea2d) rfl ?_
  refine r_iconst (v := 1) dJx4a65c_add_9ea2d_5 (by decide) ?_
  refine r_iadd dJx4a65c_add_9ea2d_6 ?_
  refine r_putS (C := RJx4a65c) (ref := RJx4a65c) (ty := .int) dJx4a65c_add_9ea2d_7 (by decide +kernel : ∀ w ∈ u_ws RJx4a65c TJx4a65c 3, w ∈ wsJx4a65c_add_9ea2d) tyJx4a65c tyJx4a65c_ok nmJx4a65c hx1 rfl 0 (by decide) (by decide +kernel : Cond.fieldLink RJx4a65c 63 RJx4a65c "modCount" "I" ∈ wsJx4a65c_add_9ea2d) (by decide +kernel : Cond.sameField RJx4a65c "java/util/AbstractList" "modCount" "I" ∈ wsJx4a65c_add_9ea2d) rfl (by decide +kernel) rfl rfl (Nat.le_of_ble_eq_true rfl) ?_
  dsimp only [List.set]
  refine r_aload_n dJx4a65c_add_9ea2d_10 0 rfl ?_
  refine r_aload_n dJx4a65c_add_9ea2d_11 1 rfl ?_
  refine r_aload_n dJx4a65c_add_9ea2d_12 0 rfl ?_
  refine r_get (C := RJx4a65c) (ref := RJx4a65c) (b := .ref (a 17)) dJx4a65c_add_9ea2d_13 (by decide +kernel : ∀ w ∈ u_ws RJx4a65c TJx4a65c 3, w ∈ wsJx4a65c_add_9ea2d) (kup_s _ _ _) rfl 1 (by decide) (by decide +kernel : Cond.fieldLink RJx4a65c 9 RJx4a65c "elementData" "[Ljava/lang/Object;" ∈ wsJx4a65c_add_9ea2d) rfl rfl ?_
  refine r_aload_n dJx4a65c_add_9ea2d_16 0 rfl ?_
  refine r_get (C := RJx4a65c) (ref := RJx4a65c) (b := .int (nI nC)) dJx4a65c_add_9ea2d_17 (by decide +kernel : ∀ w ∈ u_ws RJx4a65c TJx4a65c 3, w ∈ wsJx4a65c_add_9ea2d) (kup_s _ _ _) rfl 2 (by decide) (by decide +kernel : Cond.fieldLink RJx4a65c 48 RJx4a65c "size" "I" ∈ wsJx4a65c_add_9ea2d) rfl rfl ?_
  have hvv : (kup (kup (dw E a cap nF nC nE dt h0) v (.inr (0, [.int x, .int y, .int 0, .int 0]))) (a 3) (.inr (5, [.int (dt 41 0 + 1), .ref (a 17), .int (nI nC)]))) v = some (.inr (0, [.int x, .int y, .int 0, .int 0])) := by rw [kup_n _ _ (Ne.symm hvk), kup_s]
  have hxx : (kup (kup (dw E a cap nF nC nE dt h0) v (.inr (0, [.int x, .int y, .int 0, .int 0]))) (a 3) (.inr (5, [.int (dt 41 0 + 1), .ref (a 17), .int (nI nC)]))) (a 3) = some (.inr (5, [.int (dt 41 0 + 1), .ref (a 17), .int (nI nC)])) := kup_s _ _ _
  by_cases c0 : cap 17 = 0
  · have hn0 : nC = 0 := by have : nC ≤ cap 17 := hz1; omega
    have hed : a 17 = kN E := hz3 c0
    have hcA : kCv E yJx4a65c_add_72be8 wsJx4a65c_add_72be8 rmJx4a65c_add_72be8 1 400 [.ref (a 3), .ref v, .ref (a 17), .int (nI nC)] (kup (kup (dw E a cap nF nC nE dt h0) v (.inr (0, [.int x, .int y, .int 0, .int 0]))) (a 3) (.inr (5, [.int (dt 41 0 + 1), .ref (a 17), .int (nI nC)]))) (fun h' => ∃ q, (kup (kup (dw E a cap nF nC nE dt h0) v (.inr (0, [.int x, .int y, .int 0, .int 0]))) (a 3) (.inr (5, [.int (dt 41 0 + 1), .ref (a 17), .int (nI nC)]))) q = none ∧ h' = kup (kup (kup (kup (dw E a cap nF nC nE dt h0) v (.inr (0, [.int x, .int y, .int 0, .int 0]))) (a 3) (.inr (5, [.int (dt 41 0 + 1), .ref (a 17), .int (nI nC)]))) q (.inl (kO E, 10, .inr (.inr (.inr (.inr (va_up (fun _ => none) 0 (some v)))))))) (a 3) (.inr (5, [.int (dt 41 0 + 1), .ref q, .int (nI (nC + 1))]))) := by
      have zA := tJx4a65c_add_72be8A (E := E) (h := (kup (kup (dw E a cap nF nC nE dt h0) v (.inr (0, [.int x, .int y, .int 0, .int 0]))) (a 3) (.inr (5, [.int (dt 41 0 + 1), .ref (a 17), .int (nI nC)])))) (a 3) 0 (dt 41 0 + 1) rfl (by decide +kernel) (by rw [← hed]; rw [hxx, hn0]; rfl) v _ hvv (by decide)
      rw [← hed] at zA
      rw [show nI 0 = nI nC by rw [hn0], show nI 1 = nI (nC + 1) by rw [hn0]] at zA
      exact zA
    refine r_callVv (nn := 3) (As := [.ref v, .ref (a 17), .int (nI nC)]) (st := []) dJx4a65c_add_9ea2d_20 (hcA) gJx4a65c_add_9ea2d_Jx4a65c_add_72be8 rfl (by decide +kernel) ⟨Nat.le_of_ble_eq_true rfl, Nat.le_of_ble_eq_true rfl⟩ ⟨rfl, rfl⟩ hxx rfl rfl (Nat.le_of_ble_eq_true rfl) ⟨Nat.le_of_ble_eq_true rfl, Nat.le_of_ble_eq_true rfl⟩ rfl (fun hh hp => ?_)
    obtain ⟨q, hq0, rfl⟩ := hp
    have hq1 := (kup_none hq0).2
    have hq2 := kup_none hq1
    obtain ⟨a', cap', hg', hao, hsub⟩ := dw_addC hg hof hn x y (v := v) (q := q) (cp := 10) (row := (va_up (fun _ => none) 0 (some v))) (.inr (5, [.int (dt 41 0 + 1), .ref (a 17), .int (nI nC)])) hv (Or.inr ⟨hq2.2, hq2.1⟩) (by omega) (fun j => by rw [hn0]; by_cases c : j = 0 <;> simp [va_up, c])
    refine r_sub hsub ?_
    refine r_iconst (v := 1) dJx4a65c_add_9ea2d_23 (by decide) ?_
    exact kret _ _ _ _ _ _ (Nat.le_of_ble_eq_true rfl) (Nat.le_of_ble_eq_true rfl) dJx4a65c_add_9ea2d_24 rfl ⟨rfl, a', cap', hg', hao, rfl⟩
  by_cases c1 : nC = cap 17
  · skip
    have hrk : a 17 ≠ a 3 := fun z => by have := hg.1 17 3 (Or.inr (Or.inl ⟨by decide, by omega⟩)) (Or.inl (Or.inl (by decide))) z; omega
    have hrv : a 17 ≠ v := fun z => by rw [← z, show a 17 = a (14 + 3) from rfl, dw_ed hg (k := 3) (by decide) (by show 0 < cap 17; omega)] at hv; cases hv
    have hedd : (kup (kup (dw E a cap nF nC nE dt h0) v (.inr (0, [.int x, .int y, .int 0, .int 0]))) (a 3) (.inr (5, [.int (dt 41 0 + 1), .ref (a 17), .int (nI nC)]))) (a 17) = some (.inl (kO E, cap 17, .inr (.inr (.inr (.inr (drow a 40 nC)))))) := by rw [kup_n _ _ hrk, kup_n _ _ hrv]; exact dw_ed hg (k := 3) (by decide) (by show 0 < cap 17; omega)
    have h10 : 10 ≤ cap 17 := hz4 (by show 0 < cap 17; omega)
    have hcB := tJx4a65c_add_72be8B (E := E) (h := (kup (kup (dw E a cap nF nC nE dt h0) v (.inr (0, [.int x, .int y, .int 0, .int 0]))) (a 3) (.inr (5, [.int (dt 41 0 + 1), .ref (a 17), .int (nI nC)])))) (C := RX0) (T := TX0) (M := 4) (a 3) (a 17) (cap 17) 0 (dt 41 0 + 1) (drow a 40 nC) (by omega) hz2 rfl (by decide +kernel) (by rw [← c1]; exact hxx) hedd (fun j hj y hy => by rw [← c1] at hj; rw [show (drow a 40 nC) j = some (a (40 + j)) from if_pos hj] at hy; cases hy; exact ⟨_, by rw [kup_n _ _ (fun z => by have := hg.1 (40 + j) 3 (Or.inr (Or.inr (Or.inr (Or.inl (by omega))))) (Or.inl (Or.inl (by decide))) z; omega), kup_n _ _ (fun z => by rw [← z, dw_cam hg hj] at hv; cases hv), dw_cam hg hj]⟩) v _ hvv (by decide)
    rw [← c1] at hcB
    refine r_callVv (nn := 3) (As := [.ref v, .ref (a 17), .int (nI nC)]) (st := []) dJx4a65c_add_9ea2d_20 (hcB) gJx4a65c_add_9ea2d_Jx4a65c_add_72be8 rfl (by decide +kernel) ⟨Nat.le_of_ble_eq_true rfl, Nat.le_of_ble_eq_true rfl⟩ ⟨rfl, rfl⟩ hxx rfl rfl (Nat.le_of_ble_eq_true rfl) ⟨Nat.le_of_ble_eq_true rfl, Nat.le_of_ble_eq_true rfl⟩ rfl (fun hh hp => ?_)
    obtain ⟨q, hq0, rfl⟩ := hp
    have hq1 := (kup_none hq0).2
    have hq2 := kup_none hq1
    obtain ⟨a', cap', hg', hao, hsub⟩ := dw_addC hg hof hn x y (v := v) (q := q) (cp := (nC + nC / 2)) (row := (va_up (va_cpy (drow a 40 nC) (fun _ => none) 0 0 nC) nC (some v))) (.inr (5, [.int (dt 41 0 + 1), .ref (a 17), .int (nI nC)])) hv (Or.inr ⟨hq2.2, hq2.1⟩) (by omega) (rowB a 40 nC v)
    refine r_sub hsub ?_
    refine r_iconst (v := 1) dJx4a65c_add_9ea2d_23 (by decide) ?_
    exact kret _ _ _ _ _ _ (Nat.le_of_ble_eq_true rfl) (Nat.le_of_ble_eq_true rfl) dJx4a65c_add_9ea2d_24 rfl ⟨rfl, a', cap', hg', hao, rfl⟩
  · skip
    have hrk : a 17 ≠ a 3 := fun z => by have := hg.1 17 3 (Or.inr (Or.inl ⟨by decide, by omega⟩)) (Or.inl (Or.inl (by decide))) z; omega
    have hrv : a 17 ≠ v := fun z => by rw [← z, show a 17 = a (14 + 3) from rfl, dw_ed hg (k := 3) (by decide) (by show 0 < cap 17; omega)] at hv; cases hv
    have hedd : (kup (kup (dw E a cap nF nC nE dt h0) v (.inr (0, [.int x, .int y, .int 0, .int 0]))) (a 3) (.inr (5, [.int (dt 41 0 + 1), .ref (a 17), .int (nI nC)]))) (a 17) = some (.inl (kO E, cap 17, .inr (.inr (.inr (.inr (drow a 40 nC)))))) := by rw [kup_n _ _ hrk, kup_n _ _ hrv]; exact dw_ed hg (k := 3) (by decide) (by show 0 < cap 17; omega)
    have hlt : nC < cap 17 := by have : nC ≤ cap 17 := hz1; omega
    have h10 : 10 ≤ cap 17 := hz4 (by show 0 < cap 17; omega)
    refine r_callVv (nn := 3) (As := [.ref v, .ref (a 17), .int (nI nC)]) (st := []) dJx4a65c_add_9ea2d_20 (tJx4a65c_add_72be8C (E := E) (h := (kup (kup (dw E a cap nF nC nE dt h0) v (.inr (0, [.int x, .int y, .int 0, .int 0]))) (a 3) (.inr (5, [.int (dt 41 0 + 1), .ref (a 17), .int (nI nC)])))) (C := RX0) (T := TX0) (M := 4) (a 3) (a 17) (cap 17) nC 0 (dt 41 0 + 1) (drow a 40 nC) hlt hz2 rfl (by decide +kernel) hxx hedd v _ hvv (by decide)) gJx4a65c_add_9ea2d_Jx4a65c_add_72be8 rfl (by decide +kernel) ⟨Nat.le_of_ble_eq_true rfl, Nat.le_of_ble_eq_true rfl⟩ ⟨rfl, rfl⟩ hxx rfl rfl (Nat.le_of_ble_eq_true rfl) ⟨Nat.le_of_ble_eq_true rfl, Nat.le_of_ble_eq_true rfl⟩ rfl (fun hh hp => ?_)
    subst hp
    obtain ⟨a', cap', hg', hao, hsub⟩ := dw_addC hg hof hn x y (v := v) (q := (a 17)) (cp := (cap 17)) (row := (va_up (drow a 40 nC) nC (some v))) (.inr (5, [.int (dt 41 0 + 1), .ref (a 17), .int (nI nC)])) hv (Or.inl ⟨rfl, by omega⟩) ⟨by omega, hz2, h10⟩ (rowC a 40 nC v)
    refine r_sub hsub ?_
    refine r_iconst (v := 1) dJx4a65c_add_9ea2d_23 (by decide) ?_
    exact kret _ _ _ _ _ _ (Nat.le_of_ble_eq_true rfl) (Nat.le_of_ble_eq_true rfl) dJx4a65c_add_9ea2d_24 rfl ⟨rfl, a', cap', hg', hao, rfl⟩

set_option maxHeartbeats 4000000 in
set_option maxRecDepth 100000 in
theorem tadd_E {E : kE} {a cap : Nat → Nat} {h0 : kH} (dt : kM)  (nF nC nE w : Nat) (hg : dgeo E a cap nF nC nE h0) (hd : dwf dt nF nC nE w) (hn : nE < 80) (o : Nat) (ho : o < nF) (p t u : Int32) (v : Nat) (hv : dw E a cap nF nC nE dt h0 v = none) : kCi E yJx4a65c_add_9ea2d wsJx4a65c_add_9ea2d rmJx4a65c_add_9ea2d 1 400 [.ref (a 4), .ref v] (kup (dw E a cap nF nC nE dt h0) v (.inr (1, [.ref (a (20 + o)), .int p, .int t, .int u, .int 0]))) (fun r h' => r = 1 ∧ ∃ a' cap' : Nat → Nat, dgeo E a' cap' nF nC (nE + 1) h0 ∧ (∀ j, j ≠ 18 → j ≠ 50 + nE → a' j = a j) ∧ h' = dw E a' cap' nF nC (nE + 1) (dEnt dt nE (nI o) p t u) h0) := by
  obtain ⟨hF, hF20, hC, hC6, hE, hE80, hW, hW3, hpl, hof, hsp⟩ := id hd
  obtain ⟨hz1, hz2, hz3, hz4⟩ := hg.2.2.1 4 (by decide)
  have hvk : a 4 ≠ v := fun z => by rw [← z, dw_lst hg (k := 4) (by decide)] at hv; cases hv
  have hx1 : (kup (dw E a cap nF nC nE dt h0) v (.inr (1, [.ref (a (20 + o)), .int p, .int t, .int u, .int 0]))) (a 4) = some (.inr (5, [.int (dt 42 0), .ref (a 18), .int (nI nE)])) := by rw [kup_n _ _ hvk]; exact dw_lstN hg (k := 4) (by decide) hE
  refine kCi_of (rt := .boolean) (own := RJx4a65c) (cc := cJx4a65c_add_9ea2d) (maxL := 2) (by decide) rfl rfl (Nat.le_of_ble_eq_true rfl) ?_
  intro X hini kret
  refine r_lo (lo' := [(0, .ref (a 4)), (1, .ref v)]) [0, 1] rfl ?_
  refine r_aload_n dJx4a65c_add_9ea2d_0 0 rfl ?_
  refine r_dup dJx4a65c_add_9ea2d_1 rfl ?_
  refine r_getS (C := RJx4a65c) (ref := RJx4a65c) (b := .int (dt 42 0)) dJx4a65c_add_9ea2d_2 (by decide +kernel : ∀ w ∈ u_ws RJx4a65c TJx4a65c 3, w ∈ wsJx4a65c_add_9ea2d) hx1 rfl 0 (by decide) (by decide +kernel : Cond.fieldLink RJx4a65c 63 RJx4a65c "modCount" "I" ∈ wsJx4a65c_add_9ea2d) (by decide +kernel : Cond.sameField RJx4a65c "java/util/AbstractList" "modCount" "I" ∈ wsJx4a65c_add_9ea2d) rfl ?_
  refine r_iconst (v := 1) dJx4a65c_add_9ea2d_5 (by decide) ?_
  refine r_iadd dJx4a65c_add_9ea2d_6 ?_
  refine r_putS (C := RJx4a65c) (ref := RJx4a65c) (ty := .int) dJx4a65c_add_9ea2d_7 (by decide +kernel : ∀ w ∈ u_ws RJx4a65c TJx4a65c 3, w ∈ wsJx4a65c_add_9ea2d) tyJx4a65c tyJx4a65c_ok nmJx4a65c hx1 rfl 0 (by decide) (by decide +kernel : Cond.fieldLink RJx4a65c 63 RJx4a65c "modCount" "I" ∈ wsJx4a65c_add_9ea2d) (by decide +kernel : Cond.sameField RJx4a65c "java/util/AbstractList" "modCount" "I" ∈ wsJx4a65c_add_9ea2d) rfl (by decide +kernel) rfl rfl (Nat.le_of_ble_eq_true rfl) ?_
  dsimp only [List.set]
  refine r_aload_n dJx4a65c_add_9ea2d_10 0 rfl ?_
  refine r_aload_n dJx4a65c_add_9ea2d_11 1 rfl ?_
  refine r_aload_n dJx4a65c_add_9ea2d_12 0 rfl ?_
  refine r_get (C := RJx4a65c) (ref := RJx4a65c) (b := .ref (a 18)) dJx4a65c_add_9ea2d_13 (by decide +kernel : ∀ w ∈ u_ws RJx4a65c TJx4a65c 3, w ∈ wsJx4a65c_add_9ea2d) (kup_s _ _ _) rfl 1 (by decide) (by decide +kernel : Cond.fieldLink RJx4a65c 9 RJx4a65c "elementData" "[Ljava/lang/Object;" ∈ wsJx4a65c_add_9ea2d) rfl rfl ?_
  refine r_aload_n dJx4a65c_add_9ea2d_16 0 rfl ?_
  refine r_get (C := RJx4a65c) (ref := RJx4a65c) (b := .int (nI nE)) dJx4a65c_add_9ea2d_17 (by decide +kernel : ∀ w ∈ u_ws RJx4a65c TJx4a65c 3, w ∈ wsJx4a65c_add_9ea2d) (kup_s _ _ _) rfl 2 (by decide) (by decide +kernel : Cond.fieldLink RJx4a65c 48 RJx4a65c "size" "I" ∈ wsJx4a65c_add_9ea2d) rfl rfl ?_
  have hvv : (kup (kup (dw E a cap nF nC nE dt h0) v (.inr (1, [.ref (a (20 + o)), .int p, .int t, .int u, .int 0]))) (a 4) (.inr (5, [.int (dt 42 0 + 1), .ref (a 18), .int (nI nE)]))) v = some (.inr (1, [.ref (a (20 + o)), .int p, .int t, .int u, .int 0])) := by rw [kup_n _ _ (Ne.symm hvk), kup_s]
  have hxx : (kup (kup (dw E a cap nF nC nE dt h0) v (.inr (1, [.ref (a (20 + o)), .int p, .int t, .int u, .int 0]))) (a 4) (.inr (5, [.int (dt 42 0 + 1), .ref (a 18), .int (nI nE)]))) (a 4) = some (.inr (5, [.int (dt 42 0 + 1), .ref (a 18), .int (nI nE)])) := kup_s _ _ _
  by_cases c0 : cap 18 = 0
  · have hn0 : nE = 0 := by have : nE ≤ cap 18 := hz1; omega
    have hed : a 18 = kN E := hz3 c0
    have hcA : kCv E yJx4a65c_add_72be8 wsJx4a65c_add_72be8 rmJx4a65c_add_72be8 1 400 [.ref (a 4), .ref v, .ref (a 18), .int (nI nE)] (kup (kup (dw E a cap nF nC nE dt h0) v (.inr (1, [.ref (a (20 + o)), .int p, .int t, .int u, .int 0]))) (a 4) (.inr (5, [.int (dt 42 0 + 1), .ref (a 18), .int (nI nE)]))) (fun h' => ∃ q, (kup (kup (dw E a cap nF nC nE dt h0) v (.inr (1, [.ref (a (20 + o)), .int p, .int t, .int u, .int 0]))) (a 4) (.inr (5, [.int (dt 42 0 + 1), .ref (a 18), .int (nI nE)]))) q = none ∧ h' = kup (kup (kup (kup (dw E a cap nF nC nE dt h0) v (.inr (1, [.ref (a (20 + o)), .int p, .int t, .int u, .int 0]))) (a 4) (.inr (5, [.int (dt 42 0 + 1), .ref (a 18), .int (nI nE)]))) q (.inl (kO E, 10, .inr (.inr (.inr (.inr (va_up (fun _ => none) 0 (some v)))))))) (a 4) (.inr (5, [.int (dt 42 0 + 1), .ref q, .int (nI (nE + 1))]))) := by
      have zA := tJx4a65c_add_72be8A (E := E) (h := (kup (kup (dw E a cap nF nC nE dt h0) v (.inr (1, [.ref (a (20 + o)), .int p, .int t, .int u, .int 0]))) (a 4) (.inr (5, [.int (dt 42 0 + 1), .ref (a 18), .int (nI nE)])))) (a 4) 1 (dt 42 0 + 1) rfl (by decide +kernel) (by rw [← hed]; rw [hxx, hn0]; rfl) v _ hvv (by decide)
      rw [← hed] at zA
      rw [show nI 0 = nI nE by rw [hn0], show nI 1 = nI (nE + 1) by rw [hn0]] at zA
      exact zA
    refine r_callVv (nn := 3) (As := [.ref v, .ref (a 18), .int (nI nE)]) (st := []) dJx4a65c_add_9ea2d_20 (hcA) gJx4a65c_add_9ea2d_Jx4a65c_add_72be8 rfl (by decide +kernel) ⟨Nat.le_of_ble_eq_true rfl, Nat.le_of_ble_eq_true rfl⟩ ⟨rfl, rfl⟩ hxx rfl rfl (Nat.le_of_ble_eq_true rfl) ⟨Nat.le_of_ble_eq_true rfl, Nat.le_of_ble_eq_true rfl⟩ rfl (fun hh hp => ?_)
    obtain ⟨q, hq0, rfl⟩ := hp
    have hq1 := (kup_none hq0).2
    have hq2 := kup_none hq1
    obtain ⟨a', cap', hg', hao, hsub⟩ := dw_addE hg hof hn ho p t u (v := v) (q := q) (cp := 10) (row := (va_up (fun _ => none) 0 (some v))) (.inr (5, [.int (dt 42 0 + 1), .ref (a 18), .int (nI nE)])) hv (Or.inr ⟨hq2.2, hq2.1⟩) (by omega) (fun j => by rw [hn0]; by_cases c : j = 0 <;> simp [va_up, c])
    refine r_sub hsub ?_
    refine r_iconst (v := 1) dJx4a65c_add_9ea2d_23 (by decide) ?_
    exact kret _ _ _ _ _ _ (Nat.le_of_ble_eq_true rfl) (Nat.le_of_ble_eq_true rfl) dJx4a65c_add_9ea2d_24 rfl ⟨rfl, a', cap', hg', hao, rfl⟩
  by_cases c1 : nE = cap 18
  · skip
    have hrk : a 18 ≠ a 4 := fun z => by have := hg.1 18 4 (Or.inr (Or.inl ⟨by decide, by omega⟩)) (Or.inl (Or.inl (by decide))) z; omega
    have hrv : a 18 ≠ v := fun z => by rw [← z, show a 18 = a (14 + 4) from rfl, dw_ed hg (k := 4) (by decide) (by show 0 < cap 18; omega)] at hv; cases hv
    have hedd : (kup (kup (dw E a cap nF nC nE dt h0) v (.inr (1, [.ref (a (20 + o)), .int p, .int t, .int u, .int 0]))) (a 4) (.inr (5, [.int (dt 42 0 + 1), .ref (a 18), .int (nI nE)]))) (a 18) = some (.inl (kO E, cap 18, .inr (.inr (.inr (.inr (drow a 50 nE)))))) := by rw [kup_n _ _ hrk, kup_n _ _ hrv]; exact dw_ed hg (k := 4) (by decide) (by show 0 < cap 18; omega)
    have h10 : 10 ≤ cap 18 := hz4 (by show 0 < cap 18; omega)
    have hcB := tJx4a65c_add_72be8B (E := E) (h := (kup (kup (dw E a cap nF nC nE dt h0) v (.inr (1, [.ref (a (20 + o)), .int p, .int t, .int u, .int 0]))) (a 4) (.inr (5, [.int (dt 42 0 + 1), .ref (a 18), .int (nI nE)])))) (C := RX1) (T := TX1) (M := 5) (a 4) (a 18) (cap 18) 1 (dt 42 0 + 1) (drow a 50 nE) (by omega) hz2 rfl (by decide +kernel) (by rw [← c1]; exact hxx) hedd (fun j hj y hy => by rw [← c1] at hj; rw [show (drow a 50 nE) j = some (a (50 + j)) from if_pos hj] at hy; cases hy; exact ⟨_, by rw [kup_n _ _ (fun z => by have := hg.1 (50 + j) 4 (Or.inr (Or.inr (Or.inr (Or.inr (by omega))))) (Or.inl (Or.inl (by decide))) z; omega), kup_n _ _ (fun z => by rw [← z, dw_ent hg hj] at hv; cases hv), dw_ent hg hj]⟩) v _ hvv (by decide)
    rw [← c1] at hcB
    refine r_callVv (nn := 3) (As := [.ref v, .ref (a 18), .int (nI nE)]) (st := []) dJx4a65c_add_9ea2d_20 (hcB) gJx4a65c_add_9ea2d_Jx4a65c_add_72be8 rfl (by decide +kernel) ⟨Nat.le_of_ble_eq_true rfl, Nat.le_of_ble_eq_true rfl⟩ ⟨rfl, rfl⟩ hxx rfl rfl (Nat.le_of_ble_eq_true rfl) ⟨Nat.le_of_ble_eq_true rfl, Nat.le_of_ble_eq_true rfl⟩ rfl (fun hh hp => ?_)
    obtain ⟨q, hq0, rfl⟩ := hp
    have hq1 := (kup_none hq0).2
    have hq2 := kup_none hq1
    obtain ⟨a', cap', hg', hao, hsub⟩ := dw_addE hg hof hn ho p t u (v := v) (q := q) (cp := (nE + nE / 2)) (row := (va_up (va_cpy (drow a 50 nE) (fun _ => none) 0 0 nE) nE (some v))) (.inr (5, [.int (dt 42 0 + 1), .ref (a 18), .int (nI nE)])) hv (Or.inr ⟨hq2.2, hq2.1⟩) (by omega) (rowB a 50 nE v)
    refine r_sub hsub ?_
    refine r_iconst (v := 1) dJx4a65c_add_9ea2d_23 (by decide) ?_
    exact kret _ _ _ _ _ _ (Nat.le_of_ble_eq_true rfl) (Nat.le_of_ble_eq_true rfl) dJx4a65c_add_9ea2d_24 rfl ⟨rfl, a', cap', hg', hao, rfl⟩
  · skip
    have hrk : a 18 ≠ a 4 := fun z => by have := hg.1 18 4 (Or.inr (Or.inl ⟨by decide, by omega⟩)) (Or.inl (Or.inl (by decide))) z; omega
    have hrv : a 18 ≠ v := fun z => by rw [← z, show a 18 = a (14 + 4) from rfl, dw_ed hg (k := 4) (by decide) (by show 0 < cap 18; omega)] at hv; cases hv
    have hedd : (kup (kup (dw E a cap nF nC nE dt h0) v (.inr (1, [.ref (a (20 + o)), .int p, .int t, .int u, .int 0]))) (a 4) (.inr (5, [.int (dt 42 0 + 1), .ref (a 18), .int (nI nE)]))) (a 18) = some (.inl (kO E, cap 18, .inr (.inr (.inr (.inr (drow a 50 nE)))))) := by rw [kup_n _ _ hrk, kup_n _ _ hrv]; exact dw_ed hg (k := 4) (by decide) (by show 0 < cap 18; omega)
    have hlt : nE < cap 18 := by have : nE ≤ cap 18 := hz1; omega
    have h10 : 10 ≤ cap 18 := hz4 (by show 0 < cap 18; omega)
    refine r_callVv (nn := 3) (As := [.ref v, .ref (a 18), .int (nI nE)]) (st := []) dJx4a65c_add_9ea2d_20 (tJx4a65c_add_72be8C (E := E) (h := (kup (kup (dw E a cap nF nC nE dt h0) v (.inr (1, [.ref (a (20 + o)), .int p, .int t, .int u, .int 0]))) (a 4) (.inr (5, [.int (dt 42 0 + 1), .ref (a 18), .int (nI nE)])))) (C := RX1) (T := TX1) (M := 5) (a 4) (a 18) (cap 18) nE 1 (dt 42 0 + 1) (drow a 50 nE) hlt hz2 rfl (by decide +kernel) hxx hedd v _ hvv (by decide)) gJx4a65c_add_9ea2d_Jx4a65c_add_72be8 rfl (by decide +kernel) ⟨Nat.le_of_ble_eq_true rfl, Nat.le_of_ble_eq_true rfl⟩ ⟨rfl, rfl⟩ hxx rfl rfl (Nat.le_of_ble_eq_true rfl) ⟨Nat.le_of_ble_eq_true rfl, Nat.le_of_ble_eq_true rfl⟩ rfl (fun hh hp => ?_)
    subst hp
    obtain ⟨a', cap', hg', hao, hsub⟩ := dw_addE hg hof hn ho p t u (v := v) (q := (a 18)) (cp := (cap 18)) (row := (va_up (drow a 50 nE) nE (some v))) (.inr (5, [.int (dt 42 0 + 1), .ref (a 18), .int (nI nE)])) hv (Or.inl ⟨rfl, by omega⟩) ⟨by omega, hz2, h10⟩ (rowC a 50 nE v)
    refine r_sub hsub ?_
    refine r_iconst (v := 1) dJx4a65c_add_9ea2d_23 (by decide) ?_
    exact kret _ _ _ _ _ _ (Nat.le_of_ble_eq_true rfl) (Nat.le_of_ble_eq_true rfl) dJx4a65c_add_9ea2d_24 rfl ⟨rfl, a', cap', hg', hao, rfl⟩

