/-! ArrayList and what it calls, over any map -/
theorem max1 {g : Nat} (hg : g < 2 ^ 31) (h1 : 1 ≤ g) : (if nI 1 < nI g then nI g else nI 1) = nI g := by
  by_cases c : nI 1 < nI g
  · rw [if_pos c]
  · rw [if_neg c]
    rw [nI_ltI (by decide) hg] at c
    have : g = 1 := by omega
    rw [this]
theorem min1 {n N : Nat} (h : n ≤ N) (hN : N < 2 ^ 31) : (if nI N < nI n then nI N else nI n) = nI n := if_neg (nI_nlt h hN)
abbrev rmJx4a65c_size_8abf5 : Room := { frames := 0, cells := 0, slots := 0, locals := 0 }
set_option maxHeartbeats 4000000 in
set_option maxRecDepth 100000 in
theorem tJx4a65c_size_8abf5 {E : kE} {h : kH} (x ed : Nat) (m sz : Int32) (hx : h x = some (.inr (5, [.int m, .ref ed, .int sz]))) : kCi E yJx4a65c_size_8abf5 wsJx4a65c_size_8abf5 rmJx4a65c_size_8abf5 0 0 [.ref x] h (fun r h' => r = sz ∧ h' = h) := by
  refine kCi_of (rt := .int) (own := RJx4a65c) (cc := cJx4a65c_size_8abf5) (maxL := 1) (by decide) rfl rfl (Nat.le_of_ble_eq_true rfl) ?_
  intro X hini kret
  refine r_lo (lo' := [(0, .ref x)]) [0] rfl ?_
  refine r_aload_n dJx4a65c_size_8abf5_0 0 rfl ?_
  refine r_get (C := RJx4a65c) (ref := RJx4a65c) (b := .int sz) dJx4a65c_size_8abf5_1 (by decide +kernel : ∀ w ∈ u_ws RJx4a65c TJx4a65c 3, w ∈ wsJx4a65c_size_8abf5) hx rfl 2 (by decide) (by decide +kernel : Cond.fieldLink RJx4a65c 48 RJx4a65c "size" "I" ∈ wsJx4a65c_size_8abf5) rfl rfl ?_
  exact kret _ _ _ _ _ _ (Nat.le_refl _) (Nat.le_refl _) dJx4a65c_size_8abf5_4 rfl (⟨rfl, rfl⟩)

abbrev rmJ3_checkIndex_8e157 : Room := { frames := 0, cells := 0, slots := 0, locals := 0 }
set_option maxHeartbeats 4000000 in
set_option maxRecDepth 100000 in
theorem tJ3_checkIndex_8e157 {E : kE} {h : kH} (i n : Nat) (hi : i < n) (hn : n < 2 ^ 31) : kCi E yJ3_checkIndex_8e157 wsJ3_checkIndex_8e157 rmJ3_checkIndex_8e157 0 0 [.int (nI i), .int (nI n), .null] h (fun r h' => r = nI i ∧ h' = h) := by
  refine kCi_of (rt := .int) (own := RJ3) (cc := cJ3_checkIndex_8e157) (maxL := 3) (by decide) rfl rfl (Nat.le_of_ble_eq_true rfl) ?_
  intro X hini kret
  refine r_lo (lo' := [(0, .int (nI i)), (1, .int (nI n)), (2, .null)]) [0, 1, 2] rfl ?_
  refine r_iload_n dJ3_checkIndex_8e157_0 0 rfl ?_
  refine r_if_lt (tgt := 9) dJ3_checkIndex_8e157_1 (by decide) (fun z => absurd z (nI_pos (by omega))) (fun _ => ?_)
  refine r_iload_n dJ3_checkIndex_8e157_4 0 rfl ?_
  refine r_iload_n dJ3_checkIndex_8e157_5 1 rfl ?_
  refine r_icmp_lt (tgt := 16) dJ3_checkIndex_8e157_6 (by decide) (fun _ => ?_) (fun z => absurd (nI_lt hi hn) z)
  refine r_iload_n dJ3_checkIndex_8e157_16 0 rfl ?_
  exact kret _ _ _ _ _ _ (Nat.le_refl _) (Nat.le_refl _) dJ3_checkIndex_8e157_17 rfl (⟨rfl, rfl⟩)

abbrev rmJ15_checkIndex_7cf53 : Room := { frames := 1, cells := 0, slots := 0, locals := 22 }
set_option maxHeartbeats 4000000 in
set_option maxRecDepth 100000 in
theorem tJ15_checkIndex_7cf53 {E : kE} {h : kH} (i n : Nat) (hi : i < n) (hn : n < 2 ^ 31) : kCi E yJ15_checkIndex_7cf53 wsJ15_checkIndex_7cf53 rmJ15_checkIndex_7cf53 0 0 [.int (nI i), .int (nI n)] h (fun r h' => r = nI i ∧ h' = h) := by
  refine kCi_of (rt := .int) (own := RJ15) (cc := cJ15_checkIndex_7cf53) (maxL := 2) (by decide) rfl rfl (Nat.le_of_ble_eq_true rfl) ?_
  intro X hini kret
  refine r_lo (lo' := [(0, .int (nI i)), (1, .int (nI n))]) [0, 1] rfl ?_
  refine r_iload_n dJ15_checkIndex_7cf53_0 0 rfl ?_
  refine r_iload_n dJ15_checkIndex_7cf53_1 1 rfl ?_
  refine r_null dJ15_checkIndex_7cf53_2 ?_
  refine r_callSi (nn := 3) (As := [.int (nI i), .int (nI n), .null]) (st := []) dJ15_checkIndex_7cf53_3 (tJ3_checkIndex_8e157 i n hi hn) gJ15_checkIndex_7cf53_J3_checkIndex_8e157 rfl (by decide +kernel) ⟨Nat.le_of_ble_eq_true rfl, Nat.le_of_ble_eq_true rfl⟩ ⟨rfl, rfl⟩ rfl (Nat.le_of_ble_eq_true rfl) ⟨Nat.le_of_ble_eq_true rfl, Nat.le_of_ble_eq_true rfl⟩ rfl (fun r hh hp => ?_)
  obtain ⟨rfl, rfl⟩ := hp
  exact kret _ _ _ _ _ _ (Nat.le_refl _) (Nat.le_refl _) dJ15_checkIndex_7cf53_6 rfl (⟨rfl, rfl⟩)

abbrev rmJx4a65c_elementData_915e3 : Room := { frames := 0, cells := 0, slots := 0, locals := 0 }
set_option maxHeartbeats 4000000 in
set_option maxRecDepth 100000 in
theorem tJx4a65c_elementData_915e3 {E : kE} {h : kH} (x ed cap i n : Nat) (m : Int32) (row : Nat → Option Nat) (hi : i < n) (hn : n ≤ cap) (hc : cap < 2 ^ 31) (hx : h x = some (.inr (5, [.int m, .ref ed, .int (nI n)]))) (he : h ed = some (.inl (kO E, cap, .inr (.inr (.inr (.inr row)))))) : kCq E yJx4a65c_elementData_915e3 wsJx4a65c_elementData_915e3 rmJx4a65c_elementData_915e3 0 0 [.ref x, .int (nI i)] h (fun r h' => r = row i ∧ h' = h) := by
  refine kCq_of (rt := .object "java/lang/Object") (own := RJx4a65c) (cc := cJx4a65c_elementData_915e3) (maxL := 2) (by decide) rfl rfl (Or.inl ⟨_, rfl⟩) (Nat.le_of_ble_eq_true rfl) ?_
  intro X hini kret
  refine r_lo (lo' := [(0, .ref x), (1, .int (nI i))]) [0, 1] rfl ?_
  refine r_aload_n dJx4a65c_elementData_915e3_0 0 rfl ?_
  refine r_get (C := RJx4a65c) (ref := RJx4a65c) (b := .ref ed) dJx4a65c_elementData_915e3_1 (by decide +kernel : ∀ w ∈ u_ws RJx4a65c TJx4a65c 3, w ∈ wsJx4a65c_elementData_915e3) hx rfl 1 (by decide) (by decide +kernel : Cond.fieldLink RJx4a65c 9 RJx4a65c "elementData" "[Ljava/lang/Object;" ∈ wsJx4a65c_elementData_915e3) rfl rfl ?_
  refine r_iload_n dJx4a65c_elementData_915e3_4 1 rfl ?_
  refine r_aald dJx4a65c_elementData_915e3_5 he (vp_in_nI (by omega) hc) ?_
  rw [nI_clamp (by omega)]
  exact kret _ _ _ _ _ (row i) (Nat.le_refl _) (Nat.le_refl _) dJx4a65c_elementData_915e3_6 (⟨rfl, rfl⟩)

abbrev rmJx4a65c_get_915e3 : Room := { frames := 2, cells := 0, slots := 0, locals := 43 }
set_option maxHeartbeats 4000000 in
set_option maxRecDepth 100000 in
theorem tJx4a65c_get_915e3 {E : kE} {h : kH} (x ed cap i n : Nat) (m : Int32) (row : Nat → Option Nat) (hi : i < n) (hn : n ≤ cap) (hc : cap < 2 ^ 31) (hx : h x = some (.inr (5, [.int m, .ref ed, .int (nI n)]))) (he : h ed = some (.inl (kO E, cap, .inr (.inr (.inr (.inr row)))))) : kCq E yJx4a65c_get_915e3 wsJx4a65c_get_915e3 rmJx4a65c_get_915e3 0 0 [.ref x, .int (nI i)] h (fun r h' => r = row i ∧ h' = h) := by
  refine kCq_of (rt := .object "java/lang/Object") (own := RJx4a65c) (cc := cJx4a65c_get_915e3) (maxL := 2) (by decide) rfl rfl (Or.inl ⟨_, rfl⟩) (Nat.le_of_ble_eq_true rfl) ?_
  intro X hini kret
  refine r_lo (lo' := [(0, .ref x), (1, .int (nI i))]) [0, 1] rfl ?_
  refine r_iload_n dJx4a65c_get_915e3_0 1 rfl ?_
  refine r_aload_n dJx4a65c_get_915e3_1 0 rfl ?_
  refine r_get (C := RJx4a65c) (ref := RJx4a65c) (b := .int (nI n)) dJx4a65c_get_915e3_2 (by decide +kernel : ∀ w ∈ u_ws RJx4a65c TJx4a65c 3, w ∈ wsJx4a65c_get_915e3) hx rfl 2 (by decide) (by decide +kernel : Cond.fieldLink RJx4a65c 48 RJx4a65c "size" "I" ∈ wsJx4a65c_get_915e3) rfl rfl ?_
  refine r_callSi (nn := 2) (As := [.int (nI i), .int (nI n)]) (st := []) dJx4a65c_get_915e3_5 (tJ15_checkIndex_7cf53 i n hi (by omega)) gJx4a65c_get_915e3_J15_checkIndex_7cf53 rfl (by decide +kernel) ⟨Nat.le_of_ble_eq_true rfl, Nat.le_of_ble_eq_true rfl⟩ ⟨rfl, rfl⟩ rfl (Nat.le_of_ble_eq_true rfl) ⟨Nat.le_of_ble_eq_true rfl, Nat.le_of_ble_eq_true rfl⟩ rfl (fun r hh hp => ?_)
  obtain ⟨rfl, rfl⟩ := hp
  refine r_pop dJx4a65c_get_915e3_8 rfl ?_
  refine r_aload_n dJx4a65c_get_915e3_9 0 rfl ?_
  refine r_iload_n dJx4a65c_get_915e3_10 1 rfl ?_
  refine r_callVq (nn := 1) (As := [.int (nI i)]) (st := []) dJx4a65c_get_915e3_11 (tJx4a65c_elementData_915e3 x ed cap i n m row hi hn hc hx he) gJx4a65c_get_915e3_Jx4a65c_elementData_915e3 rfl (by decide +kernel) ⟨Nat.le_of_ble_eq_true rfl, Nat.le_of_ble_eq_true rfl⟩ ⟨rfl, rfl⟩ hx rfl rfl (Nat.le_of_ble_eq_true rfl) ⟨Nat.le_of_ble_eq_true rfl, Nat.le_of_ble_eq_true rfl⟩ rfl (fun r hh hp => ?_)
  obtain ⟨rfl, rfl⟩ := hp
  exact kret _ _ _ _ _ (row i) (Nat.le_refl _) (Nat.le_refl _) dJx4a65c_get_915e3_14 (⟨rfl, rfl⟩)

abbrev rmJ8_newLength_cabcc : Room := { frames := 1, cells := 0, slots := 0, locals := 24 }
set_option maxHeartbeats 4000000 in
set_option maxRecDepth 100000 in
theorem tJ8_newLength_cabcc {E : kE} {h : kH} (o g : Nat) (ho : o < 2 ^ 20) (hg : g < 2 ^ 20) (hg1 : 1 ≤ g) : kCi E yJ8_newLength_cabcc wsJ8_newLength_cabcc rmJ8_newLength_cabcc 0 0 [.int (nI o), .int (nI 1), .int (nI g)] h (fun r h' => r = nI (o + g) ∧ h' = h) := by
  refine kCi_of (rt := .int) (own := RJ8) (cc := cJ8_newLength_cabcc) (maxL := 4) (by decide) rfl rfl (Nat.le_of_ble_eq_true rfl) ?_
  intro X hini kret
  refine r_lo (lo' := [(0, .int (nI o)), (1, .int (nI 1)), (2, .int (nI g))]) [0, 1, 2] rfl ?_
  refine r_iload_n dJ8_newLength_cabcc_0 0 rfl ?_
  refine r_iload_n dJ8_newLength_cabcc_1 1 rfl ?_
  refine r_iload_n dJ8_newLength_cabcc_2 2 rfl ?_
  refine r_mmax dJ8_newLength_cabcc_3 (by decide +kernel : Cond.methodLink RJ8 194 Lib.Math.max.name ∈ wsJ8_newLength_cabcc) (by decide +kernel : Cond.static Lib.Math.max.name ∈ wsJ8_newLength_cabcc) (by decide +kernel : Cond.initialized "java/lang/Math" ∈ wsJ8_newLength_cabcc) (by decide +kernel : Cond.code Lib.Math.max.name Lib.Math.max.code 2 (some .int) ∈ wsJ8_newLength_cabcc) (by decide) (Nat.le_of_ble_eq_true rfl) (Nat.le_refl _) (Nat.le_refl _) ?_
  rw [max1 (by omega) hg1]
  refine r_iadd dJ8_newLength_cabcc_6 ?_
  rw [nI_add]
  refine r_istore_n (lo' := [(3, .int (nI (o + g))), (0, .int (nI o)), (1, .int (nI 1)), (2, .int (nI g))]) dJ8_newLength_cabcc_7 (by decide) rfl ?_
  refine r_iconst (v := 0) dJ8_newLength_cabcc_8 (by decide) ?_
  refine r_iload_n dJ8_newLength_cabcc_9 0 rfl ?_
  refine r_icmp_ge (tgt := 21) dJ8_newLength_cabcc_10 (by decide) (fun z => absurd (show (0 : Int32) < nI (o + g) from nI_lt (a := 0) (by omega) (by omega)) z) (fun _ => ?_)
  refine r_iload_n dJ8_newLength_cabcc_13 0 rfl ?_
  refine r_ldc (v := 2147483639) dJ8_newLength_cabcc_14 (by decide +kernel) ?_
  refine r_icmp_gt (tgt := 21) dJ8_newLength_cabcc_16 (by decide) (fun z => absurd z (nI_nlt (a := 2147483639) (b := o + g) (by omega) (by decide))) (fun _ => ?_)
  refine r_iload_n dJ8_newLength_cabcc_19 0 rfl ?_
  exact kret _ _ _ _ _ _ (Nat.le_refl _) (Nat.le_refl _) dJ8_newLength_cabcc_20 rfl (⟨rfl, rfl⟩)

abbrev rmJ7_copyOf_6403c : Room := { frames := 1, cells := 1, slots := 400, locals := 60 }
set_option maxHeartbeats 4000000 in
set_option maxRecDepth 100000 in
theorem tJ7_copyOf_6403c {E : kE} {h : kH} {C : String} {T : u_T} {M : Nat} (ed n N ci : Nat) (row : Nat → Option Nat) (hn : n ≤ N) (hN : N ≤ 400) (hc : kcl[ci]? = some (C, T, M)) (hca : (C, "java/lang/Object") ∈ kCast) (he : h ed = some (.inl (kO E, n, .inr (.inr (.inr (.inr row)))))) (hel : ∀ j, j < n → ∀ y, row j = some y → ∃ fs, h y = some (.inr (ci, fs))) : kCq E yJ7_copyOf_6403c wsJ7_copyOf_6403c rmJ7_copyOf_6403c 1 400 [.ref ed, .int (nI N), .ref (kMi E)] h (fun r h' => ∃ q, h q = none ∧ r = some q ∧ h' = kup h q (.inl (kO E, N, .inr (.inr (.inr (.inr (va_cpy row (fun _ => none) 0 0 n))))))) := by
  refine kCq_of (rt := .array (.object "java/lang/Object")) (own := RJ7) (cc := cJ7_copyOf_6403c) (maxL := 4) (by decide) rfl rfl (Or.inr ⟨_, rfl⟩) (Nat.le_of_ble_eq_true rfl) ?_
  intro X hini kret
  refine r_lo (lo' := [(0, .ref ed), (1, .int (nI N)), (2, .ref (kMi E))]) [0, 1, 2] rfl ?_
  refine r_aload_n dJ7_copyOf_6403c_0 2 rfl ?_
  refine r_ldcM dJ7_copyOf_6403c_1 (by decide +kernel : Cond.classLink RJ7 110 "[Ljava/lang/Object;" ∈ wsJ7_copyOf_6403c) ?_
  refine r_acmp_ne (tgt := 13) dJ7_copyOf_6403c_3 (by decide) (fun z => absurd rfl z) (fun _ => ?_)
  refine r_iload_n dJ7_copyOf_6403c_6 1 rfl ?_
  refine r_newO (N := N) dJ7_copyOf_6403c_7 (by decide +kernel : Cond.classLink RJ7 2 "java/lang/Object" ∈ wsJ7_copyOf_6403c) (nI_pos (by omega)) (nI_clamp (by omega)) (by omega) (Nat.le_of_ble_eq_true rfl) (by show 0 + N ≤ 400; omega) (fun q hq => ?_)
  refine r_goto (tgt := 24) dJ7_copyOf_6403c_10 (by decide) ?_
  refine r_astore_n (lo' := [(3, .ref q), (0, .ref ed), (1, .int (nI N)), (2, .ref (kMi E))]) dJ7_copyOf_6403c_24 (by decide) rfl ?_
  refine r_aload_n dJ7_copyOf_6403c_25 1 rfl ?_
  refine r_iconst (v := 0) dJ7_copyOf_6403c_26 (by decide) ?_
  refine r_aload_n dJ7_copyOf_6403c_27 0 rfl ?_
  refine r_iconst (v := 0) dJ7_copyOf_6403c_28 (by decide) ?_
  refine r_aload_n dJ7_copyOf_6403c_29 1 rfl ?_
  have hqe : ed ≠ q := fun z => by rw [z, hq] at he; cases he
  have he2 : kup h q (.inl (kO E, N, .inr (.inr (.inr (.inr (fun _ => none)))))) ed = some (.inl (kO E, n, .inr (.inr (.inr (.inr row))))) := by rw [kup_n _ _ hqe, he]
  refine r_alen dJ7_copyOf_6403c_30 he2 ?_
  rw [show Int32.ofNat n = nI n from rfl]
  refine r_iload_n dJ7_copyOf_6403c_31 2 rfl ?_
  refine r_mmin dJ7_copyOf_6403c_32 (by decide +kernel : Cond.methodLink RJ7 304 Lib.Math.min.name ∈ wsJ7_copyOf_6403c) (by decide +kernel : Cond.static Lib.Math.min.name ∈ wsJ7_copyOf_6403c) (by decide +kernel : Cond.initialized "java/lang/Math" ∈ wsJ7_copyOf_6403c) (by decide +kernel : Cond.code Lib.Math.min.name Lib.Math.min.code 2 (some .int) ∈ wsJ7_copyOf_6403c) (by decide) (Nat.le_of_ble_eq_true rfl) (Nat.le_of_ble_eq_true rfl) (by show 0 + N ≤ 400; omega) ?_
  rw [min1 hn (by omega)]
  refine r_copy dJ7_copyOf_6403c_35 (by decide +kernel : Cond.methodLink RJ7 150 arraycopyName ∈ wsJ7_copyOf_6403c) (by decide +kernel : Cond.native arraycopyName ∈ wsJ7_copyOf_6403c) (by decide +kernel : Cond.static arraycopyName ∈ wsJ7_copyOf_6403c) (by decide +kernel : Cond.initialized "java/lang/System" ∈ wsJ7_copyOf_6403c) he2 (kup_s _ _ _) (Nat.le_refl _) hn (by omega) hc hca (fun j hj y hy => by obtain ⟨fs, hfs⟩ := hel j hj y hy; exact ⟨fs, by rw [kup_n _ _ (fun z => by rw [z, hq] at hfs; cases hfs), hfs]⟩) (by decide) (by decide +kernel) ?_
  rw [kup_kup]
  refine r_aload_n dJ7_copyOf_6403c_38 0 rfl ?_
  exact kret _ _ _ _ _ (some q) (Nat.le_refl _) (by show 0 + N ≤ 400; omega) dJ7_copyOf_6403c_39 (⟨q, hq, rfl, rfl⟩)

abbrev rmJ7_copyOf_1904c : Room := { frames := 2, cells := 1, slots := 400, locals := 120 }
set_option maxHeartbeats 4000000 in
set_option maxRecDepth 100000 in
theorem tJ7_copyOf_1904c {E : kE} {h : kH} {C : String} {T : u_T} {M : Nat} (ed n N ci : Nat) (row : Nat → Option Nat) (hn : n ≤ N) (hN : N ≤ 400) (hc : kcl[ci]? = some (C, T, M)) (hca : (C, "java/lang/Object") ∈ kCast) (he : h ed = some (.inl (kO E, n, .inr (.inr (.inr (.inr row)))))) (hel : ∀ j, j < n → ∀ y, row j = some y → ∃ fs, h y = some (.inr (ci, fs))) : kCq E yJ7_copyOf_1904c wsJ7_copyOf_1904c rmJ7_copyOf_1904c 1 400 [.ref ed, .int (nI N)] h (fun r h' => ∃ q, h q = none ∧ r = some q ∧ h' = kup h q (.inl (kO E, N, .inr (.inr (.inr (.inr (va_cpy row (fun _ => none) 0 0 n))))))) := by
  refine kCq_of (rt := .array (.object "java/lang/Object")) (own := RJ7) (cc := cJ7_copyOf_1904c) (maxL := 2) (by decide) rfl rfl (Or.inr ⟨_, rfl⟩) (Nat.le_of_ble_eq_true rfl) ?_
  intro X hini kret
  refine r_lo (lo' := [(0, .ref ed), (1, .int (nI N))]) [0, 1] rfl ?_
  refine r_aload_n dJ7_copyOf_1904c_0 0 rfl ?_
  refine r_iload_n dJ7_copyOf_1904c_1 1 rfl ?_
  refine r_aload_n dJ7_copyOf_1904c_2 0 rfl ?_
  refine r_getC dJ7_copyOf_1904c_3 (by decide +kernel : Cond.methodLink RJ7 86 ⟨"java/lang/Object", "getClass", "()Ljava/lang/Class;"⟩ ∈ wsJ7_copyOf_1904c) (by decide +kernel : Cond.selects "[Ljava/lang/Object;" ⟨"java/lang/Object", "getClass", "()Ljava/lang/Class;"⟩ ⟨"java/lang/Object", "getClass", "()Ljava/lang/Class;"⟩ ∈ wsJ7_copyOf_1904c) (by decide +kernel : Cond.instanceMethod ⟨"java/lang/Object", "getClass", "()Ljava/lang/Class;"⟩ ∈ wsJ7_copyOf_1904c) (by decide +kernel : Cond.native ⟨"java/lang/Object", "getClass", "()Ljava/lang/Class;"⟩ ∈ wsJ7_copyOf_1904c) he (by decide) (Nat.le_of_ble_eq_true rfl) ?_
  refine r_callSq (nn := 3) (As := [.ref ed, .int (nI N), .ref (kMi E)]) (st := []) dJ7_copyOf_1904c_6 (tJ7_copyOf_6403c ed n N ci row hn hN hc hca he hel) gJ7_copyOf_1904c_J7_copyOf_6403c rfl (by decide +kernel) ⟨Nat.le_of_ble_eq_true rfl, Nat.le_of_ble_eq_true rfl⟩ ⟨rfl, rfl⟩ rfl (Nat.le_of_ble_eq_true rfl) ⟨Nat.le_of_ble_eq_true rfl, Nat.le_of_ble_eq_true rfl⟩ rfl (fun r hh hp => ?_)
  obtain ⟨q, hq, rfl, rfl⟩ := hp
  exact kret _ _ _ _ _ (some q) (Nat.le_refl _) (Nat.le_refl _) dJ7_copyOf_1904c_9 (⟨q, hq, rfl, rfl⟩)

