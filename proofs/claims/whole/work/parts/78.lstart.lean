/-! the law from its entry -/
set_option maxHeartbeats 4000000 in
set_option maxRecDepth 100000 in
theorem law_start {E : kE} {X : kX} {b L : Nat} {xs : Nat → Int32} (hX : kScr X b L xs) (hL : L ≤ 2048) (kend : ∀ (k n : Nat) (h : kH) (lo : List (Nat × Value)), k ≤ 601024 → n ≤ 7293034 → V E X room_1 cL_law 7 wsL_law RL k n h lo 1509 [.int 1]) : V E X room_1 cL_law 7 wsL_law RL 0 0 h00 [(0, .ref b)] 0 [] := by
  refine r_new (C := RX3) (T := TX3) (N := 15) (ci := 3) (fs := [.null, .null, .null, .null, .null, .null, .null, .null, .int 0, .int 0, .int 0, .int 0, .null, .null, .null]) dL_law_0 inlX3 tyX3 tyX3_ok (by decide +kernel : Cond.classLink RL 8 RX3 ∈ wsL_law) (by decide +kernel) (by decide +kernel) rfl (by decide +kernel) (Nat.le_of_ble_eq_true rfl) (Nat.le_of_ble_eq_true rfl) (fun q1 hq1 => ?_)
  refine r_dup dL_law_3 rfl ?_
  refine r_callIv (nn := 0) (As := []) (st := [.ref q1]) dL_law_4 (tX3_init q1 hq1) gL_law_X3_init (by decide +kernel) (by decide +kernel) (by decide +kernel) rfl rfl (by decide +kernel) ⟨Nat.le_of_ble_eq_true rfl, Nat.le_of_ble_eq_true rfl⟩ ⟨rfl, rfl⟩ rfl (Nat.le_of_ble_eq_true rfl) ⟨Nat.le_of_ble_eq_true rfl, Nat.le_of_ble_eq_true rfl⟩ rfl (fun hh hp => ?_)
  obtain ⟨a, rfl, hg, rfl⟩ := hp
  refine r_astore_n (lo' := [(1, .ref (a 15)), (0, .ref b)]) dL_law_7 (by decide) rfl ?_
  refine r_new (C := RX4) (T := TX4) (N := 29) (ci := 4) (fs := [.int 0, .int 0, .int 0, .int 0, .null, .int 0, .null, .null, .null, .null, .int 0, .null, .null, .null, .null, .int 0, .int 0, .null, .null, .null, .int 0, .null, .null, .null, .null, .null, .null, .null, .int 0]) dL_law_8 inlX4 tyX4 tyX4_ok (by decide +kernel : Cond.classLink RL 82 RX4 ∈ wsL_law) (by decide +kernel) (by decide +kernel) rfl (by decide +kernel) (Nat.le_of_ble_eq_true rfl) (Nat.le_of_ble_eq_true rfl) (fun q2 hq2 => ?_)
  refine r_dup dL_law_11 rfl ?_
  refine r_callIv (nn := 0) (As := []) (st := [.ref q2]) dL_law_12 (tX4_init q2 hq2) gL_law_X4_init (by decide +kernel) (by decide +kernel) (by decide +kernel) rfl rfl (by decide +kernel) ⟨Nat.le_of_ble_eq_true rfl, Nat.le_of_ble_eq_true rfl⟩ ⟨rfl, rfl⟩ rfl (Nat.le_of_ble_eq_true rfl) ⟨Nat.le_of_ble_eq_true rfl, Nat.le_of_ble_eq_true rfl⟩ rfl (fun hh hp => ?_)
  obtain ⟨bb, rfl, hb, hz, rfl⟩ := hp
  refine r_astore_n (lo' := [(2, .ref (bb 29)), (1, .ref (a 15)), (0, .ref b)]) dL_law_15 (by decide) rfl ?_
  refine r_iconst (v := 1) dL_law_16 (by decide) ?_
  refine r_newJ (N := 1) dL_law_17 (by decide +kernel) (by decide) (by decide) (by decide) (Nat.le_of_ble_eq_true rfl) (Nat.le_of_ble_eq_true rfl) (fun po hpo => ?_)
  refine r_astore_n (lo' := [(3, .ref po), (2, .ref (bb 29)), (1, .ref (a 15)), (0, .ref b)]) dL_law_19 (by decide) rfl ?_
  refine r_iconst (v := nI (4 * 0)) dL_law_20 (by decide) ?_
  refine r_istore (lo' := [(4, .int (nI (4 * 0))), (3, .ref po), (2, .ref (bb 29)), (1, .ref (a 15)), (0, .ref b)]) dL_law_21 (by decide) rfl ?_
  refine r_lo (lo' := [(0, .ref b), (1, .ref (a 15)), (2, .ref (bb 29)), (3, .ref po), (4, .int (nI (4 * 0)))]) [4, 3, 2, 1, 0] rfl ?_
  exact law_loop hX hL kend L 0 _ _ _ (by omega) (by omega) (Nat.le_of_ble_eq_true rfl) (Nat.le_of_ble_eq_true rfl) (LS_0 hb hz hg hpo dR_start)
