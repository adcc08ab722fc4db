/-! the law's loop -/
theorem le4 {j L : Nat} (hj : 4 * j ≤ 2048) (hL : L ≤ 2048) : (nI L - 4 < nI (4 * j)) ↔ L < 4 * j + 4 := by
  rw [show (4 : Int32) = nI 4 from by decide]
  rcases Nat.lt_or_ge L 4 with c | c
  · refine ⟨fun _ => by omega, fun _ => ?_⟩
    have h1 : nI L - nI 4 < 0 := by
      rcases (show L = 0 ∨ L = 1 ∨ L = 2 ∨ L = 3 by omega) with rfl | rfl | rfl | rfl <;> decide
    rw [kI_lt] at h1 ⊢
    rw [nI_toInt (by omega)]
    rw [show (0 : Int32).toInt = 0 from rfl] at h1
    omega
  · obtain ⟨d, rfl⟩ : ∃ d, L = d + 4 := ⟨L - 4, by omega⟩
    rw [← nI_add, Int32.add_sub_cancel, nI_ltI (by omega) (by omega)]
    omega
theorem and31 (v : Int32) : ∃ c, c < 32 ∧ v &&& 31 = nI c := by
  have hlt : bX v &&& 31 < 32 := Nat.lt_of_le_of_lt Nat.and_le_right (by decide)
  refine ⟨bX v &&& 31, hlt, bX_inj ?_⟩
  rw [bX_and, bX_nI (by omega)]
  rfl
set_option maxHeartbeats 4000000 in
set_option maxRecDepth 100000 in
theorem law_step {E : kE} {X : kX} {b L : Nat} {xs : Nat → Int32} {q1 q2 po j k n : Nat} {h : kH} (hX : kScr X b L xs) (hj : 4 * j ≤ 2048) (hL : L ≤ 2048) (hS : kLS E q1 q2 po h) (hk : k + 12 ≤ 601024) (hn : n + 500 ≤ 7293034) (kend : L < 4 * j + 4 → V E X room_1 cL_law 7 wsL_law RL k n h [(0, .ref b), (1, .ref q1), (2, .ref q2), (3, .ref po), (4, .int (nI (4 * j)))] 1508 []) (kk : ∀ h', 4 * j + 4 ≤ L → kLS E q1 q2 po h' → V E X room_1 cL_law 7 wsL_law RL (k + 12) (n + 500) h' [(0, .ref b), (1, .ref q1), (2, .ref q2), (3, .ref po), (4, .int (nI (4 * (j + 1))))] 23 []) : V E X room_1 cL_law 7 wsL_law RL k n h [(0, .ref b), (1, .ref q1), (2, .ref q2), (3, .ref po), (4, .int (nI (4 * j)))] 23 [] := by
  refine r_iload dL_law_23 4 rfl ?_
  refine r_aload_n dL_law_25 0 rfl ?_
  refine r_slen hX dL_law_26 ?_
  refine r_iconst (v := 4) dL_law_27 (by decide) ?_
  refine r_isub dL_law_28 ?_
  refine r_icmp_gt (tgt := 1508) dL_law_29 (by decide) (fun c => kend ((le4 hj hL).mp c)) (fun c => ?_)
  have hj4 : 4 * j + 4 ≤ L := Nat.not_lt.mp (fun q => c ((le4 hj hL).mpr q))
  refine r_aload_n dL_law_32 0 rfl ?_
  refine r_iload dL_law_33 4 rfl ?_
  refine r_sld hX dL_law_35 (vp_in_nI (by omega) (by omega)) ?_
  refine r_bipush (v := 31) dL_law_36 (by decide) ?_
  refine r_iand dL_law_38 ?_
  have back : ∀ h', kLS E q1 q2 po h' → V E X room_1 cL_law 7 wsL_law RL (k + 12) (n + 500) h' [(0, .ref b), (1, .ref q1), (2, .ref q2), (3, .ref po), (4, .int (nI (4 * j)))] 1502 [] := fun h' hS' => by
    refine r_iinc (v := nI (4 * (j + 1))) (lo' := [(4, .int (nI (4 * (j + 1)))), (0, .ref b), (1, .ref q1), (2, .ref q2), (3, .ref po)]) dL_law_1502 4 rfl (by rw [show Int32.ofInt 4 = nI 4 from by decide, nI_add]; rfl) (by decide) rfl ?_
    refine r_goto (tgt := 23) dL_law_1505 (by decide) ?_
    refine r_lo (lo' := [(0, .ref b), (1, .ref q1), (2, .ref q2), (3, .ref po), (4, .int (nI (4 * (j + 1))))]) [1, 2, 3, 4, 0] rfl ?_
    exact kk h' hj4 hS'
  obtain ⟨c, hc, e⟩ := and31 (xs (nI (4 * j)).toNatClampNeg)
  rw [e]
  match c, hc with
  | 0, _ =>
    refine r_tableIn (tgt := 144) (off := 105) dL_law_39 (by decide) (by decide) (by decide) (by decide) ?_
    exact cs_rank hX hj4 hL hS hk hn back
  | 1, _ =>
    refine r_tableIn (tgt := 212) (off := 173) dL_law_39 (by decide) (by decide) (by decide) (by decide) ?_
    exact cs_fight hX hj4 hL hS hk hn back
  | 2, _ =>
    refine r_tableIn (tgt := 280) (off := 241) dL_law_39 (by decide) (by decide) (by decide) (by decide) ?_
    exact cs_end hX hj4 hL hS hk hn back
  | 3, _ =>
    refine r_tableIn (tgt := 336) (off := 297) dL_law_39 (by decide) (by decide) (by decide) (by decide) ?_
    exact cs_replay hX hj4 hL hS hk hn back
  | 4, _ =>
    refine r_tableIn (tgt := 392) (off := 353) dL_law_39 (by decide) (by decide) (by decide) (by decide) ?_
    exact cs_camera hX hj4 hL hS hk hn back
  | 5, _ =>
    refine r_tableIn (tgt := 460) (off := 421) dL_law_39 (by decide) (by decide) (by decide) (by decide) ?_
    exact cs_delay hX hj4 hL hS hk hn back
  | 6, _ =>
    refine r_tableIn (tgt := 516) (off := 477) dL_law_39 (by decide) (by decide) (by decide) (by decide) ?_
    exact cs_pass hX hj4 hL hS hk hn back
  | 7, _ =>
    refine r_tableIn (tgt := 572) (off := 533) dL_law_39 (by decide) (by decide) (by decide) (by decide) ?_
    exact cs_blow hX hj4 hL hS hk hn back
  | 8, _ =>
    refine r_tableIn (tgt := 652) (off := 613) dL_law_39 (by decide) (by decide) (by decide) (by decide) ?_
    exact cs_strike hX hj4 hL hS hk hn back
  | 9, _ =>
    refine r_tableIn (tgt := 708) (off := 669) dL_law_39 (by decide) (by decide) (by decide) (by decide) ?_
    exact cs_mend hX hj4 hL hS hk hn back
  | 10, _ =>
    refine r_tableIn (tgt := 776) (off := 737) dL_law_39 (by decide) (by decide) (by decide) (by decide) ?_
    exact cs_promise hX hj4 hL hS hk hn back
  | 11, _ =>
    refine r_tableIn (tgt := 844) (off := 805) dL_law_39 (by decide) (by decide) (by decide) (by decide) ?_
    exact cs_slot hX hj4 hL hS hk hn back
  | 12, _ =>
    refine r_tableIn (tgt := 912) (off := 873) dL_law_39 (by decide) (by decide) (by decide) (by decide) ?_
    exact cs_frame hX hj4 hL hS hk hn back
  | 13, _ =>
    refine r_tableIn (tgt := 925) (off := 886) dL_law_39 (by decide) (by decide) (by decide) (by decide) ?_
    exact cs_shown hX hj4 hL hS hk hn back
  | 14, _ =>
    refine r_tableIn (tgt := 993) (off := 954) dL_law_39 (by decide) (by decide) (by decide) (by decide) ?_
    exact cs_seen hX hj4 hL hS hk hn back
  | 15, _ =>
    refine r_tableIn (tgt := 1006) (off := 967) dL_law_39 (by decide) (by decide) (by decide) (by decide) ?_
    exact cs_points hX hj4 hL hS hk hn back
  | 16, _ =>
    refine r_tableIn (tgt := 1074) (off := 1035) dL_law_39 (by decide) (by decide) (by decide) (by decide) ?_
    exact cs_overlay hX hj4 hL hS hk hn back
  | 17, _ =>
    refine r_tableIn (tgt := 1142) (off := 1103) dL_law_39 (by decide) (by decide) (by decide) (by decide) ?_
    exact cs_fightOf hX hj4 hL hS hk hn back
  | 18, _ =>
    refine r_tableIn (tgt := 1210) (off := 1171) dL_law_39 (by decide) (by decide) (by decide) (by decide) ?_
    exact cs_cameraOf hX hj4 hL hS hk hn back
  | 19, _ =>
    refine r_tableIn (tgt := 1278) (off := 1239) dL_law_39 (by decide) (by decide) (by decide) (by decide) ?_
    exact cs_counted hX hj4 hL hS hk hn back
  | 20, _ =>
    refine r_tableIn (tgt := 1334) (off := 1295) dL_law_39 (by decide) (by decide) (by decide) (by decide) ?_
    exact cs_countedAnew hX hj4 hL hS hk hn back
  | 21, _ =>
    refine r_tableIn (tgt := 1390) (off := 1351) dL_law_39 (by decide) (by decide) (by decide) (by decide) ?_
    exact cs_owed hX hj4 hL hS hk hn back
  | 22, _ =>
    refine r_tableIn (tgt := 1446) (off := 1407) dL_law_39 (by decide) (by decide) (by decide) (by decide) ?_
    exact cs_leader hX hj4 hL hS hk hn back
  | c + 23, hc =>
    refine r_tableOut (tgt := 1502) dL_law_39 (Or.inr ?_) (by decide) ?_
    · rw [nI_toInt (by omega)]; omega
    · exact r_wid (k' := k + 12) (n' := n + 500) (Nat.le_add_right _ _) (Nat.le_add_right _ _) (back h hS)
set_option maxHeartbeats 4000000 in
set_option maxRecDepth 100000 in
theorem law_loop {E : kE} {X : kX} {b L : Nat} {xs : Nat → Int32} {q1 q2 po : Nat} (hX : kScr X b L xs) (hL : L ≤ 2048) (kend : ∀ (k n : Nat) (h : kH) (lo : List (Nat × Value)), k ≤ 601024 → n ≤ 7293034 → V E X room_1 cL_law 7 wsL_law RL k n h lo 1509 [.int 1]) : ∀ (N j k n : Nat) (h : kH), L < 4 * j + 4 * N + 4 → 4 * j ≤ L → k ≤ 100 + 12 * j → n ≤ 20000 + 500 * j → kLS E q1 q2 po h → V E X room_1 cL_law 7 wsL_law RL k n h [(0, .ref b), (1, .ref q1), (2, .ref q2), (3, .ref po), (4, .int (nI (4 * j)))] 23 []
  | 0, j, k, n, h, hN, hj, hk, hn, hS => by
    refine law_step hX (by omega) hL hS (by omega) (by omega) (fun _ => ?_) (fun h' h4 hS' => absurd h4 (by omega))
    refine r_iconst (v := 1) dL_law_1508 (by decide) ?_
    exact kend _ _ _ _ (by omega) (by omega)
  | N + 1, j, k, n, h, hN, hj, hk, hn, hS => by
    refine law_step hX (by omega) hL hS (by omega) (by omega) (fun _ => ?_) (fun h' h4 hS' => ?_)
    · refine r_iconst (v := 1) dL_law_1508 (by decide) ?_
      exact kend _ _ _ _ (by omega) (by omega)
    · exact law_loop hX hL kend N (j + 1) (k + 12) (n + 500) h' (by omega) (by omega) (by omega) (by omega) hS'
