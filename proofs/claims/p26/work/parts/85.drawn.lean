/-! drawn: a number out of the script -/
theorem and_nn (v : Int32) : ∃ c, c < 2 ^ 31 ∧ v &&& nI 2147483647 = nI c := by
  have hlt : bX v &&& 2147483647 < 2 ^ 31 := Nat.lt_of_le_of_lt Nat.and_le_right (by decide)
  refine ⟨bX v &&& 2147483647, hlt, bX_inj ?_⟩
  rw [bX_and, bX_nI (n := 2147483647) (by omega), bX_nI (n := bX v &&& 2147483647) (by omega)]
abbrev rmL_drawn : Room := { frames := 0, cells := 0, slots := 0, locals := 0 }
set_option maxHeartbeats 4000000 in
set_option maxRecDepth 100000 in
theorem tK_drawn {E : kE} {h : kH} {b L : Nat} {xs : Nat → Int32} (kk : Nat) (hk : kk < 2 ^ 31) (hL : L < 2 ^ 31) : kCiS E yL_drawn wsL_drawn rmL_drawn 0 0 [.ref b, .int (nI kk)] h b L xs (fun r h' => (∃ c, c < 2 ^ 31 ∧ r = nI c) ∧ h' = h) := by
  refine kCiS_of (rt := .int) (own := RL) (cc := cL_drawn) (maxL := 2) (by decide) rfl rfl (Nat.le_of_ble_eq_true rfl) ?_
  intro X hX kret
  refine r_lo (lo' := [(0, .ref b), (1, .int (nI kk))]) [0, 1] rfl ?_
  refine r_iload_n dL_drawn_0 1 rfl ?_
  refine r_aload_n dL_drawn_1 0 rfl ?_
  refine r_slen hX dL_drawn_2 ?_
  have J : ∀ v : Int32, V E X rmL_drawn cL_drawn 2 wsL_drawn RL 0 0 h [(0, .ref b), (1, .int (nI kk))] 22 [.int v] := fun v => by
    refine r_ldc (v := nI 2147483647) dL_drawn_22 (by decide +kernel) ?_
    refine r_iand dL_drawn_24 ?_
    obtain ⟨c, hc, e⟩ := and_nn v
    rw [e]
    exact kret _ _ _ _ _ _ (Nat.le_refl _) (Nat.le_refl _) dL_drawn_25 rfl ⟨⟨c, hc, rfl⟩, rfl⟩
  refine rn_icmp_ge (a := kk) (c := L) (tgt := 12) dL_drawn_3 (by decide) rfl rfl hk hL (fun _ => ?_) (fun c => ?_)
  · refine r_ldc (v := nI 15526801) dL_drawn_12 (by decide +kernel) ?_
    refine r_iload_n dL_drawn_14 1 rfl ?_
    refine r_iconst (v := nI 3) dL_drawn_15 (by decide) ?_
    refine r_iadd dL_drawn_16 ?_
    refine r_imul dL_drawn_17 ?_
    refine r_sipush (v := nI 14821) dL_drawn_18 (by decide) ?_
    refine r_iadd dL_drawn_21 ?_
    exact J _
  · refine r_aload_n dL_drawn_6 0 rfl ?_
    refine r_iload_n dL_drawn_7 1 rfl ?_
    refine r_sld hX dL_drawn_8 (vp_in_nI c hL) ?_
    refine r_goto (tgt := 22) dL_drawn_9 (by decide) ?_
    exact J _
