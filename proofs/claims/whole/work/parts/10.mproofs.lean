abbrev rmX4_in : Room := { frames := 0, cells := 0, slots := 0, locals := 0 }
set_option maxHeartbeats 4000000 in
set_option maxRecDepth 100000 in
theorem tX4_in {E : kE} (h : kH) (v a c : Int32) : kCi E yX4_in wsX4_in rmX4_in 0 0 [.int v, .int a, .int c] h (fun r h' => kR2 r (inr v a c) ∧ h' = h) := by
  refine kCi_of (rt := .boolean) (own := RX4) (cc := cX4_in) (maxL := 3) (by decide) rfl rfl (Nat.le_of_ble_eq_true rfl) ?_
  intro X _ kret
  refine r_lo (lo' := [(0, .int v), (1, .int a), (2, .int c)]) [0, 1, 2] rfl ?_
  refine r_iload_n dX4_in_0 0 rfl ?_
  refine r_iload_n dX4_in_1 1 rfl ?_
  refine r_icmp_lt (tgt := 14) dX4_in_2 (by decide) (fun c1 => ?_) (fun c1 => ?_)
  · skip
    refine r_iconst (v := 0) dX4_in_14 (by decide) ?_
    exact kret _ _ _ _ _ _ (Nat.le_refl _) (Nat.le_refl _) dX4_in_15 rfl (⟨Or.inr ⟨inr_f1 c1, rfl⟩, rfl⟩)
  · skip
    refine r_iload_n dX4_in_5 0 rfl ?_
    refine r_iload_n dX4_in_6 2 rfl ?_
    refine r_icmp_gt (tgt := 14) dX4_in_7 (by decide) (fun c2 => ?_) (fun c2 => ?_)
    · skip
      refine r_iconst (v := 0) dX4_in_14 (by decide) ?_
      exact kret _ _ _ _ _ _ (Nat.le_refl _) (Nat.le_refl _) dX4_in_15 rfl (⟨Or.inr ⟨inr_f2 c2, rfl⟩, rfl⟩)
    · skip
      refine r_iconst (v := 1) dX4_in_10 (by decide) ?_
      refine r_goto (tgt := 15) dX4_in_11 (by decide) ?_
      exact kret _ _ _ _ _ _ (Nat.le_refl _) (Nat.le_refl _) dX4_in_15 rfl (⟨Or.inl ⟨inr_t c1 c2, rfl⟩, rfl⟩)

abbrev rmX4_thrown : Room := { frames := 0, cells := 0, slots := 0, locals := 0 }
theorem hinX4_thrown : ∀ w ∈ u_ws RX4 TX4 29, w ∈ wsX4_thrown := by decide +kernel
theorem fwX4_thrown_81 : Cond.fieldLink RX4 81 "CastdeskModel" "thrown" "I" ∈ wsX4_thrown := by decide +kernel
set_option maxHeartbeats 4000000 in
set_option maxRecDepth 100000 in
theorem tX4_thrown {E : kE} {b : Nat → Nat} (hb : binj b) (st : kM) (h0 : kH)  : kCi E yX4_thrown wsX4_thrown rmX4_thrown 0 0 [.ref (b 29)] (ov E b st h0) (fun r h' => r = st 0 0 ∧ h' = ov E b st h0) := by
  refine kCi_of (rt := .int) (own := RX4) (cc := cX4_thrown) (maxL := 1) (by decide) rfl rfl (Nat.le_of_ble_eq_true rfl) ?_
  intro X _ kret
  refine r_lo (lo' := [(0, .ref (b 29))]) [0] rfl ?_
  refine r_aload_n dX4_thrown_0 0 rfl ?_
  refine m_geti (v := st 0 0) hb hinX4_thrown 0 (by decide) rfl dX4_thrown_1 fwX4_thrown_81 rfl rfl ?_
  exact kret _ _ _ _ _ _ (Nat.le_refl _) (Nat.le_refl _) dX4_thrown_4 rfl (⟨rfl, rfl⟩)

abbrev rmX4_refused : Room := { frames := 0, cells := 0, slots := 0, locals := 0 }
theorem hinX4_refused : ∀ w ∈ u_ws RX4 TX4 29, w ∈ wsX4_refused := by decide +kernel
theorem fwX4_refused_81 : Cond.fieldLink RX4 81 "CastdeskModel" "thrown" "I" ∈ wsX4_refused := by decide +kernel
set_option maxHeartbeats 4000000 in
set_option maxRecDepth 100000 in
theorem tX4_refused {E : kE} {b : Nat → Nat} (hb : binj b) (st : kM) (h0 : kH) (w : Int32) : kCi E yX4_refused wsX4_refused rmX4_refused 0 0 [.ref (b 29), .int w] (ov E b st h0) (fun r h' => r = (if w = 0 then 0 else 1) ∧ h' = ov E b (ms st 0 w) h0) := by
  refine kCi_of (rt := .boolean) (own := RX4) (cc := cX4_refused) (maxL := 2) (by decide) rfl rfl (Nat.le_of_ble_eq_true rfl) ?_
  intro X _ kret
  refine r_lo (lo' := [(0, .ref (b 29)), (1, .int w)]) [0, 1] rfl ?_
  refine r_aload_n dX4_refused_0 0 rfl ?_
  refine r_iload_n dX4_refused_1 1 rfl ?_
  refine m_puti hb hinX4_refused 0 (by decide) rfl dX4_refused_2 fwX4_refused_81 rfl rfl rfl ?_
  refine r_iload_n dX4_refused_5 1 rfl ?_
  refine r_if_eq (tgt := 13) dX4_refused_6 (by decide) (fun c1 => ?_) (fun c1 => ?_)
  · skip
    refine r_iconst (v := 0) dX4_refused_13 (by decide) ?_
    exact kret _ _ _ _ _ _ (Nat.le_refl _) (Nat.le_refl _) dX4_refused_14 rfl (⟨(by simp [c1]), rfl⟩)
  · skip
    refine r_iconst (v := 1) dX4_refused_9 (by decide) ?_
    refine r_goto (tgt := 14) dX4_refused_10 (by decide) ?_
    exact kret _ _ _ _ _ _ (Nat.le_refl _) (Nat.le_refl _) dX4_refused_14 rfl (⟨(by simp [c1]), rfl⟩)

abbrev rmX4_isPlayer : Room := { frames := 1, cells := 0, slots := 0, locals := 22 }
set_option maxHeartbeats 4000000 in
set_option maxRecDepth 100000 in
theorem tX4_isPlayer {E : kE} (h : kH) (x : Int32) : kCi E yX4_isPlayer wsX4_isPlayer rmX4_isPlayer 0 0 [.int x] h (fun r h' => kR2 r (inr x 0 9) ∧ h' = h) := by
  refine kCi_of (rt := .boolean) (own := RX4) (cc := cX4_isPlayer) (maxL := 1) (by decide) rfl rfl (Nat.le_of_ble_eq_true rfl) ?_
  intro X _ kret
  refine r_lo (lo' := [(0, .int x)]) [0] rfl ?_
  refine r_iload_n dX4_isPlayer_0 0 rfl ?_
  refine r_iconst (v := 0) dX4_isPlayer_1 (by decide) ?_
  refine r_bipush (v := 9) dX4_isPlayer_2 (by decide) ?_
  refine r_callSi (nn := 3) (As := [.int x, .int 0, .int 9]) (st := []) dX4_isPlayer_4 (tX4_in h x 0 9) gX4_isPlayer_X4_in rfl (by decide +kernel) ⟨Nat.le_of_ble_eq_true rfl, Nat.le_of_ble_eq_true rfl⟩ ⟨rfl, rfl⟩ rfl (Nat.le_of_ble_eq_true rfl) ⟨Nat.le_of_ble_eq_true rfl, Nat.le_of_ble_eq_true rfl⟩ rfl (fun r hh hp => ?_)
  obtain ⟨⟨q1, rfl⟩ | ⟨q1, rfl⟩, rfl⟩ := hp
  · skip
    exact kret _ _ _ _ _ _ (Nat.le_refl _) (Nat.le_refl _) dX4_isPlayer_7 rfl (⟨Or.inl ⟨q1, rfl⟩, rfl⟩)
  · skip
    exact kret _ _ _ _ _ _ (Nat.le_refl _) (Nat.le_refl _) dX4_isPlayer_7 rfl (⟨Or.inr ⟨q1, rfl⟩, rfl⟩)

abbrev rmX4_isSponsor : Room := { frames := 1, cells := 0, slots := 0, locals := 22 }
set_option maxHeartbeats 4000000 in
set_option maxRecDepth 100000 in
theorem tX4_isSponsor {E : kE} (h : kH) (x : Int32) : kCi E yX4_isSponsor wsX4_isSponsor rmX4_isSponsor 0 0 [.int x] h (fun r h' => kR2 r (inr x 0 5) ∧ h' = h) := by
  refine kCi_of (rt := .boolean) (own := RX4) (cc := cX4_isSponsor) (maxL := 1) (by decide) rfl rfl (Nat.le_of_ble_eq_true rfl) ?_
  intro X _ kret
  refine r_lo (lo' := [(0, .int x)]) [0] rfl ?_
  refine r_iload_n dX4_isSponsor_0 0 rfl ?_
  refine r_iconst (v := 0) dX4_isSponsor_1 (by decide) ?_
  refine r_iconst (v := 5) dX4_isSponsor_2 (by decide) ?_
  refine r_callSi (nn := 3) (As := [.int x, .int 0, .int 5]) (st := []) dX4_isSponsor_3 (tX4_in h x 0 5) gX4_isSponsor_X4_in rfl (by decide +kernel) ⟨Nat.le_of_ble_eq_true rfl, Nat.le_of_ble_eq_true rfl⟩ ⟨rfl, rfl⟩ rfl (Nat.le_of_ble_eq_true rfl) ⟨Nat.le_of_ble_eq_true rfl, Nat.le_of_ble_eq_true rfl⟩ rfl (fun r hh hp => ?_)
  obtain ⟨⟨q1, rfl⟩ | ⟨q1, rfl⟩, rfl⟩ := hp
  · skip
    exact kret _ _ _ _ _ _ (Nat.le_refl _) (Nat.le_refl _) dX4_isSponsor_6 rfl (⟨Or.inl ⟨q1, rfl⟩, rfl⟩)
  · skip
    exact kret _ _ _ _ _ _ (Nat.le_refl _) (Nat.le_refl _) dX4_isSponsor_6 rfl (⟨Or.inr ⟨q1, rfl⟩, rfl⟩)

abbrev rmX4_isFight : Room := { frames := 1, cells := 0, slots := 0, locals := 22 }
theorem hinX4_isFight : ∀ w ∈ u_ws RX4 TX4 29, w ∈ wsX4_isFight := by decide +kernel
theorem fwX4_isFight_88 : Cond.fieldLink RX4 88 "CastdeskModel" "fights" "I" ∈ wsX4_isFight := by decide +kernel
set_option maxHeartbeats 4000000 in
set_option maxRecDepth 100000 in
theorem tX4_isFight {E : kE} {b : Nat → Nat} (hb : binj b) (st : kM) (h0 : kH) (x : Int32) : kCi E yX4_isFight wsX4_isFight rmX4_isFight 0 0 [.ref (b 29), .int x] (ov E b st h0) (fun r h' => kR2 r (inr x 0 (st 5 0 - 1)) ∧ h' = ov E b st h0) := by
  refine kCi_of (rt := .boolean) (own := RX4) (cc := cX4_isFight) (maxL := 2) (by decide) rfl rfl (Nat.le_of_ble_eq_true rfl) ?_
  intro X _ kret
  refine r_lo (lo' := [(0, .ref (b 29)), (1, .int x)]) [0, 1] rfl ?_
  refine r_iload_n dX4_isFight_0 1 rfl ?_
  refine r_iconst (v := 0) dX4_isFight_1 (by decide) ?_
  refine r_aload_n dX4_isFight_2 0 rfl ?_
  refine m_geti (v := st 5 0) hb hinX4_isFight 5 (by decide) rfl dX4_isFight_3 fwX4_isFight_88 rfl rfl ?_
  refine r_iconst (v := 1) dX4_isFight_6 (by decide) ?_
  refine r_isub dX4_isFight_7 ?_
  refine r_callSi (nn := 3) (As := [.int x, .int 0, .int ((st 5 0) - 1)]) (st := []) dX4_isFight_8 (tX4_in (ov E b st h0) x 0 ((st 5 0) - 1)) gX4_isFight_X4_in rfl (by decide +kernel) ⟨Nat.le_of_ble_eq_true rfl, Nat.le_of_ble_eq_true rfl⟩ ⟨rfl, rfl⟩ rfl (Nat.le_of_ble_eq_true rfl) ⟨Nat.le_of_ble_eq_true rfl, Nat.le_of_ble_eq_true rfl⟩ rfl (fun r hh hp => ?_)
  obtain ⟨⟨q1, rfl⟩ | ⟨q1, rfl⟩, rfl⟩ := hp
  · skip
    exact kret _ _ _ _ _ _ (Nat.le_refl _) (Nat.le_refl _) dX4_isFight_11 rfl (⟨Or.inl ⟨q1, rfl⟩, rfl⟩)
  · skip
    exact kret _ _ _ _ _ _ (Nat.le_refl _) (Nat.le_refl _) dX4_isFight_11 rfl (⟨Or.inr ⟨q1, rfl⟩, rfl⟩)

abbrev rmX4_isEntry : Room := { frames := 1, cells := 0, slots := 0, locals := 22 }
theorem hinX4_isEntry : ∀ w ∈ u_ws RX4 TX4 29, w ∈ wsX4_isEntry := by decide +kernel
theorem fwX4_isEntry_112 : Cond.fieldLink RX4 112 "CastdeskModel" "entries" "I" ∈ wsX4_isEntry := by decide +kernel
set_option maxHeartbeats 4000000 in
set_option maxRecDepth 100000 in
theorem tX4_isEntry {E : kE} {b : Nat → Nat} (hb : binj b) (st : kM) (h0 : kH) (x : Int32) : kCi E yX4_isEntry wsX4_isEntry rmX4_isEntry 0 0 [.ref (b 29), .int x] (ov E b st h0) (fun r h' => kR2 r (inr x 0 (st 20 0 - 1)) ∧ h' = ov E b st h0) := by
  refine kCi_of (rt := .boolean) (own := RX4) (cc := cX4_isEntry) (maxL := 2) (by decide) rfl rfl (Nat.le_of_ble_eq_true rfl) ?_
  intro X _ kret
  refine r_lo (lo' := [(0, .ref (b 29)), (1, .int x)]) [0, 1] rfl ?_
  refine r_iload_n dX4_isEntry_0 1 rfl ?_
  refine r_iconst (v := 0) dX4_isEntry_1 (by decide) ?_
  refine r_aload_n dX4_isEntry_2 0 rfl ?_
  refine m_geti (v := st 20 0) hb hinX4_isEntry 20 (by decide) rfl dX4_isEntry_3 fwX4_isEntry_112 rfl rfl ?_
  refine r_iconst (v := 1) dX4_isEntry_6 (by decide) ?_
  refine r_isub dX4_isEntry_7 ?_
  refine r_callSi (nn := 3) (As := [.int x, .int 0, .int ((st 20 0) - 1)]) (st := []) dX4_isEntry_8 (tX4_in (ov E b st h0) x 0 ((st 20 0) - 1)) gX4_isEntry_X4_in rfl (by decide +kernel) ⟨Nat.le_of_ble_eq_true rfl, Nat.le_of_ble_eq_true rfl⟩ ⟨rfl, rfl⟩ rfl (Nat.le_of_ble_eq_true rfl) ⟨Nat.le_of_ble_eq_true rfl, Nat.le_of_ble_eq_true rfl⟩ rfl (fun r hh hp => ?_)
  obtain ⟨⟨q1, rfl⟩ | ⟨q1, rfl⟩, rfl⟩ := hp
  · skip
    exact kret _ _ _ _ _ _ (Nat.le_refl _) (Nat.le_refl _) dX4_isEntry_11 rfl (⟨Or.inl ⟨q1, rfl⟩, rfl⟩)
  · skip
    exact kret _ _ _ _ _ _ (Nat.le_refl _) (Nat.le_refl _) dX4_isEntry_11 rfl (⟨Or.inr ⟨q1, rfl⟩, rfl⟩)

abbrev rmX4_frame : Room := { frames := 0, cells := 0, slots := 0, locals := 0 }
theorem hinX4_frame : ∀ w ∈ u_ws RX4 TX4 29, w ∈ wsX4_frame := by decide +kernel
theorem fwX4_frame_81 : Cond.fieldLink RX4 81 "CastdeskModel" "thrown" "I" ∈ wsX4_frame := by decide +kernel
theorem fwX4_frame_115 : Cond.fieldLink RX4 115 "CastdeskModel" "now" "I" ∈ wsX4_frame := by decide +kernel
set_option maxHeartbeats 4000000 in
set_option maxRecDepth 100000 in
theorem tX4_frame {E : kE} {b : Nat → Nat} (hb : binj b) (st : kM) (h0 : kH)  : kCi E yX4_frame wsX4_frame rmX4_frame 0 0 [.ref (b 29)] (ov E b st h0) (fun r h' => r = st 1 0 ∧ h' = ov E b (ms st 0 0) h0) := by
  refine kCi_of (rt := .int) (own := RX4) (cc := cX4_frame) (maxL := 1) (by decide) rfl rfl (Nat.le_of_ble_eq_true rfl) ?_
  intro X _ kret
  refine r_lo (lo' := [(0, .ref (b 29))]) [0] rfl ?_
  refine r_aload_n dX4_frame_0 0 rfl ?_
  refine r_iconst (v := 0) dX4_frame_1 (by decide) ?_
  refine m_puti hb hinX4_frame 0 (by decide) rfl dX4_frame_2 fwX4_frame_81 rfl rfl rfl ?_
  refine r_aload_n dX4_frame_5 0 rfl ?_
  refine m_geti (v := st 1 0) hb hinX4_frame 1 (by decide) rfl dX4_frame_6 fwX4_frame_115 rfl rfl ?_
  exact kret _ _ _ _ _ _ (Nat.le_refl _) (Nat.le_refl _) dX4_frame_9 rfl (⟨rfl, rfl⟩)

abbrev rmX4_seen : Room := { frames := 0, cells := 0, slots := 0, locals := 0 }
theorem hinX4_seen : ∀ w ∈ u_ws RX4 TX4 29, w ∈ wsX4_seen := by decide +kernel
theorem fwX4_seen_13 : Cond.fieldLink RX4 13 "CastdeskModel" "seen" "I" ∈ wsX4_seen := by decide +kernel
theorem fwX4_seen_81 : Cond.fieldLink RX4 81 "CastdeskModel" "thrown" "I" ∈ wsX4_seen := by decide +kernel
set_option maxHeartbeats 4000000 in
set_option maxRecDepth 100000 in
theorem tX4_seen {E : kE} {b : Nat → Nat} (hb : binj b) (st : kM) (h0 : kH)  : kCi E yX4_seen wsX4_seen rmX4_seen 0 0 [.ref (b 29)] (ov E b st h0) (fun r h' => r = st 3 0 ∧ h' = ov E b (ms st 0 0) h0) := by
  refine kCi_of (rt := .int) (own := RX4) (cc := cX4_seen) (maxL := 1) (by decide) rfl rfl (Nat.le_of_ble_eq_true rfl) ?_
  intro X _ kret
  refine r_lo (lo' := [(0, .ref (b 29))]) [0] rfl ?_
  refine r_aload_n dX4_seen_0 0 rfl ?_
  refine r_iconst (v := 0) dX4_seen_1 (by decide) ?_
  refine m_puti hb hinX4_seen 0 (by decide) rfl dX4_seen_2 fwX4_seen_81 rfl rfl rfl ?_
  refine r_aload_n dX4_seen_5 0 rfl ?_
  refine m_geti (v := st 3 0) hb hinX4_seen 3 (by decide) rfl dX4_seen_6 fwX4_seen_13 rfl rfl ?_
  exact kret _ _ _ _ _ _ (Nat.le_refl _) (Nat.le_refl _) dX4_seen_9 rfl (⟨rfl, rfl⟩)

abbrev rmX4_rank : Room := { frames := 2, cells := 0, slots := 0, locals := 42 }
theorem hinX4_rank : ∀ w ∈ u_ws RX4 TX4 29, w ∈ wsX4_rank := by decide +kernel
theorem fwX4_rank_16 : Cond.fieldLink RX4 16 "CastdeskModel" "ranks" "[I" ∈ wsX4_rank := by decide +kernel
set_option maxHeartbeats 4000000 in
set_option maxRecDepth 100000 in
theorem tX4_rank {E : kE} {b : Nat → Nat} (hb : binj b) (st : kM) (h0 : kH) (x y : Int32) : kCi E yX4_rank wsX4_rank rmX4_rank 0 0 [.ref (b 29), .int x, .int y] (ov E b st h0) (fun r h' => r = (mrank st x y).1 ∧ h' = ov E b (mrank st x y).2 h0) := by
  refine kCi_of (rt := .int) (own := RX4) (cc := cX4_rank) (maxL := 4) (by decide) rfl rfl (Nat.le_of_ble_eq_true rfl) ?_
  intro X _ kret
  refine r_lo (lo' := [(0, .ref (b 29)), (1, .int x), (2, .int y)]) [0, 1, 2] rfl ?_
  refine r_aload_n dX4_rank_0 0 rfl ?_
  refine r_iload_n dX4_rank_1 1 rfl ?_
  refine r_callSi (nn := 1) (As := [.int x]) (st := [.ref (b 29)]) dX4_rank_2 (tX4_isPlayer _ x) gX4_rank_X4_isPlayer rfl (by decide +kernel) ⟨Nat.le_of_ble_eq_true rfl, Nat.le_of_ble_eq_true rfl⟩ ⟨rfl, rfl⟩ rfl (Nat.le_of_ble_eq_true rfl) ⟨Nat.le_of_ble_eq_true rfl, Nat.le_of_ble_eq_true rfl⟩ rfl (fun r hh hp => ?_)
  obtain ⟨⟨q1, rfl⟩ | ⟨q1, rfl⟩, rfl⟩ := hp
  · skip
    obtain ⟨o, ho, rfl⟩ := inr_nat (m := 9) (by decide) q1
    have eo : (nI o).toNatClampNeg = o := nI_clamp (by omega)
    refine r_if_ne (tgt := 12) dX4_rank_5 (by decide) (fun _ => ?_) (fun z => absurd z (by decide))
    refine r_iload_n dX4_rank_12 2 rfl ?_
    refine r_iconst (v := 0) dX4_rank_13 (by decide) ?_
    refine r_bipush (v := 99) dX4_rank_14 (by decide) ?_
    refine r_callSi (nn := 3) (As := [.int y, .int 0, .int 99]) (st := [.ref (b 29)]) dX4_rank_16 (tX4_in _ y 0 99) gX4_rank_X4_in rfl (by decide +kernel) ⟨Nat.le_of_ble_eq_true rfl, Nat.le_of_ble_eq_true rfl⟩ ⟨rfl, rfl⟩ rfl (Nat.le_of_ble_eq_true rfl) ⟨Nat.le_of_ble_eq_true rfl, Nat.le_of_ble_eq_true rfl⟩ rfl (fun r hh hp => ?_)
    obtain ⟨⟨q2, rfl⟩ | ⟨q2, rfl⟩, rfl⟩ := hp
    · skip
      refine r_if_ne (tgt := 26) dX4_rank_19 (by decide) (fun _ => ?_) (fun z => absurd z (by decide))
      refine r_iconst (v := 0) dX4_rank_26 (by decide) ?_
      refine r_callVi (nn := 1) (As := [.int 0]) (st := []) dX4_rank_27 (tX4_refused hb st h0 0) gX4_rank_X4_refused rfl (by decide +kernel) ⟨Nat.le_of_ble_eq_true rfl, Nat.le_of_ble_eq_true rfl⟩ ⟨rfl, rfl⟩ (ov_obj hb _ _) rfl rfl (Nat.le_of_ble_eq_true rfl) ⟨Nat.le_of_ble_eq_true rfl, Nat.le_of_ble_eq_true rfl⟩ rfl (fun r hh hp => ?_)
      obtain ⟨hr9, rfl⟩ := hp
      rw [show (if (0 : Int32) = 0 then (0 : Int32) else 1) = 0 from by decide] at hr9
      subst hr9
      refine r_if_eq (tgt := 35) dX4_rank_30 (by decide) (fun _ => ?_) (fun z => absurd z (by decide))
      refine r_aload_n dX4_rank_35 0 rfl ?_
      refine m_geta hb hinX4_rank 4 (by decide) rfl dX4_rank_36 fwX4_rank_16 rfl ?_
      refine r_iload_n dX4_rank_39 1 rfl ?_
      refine m_ald (v := st 4 o) hb 4 o (by decide) dX4_rank_40 rfl (by show _ < 10; omega) (by decide) rfl ?_
      refine r_istore_n (lo' := [(3, .int (st 4 o)), (0, .ref (b 29)), (1, .int (nI o)), (2, .int y)]) dX4_rank_41 (by decide) rfl ?_
      refine r_aload_n dX4_rank_42 1 rfl ?_
      refine m_geta hb hinX4_rank 4 (by decide) rfl dX4_rank_43 fwX4_rank_16 rfl ?_
      refine r_iload_n dX4_rank_46 2 rfl ?_
      refine r_iload_n dX4_rank_47 3 rfl ?_
      refine m_ast hb 4 o (by decide) dX4_rank_48 rfl (by show _ < 10; omega) (by decide) ?_
      refine r_iload_n dX4_rank_49 0 rfl ?_
      exact kret _ _ _ _ _ _ (Nat.le_refl _) (Nat.le_refl _) dX4_rank_50 rfl (⟨by simp [mrank, ms, ma, q1, eo, q2], by simp [mrank, ms, ma, q1, eo, q2]⟩)
    · skip
      refine r_if_ne (tgt := 26) dX4_rank_19 (by decide) (fun z => absurd z (by decide)) (fun _ => ?_)
      refine r_iconst (v := 2) dX4_rank_22 (by decide) ?_
      refine r_goto (tgt := 27) dX4_rank_23 (by decide) ?_
      refine r_callVi (nn := 1) (As := [.int 2]) (st := []) dX4_rank_27 (tX4_refused hb st h0 2) gX4_rank_X4_refused rfl (by decide +kernel) ⟨Nat.le_of_ble_eq_true rfl, Nat.le_of_ble_eq_true rfl⟩ ⟨rfl, rfl⟩ (ov_obj hb _ _) rfl rfl (Nat.le_of_ble_eq_true rfl) ⟨Nat.le_of_ble_eq_true rfl, Nat.le_of_ble_eq_true rfl⟩ rfl (fun r hh hp => ?_)
      obtain ⟨hr9, rfl⟩ := hp
      rw [show (if (2 : Int32) = 0 then (0 : Int32) else 1) = 1 from by decide] at hr9
      subst hr9
      refine r_if_eq (tgt := 35) dX4_rank_30 (by decide) (fun z => absurd z (by decide)) (fun _ => ?_)
      refine r_iconst (v := 0) dX4_rank_33 (by decide) ?_
      exact kret _ _ _ _ _ _ (Nat.le_refl _) (Nat.le_refl _) dX4_rank_34 rfl (⟨by simp [mrank, ms, ma, q1, eo, q2], by simp [mrank, ms, ma, q1, eo, q2]⟩)
  · skip
    refine r_if_ne (tgt := 12) dX4_rank_5 (by decide) (fun z => absurd z (by decide)) (fun _ => ?_)
    refine r_iconst (v := 1) dX4_rank_8 (by decide) ?_
    refine r_goto (tgt := 27) dX4_rank_9 (by decide) ?_
    refine r_callVi (nn := 1) (As := [.int 1]) (st := []) dX4_rank_27 (tX4_refused hb st h0 1) gX4_rank_X4_refused rfl (by decide +kernel) ⟨Nat.le_of_ble_eq_true rfl, Nat.le_of_ble_eq_true rfl⟩ ⟨rfl, rfl⟩ (ov_obj hb _ _) rfl rfl (Nat.le_of_ble_eq_true rfl) ⟨Nat.le_of_ble_eq_true rfl, Nat.le_of_ble_eq_true rfl⟩ rfl (fun r hh hp => ?_)
    obtain ⟨hr9, rfl⟩ := hp
    rw [show (if (1 : Int32) = 0 then (0 : Int32) else 1) = 1 from by decide] at hr9
    subst hr9
    refine r_if_eq (tgt := 35) dX4_rank_30 (by decide) (fun z => absurd z (by decide)) (fun _ => ?_)
    refine r_iconst (v := 0) dX4_rank_33 (by decide) ?_
    exact kret _ _ _ _ _ _ (Nat.le_refl _) (Nat.le_refl _) dX4_rank_34 rfl (⟨by simp [mrank, ms, ma, q1], by simp [mrank, ms, ma, q1]⟩)

abbrev rmX4_isBusy : Room := { frames := 0, cells := 0, slots := 0, locals := 0 }
theorem hinX4_isBusy : ∀ w ∈ u_ws RX4 TX4 29, w ∈ wsX4_isBusy := by decide +kernel
theorem fwX4_isBusy_20 : Cond.fieldLink RX4 20 "CastdeskModel" "state" "[I" ∈ wsX4_isBusy := by decide +kernel
theorem fwX4_isBusy_23 : Cond.fieldLink RX4 23 "CastdeskModel" "first" "[I" ∈ wsX4_isBusy := by decide +kernel
theorem fwX4_isBusy_26 : Cond.fieldLink RX4 26 "CastdeskModel" "second" "[I" ∈ wsX4_isBusy := by decide +kernel
theorem fwX4_isBusy_88 : Cond.fieldLink RX4 88 "CastdeskModel" "fights" "I" ∈ wsX4_isBusy := by decide +kernel
set_option maxHeartbeats 4000000 in
set_option maxRecDepth 100000 in
theorem lX4_isBusy_4 {E : kE} {b : Nat → Nat} (hb : binj b) {st : kM} {h0 : kH} (nF nC nE w : Nat) (hwf : mwf st nF nC nE w) (p : Int32)  {X : kX} (hx : ∀ v : Int32, v = busyR st p nF → V E X rmX4_isBusy cX4_isBusy 4 wsX4_isBusy RX4 0 0 (ov E b st h0) [(3, .int (nI nF)), (2, .int v), (0, .ref (b 29)), (1, .int p)] 57 [])
    : ∀ (d i : Nat) (v : Int32), nF < i + d → i ≤ nF → v = busyR st p i → V E X rmX4_isBusy cX4_isBusy 4 wsX4_isBusy RX4 0 0 (ov E b st h0) [(3, .int (nI i)), (2, .int v), (0, .ref (b 29)), (1, .int p)] 4 [] := by
  obtain ⟨hF, hF20, hC, hC6, hE, hE80, hW, hW3, hpl, hof, hon, hsl⟩ := id hwf
  intro d
  induction d with
  | zero =>
    intro i v h1 h2
    exact absurd h1 (by omega)
  | succ d ih =>
    intro i v h1 h2 e1
    refine r_iload_n dX4_isBusy_4 0 rfl ?_
    refine r_aload_n dX4_isBusy_5 2 rfl ?_
    refine m_geti (v := st 5 0) hb hinX4_isBusy 5 (by decide) rfl dX4_isBusy_6 fwX4_isBusy_88 rfl rfl ?_
    refine rn_icmp_ge (a := i) (c := nF) (tgt := 57) dX4_isBusy_9 (by decide) rfl hF (by omega) (by omega) (fun c1 => ?_) (fun c1 => ?_)
    · skip
      have hNi : nF = i := by omega
      subst hNi
      exact hx v e1
    · skip
      refine r_iload_n dX4_isBusy_12 1 rfl ?_
      refine r_if_ne (tgt := 45) dX4_isBusy_13 (by decide) (fun c2 => ?_) (fun c2 => ?_)
      · skip
        refine r_iconst (v := 1) dX4_isBusy_45 (by decide) ?_
        refine r_goto (tgt := 50) dX4_isBusy_46 (by decide) ?_
        refine r_istore_n (lo' := [(2, .int 1), (3, .int (nI i)), (0, .ref (b 29)), (1, .int p)]) dX4_isBusy_50 (by decide) rfl ?_
        refine r_iinc (v := nI (i + 1)) (lo' := [(3, .int (nI (i + 1))), (2, .int 1), (0, .ref (b 29)), (1, .int p)]) dX4_isBusy_51 1 rfl (nI_1 i) (by decide) rfl ?_
        refine r_goto (tgt := 4) dX4_isBusy_54 (by decide) ?_
        refine r_lo (lo' := [(3, .int (nI (i + 1))), (2, .int 1), (0, .ref (b 29)), (1, .int p)]) [0, 1, 2, 3] rfl ?_
        exact ih (i + 1) 1 (by omega) (by omega) (by first | (simp only [busyR, ← e1, if_neg c2, if_true]; done) | (simp only [busyR, ← e1]; simp [c1, c2]))
      · skip
        refine r_aload_n dX4_isBusy_16 2 rfl ?_
        refine m_geta hb hinX4_isBusy 6 (by decide) rfl dX4_isBusy_17 fwX4_isBusy_20 rfl ?_
        refine r_iload_n dX4_isBusy_20 0 rfl ?_
        refine m_ald (v := st 6 i) hb 6 i (by decide) dX4_isBusy_21 rfl (by show _ < 20; omega) (by decide) rfl ?_
        refine r_if_ne (tgt := 49) dX4_isBusy_22 (by decide) (fun c3 => ?_) (fun c3 => ?_)
        · skip
          refine r_iconst (v := 0) dX4_isBusy_49 (by decide) ?_
          refine r_istore_n (lo' := [(2, .int 0), (3, .int (nI i)), (0, .ref (b 29)), (1, .int p)]) dX4_isBusy_50 (by decide) rfl ?_
          refine r_iinc (v := nI (i + 1)) (lo' := [(3, .int (nI (i + 1))), (2, .int 0), (0, .ref (b 29)), (1, .int p)]) dX4_isBusy_51 1 rfl (nI_1 i) (by decide) rfl ?_
          refine r_goto (tgt := 4) dX4_isBusy_54 (by decide) ?_
          refine r_lo (lo' := [(3, .int (nI (i + 1))), (2, .int 0), (0, .ref (b 29)), (1, .int p)]) [0, 1, 2, 3] rfl ?_
          exact ih (i + 1) 0 (by omega) (by omega) (by first | (simp only [busyR, ← e1, if_pos c2, if_neg c3, if_true]; done) | (simp only [busyR, ← e1]; simp [c1, c2, c3]))
        · skip
          refine r_aload_n dX4_isBusy_25 2 rfl ?_
          refine m_geta hb hinX4_isBusy 7 (by decide) rfl dX4_isBusy_26 fwX4_isBusy_23 rfl ?_
          refine r_iload_n dX4_isBusy_29 0 rfl ?_
          refine m_ald (v := st 7 i) hb 7 i (by decide) dX4_isBusy_30 rfl (by show _ < 20; omega) (by decide) rfl ?_
          refine r_iload_n dX4_isBusy_31 3 rfl ?_
          refine r_icmp_eq (tgt := 45) dX4_isBusy_32 (by decide) (fun c4 => ?_) (fun c4 => ?_)
          · skip
            refine r_iconst (v := 1) dX4_isBusy_45 (by decide) ?_
            refine r_goto (tgt := 50) dX4_isBusy_46 (by decide) ?_
            refine r_istore_n (lo' := [(2, .int 1), (3, .int (nI i)), (0, .ref (b 29)), (1, .int p)]) dX4_isBusy_50 (by decide) rfl ?_
            refine r_iinc (v := nI (i + 1)) (lo' := [(3, .int (nI (i + 1))), (2, .int 1), (0, .ref (b 29)), (1, .int p)]) dX4_isBusy_51 1 rfl (nI_1 i) (by decide) rfl ?_
            refine r_goto (tgt := 4) dX4_isBusy_54 (by decide) ?_
            refine r_lo (lo' := [(3, .int (nI (i + 1))), (2, .int 1), (0, .ref (b 29)), (1, .int p)]) [0, 1, 2, 3] rfl ?_
            exact ih (i + 1) 1 (by omega) (by omega) (by first | (simp only [busyR, ← e1, if_pos c2, if_pos c3, if_pos c4, if_true]; done) | (simp only [busyR, ← e1]; simp [c1, c2, c3, c4]))
          · skip
            refine r_aload_n dX4_isBusy_35 2 rfl ?_
            refine m_geta hb hinX4_isBusy 8 (by decide) rfl dX4_isBusy_36 fwX4_isBusy_26 rfl ?_
            refine r_iload_n dX4_isBusy_39 0 rfl ?_
            refine m_ald (v := st 8 i) hb 8 i (by decide) dX4_isBusy_40 rfl (by show _ < 20; omega) (by decide) rfl ?_
            refine r_iload_n dX4_isBusy_41 3 rfl ?_
            refine r_icmp_ne (tgt := 49) dX4_isBusy_42 (by decide) (fun c5 => ?_) (fun c5 => ?_)
            · skip
              refine r_iconst (v := 0) dX4_isBusy_49 (by decide) ?_
              refine r_istore_n (lo' := [(2, .int 0), (3, .int (nI i)), (0, .ref (b 29)), (1, .int p)]) dX4_isBusy_50 (by decide) rfl ?_
              refine r_iinc (v := nI (i + 1)) (lo' := [(3, .int (nI (i + 1))), (2, .int 0), (0, .ref (b 29)), (1, .int p)]) dX4_isBusy_51 1 rfl (nI_1 i) (by decide) rfl ?_
              refine r_goto (tgt := 4) dX4_isBusy_54 (by decide) ?_
              refine r_lo (lo' := [(3, .int (nI (i + 1))), (2, .int 0), (0, .ref (b 29)), (1, .int p)]) [0, 1, 2, 3] rfl ?_
              exact ih (i + 1) 0 (by omega) (by omega) (by first | (simp only [busyR, ← e1, if_pos c2, if_pos c3, if_neg c4, if_neg c5, if_true]; done) | (simp only [busyR, ← e1]; simp [c1, c2, c3, c4, c5]))
            · skip
              refine r_iconst (v := 1) dX4_isBusy_45 (by decide) ?_
              refine r_goto (tgt := 50) dX4_isBusy_46 (by decide) ?_
              refine r_istore_n (lo' := [(2, .int 1), (3, .int (nI i)), (0, .ref (b 29)), (1, .int p)]) dX4_isBusy_50 (by decide) rfl ?_
              refine r_iinc (v := nI (i + 1)) (lo' := [(3, .int (nI (i + 1))), (2, .int 1), (0, .ref (b 29)), (1, .int p)]) dX4_isBusy_51 1 rfl (nI_1 i) (by decide) rfl ?_
              refine r_goto (tgt := 4) dX4_isBusy_54 (by decide) ?_
              refine r_lo (lo' := [(3, .int (nI (i + 1))), (2, .int 1), (0, .ref (b 29)), (1, .int p)]) [0, 1, 2, 3] rfl ?_
              exact ih (i + 1) 1 (by omega) (by omega) (by first | (simp only [busyR, ← e1, if_pos c2, if_pos c3, if_neg c4, if_pos c5, if_true]; done) | (simp only [busyR, ← e1]; simp [c1, c2, c3, c4, c5]))

set_option maxHeartbeats 4000000 in
set_option maxRecDepth 100000 in
theorem tX4_isBusy {E : kE} {b : Nat → Nat} (hb : binj b) (st : kM) (h0 : kH) (nF nC nE w : Nat) (hwf : mwf st nF nC nE w) (p : Int32) : kCi E yX4_isBusy wsX4_isBusy rmX4_isBusy 0 0 [.ref (b 29), .int p] (ov E b st h0) (fun r h' => r = busyR st p nF ∧ h' = ov E b st h0) := by
  obtain ⟨hF, hF20, hC, hC6, hE, hE80, hW, hW3, hpl, hof, hon, hsl⟩ := id hwf
  refine kCi_of (rt := .boolean) (own := RX4) (cc := cX4_isBusy) (maxL := 4) (by decide) rfl rfl (Nat.le_of_ble_eq_true rfl) ?_
  intro X _ kret
  refine r_lo (lo' := [(0, .ref (b 29)), (1, .int p)]) [0, 1] rfl ?_
  refine r_iconst (v := 0) dX4_isBusy_0 (by decide) ?_
  refine r_istore_n (lo' := [(2, .int 0), (0, .ref (b 29)), (1, .int p)]) dX4_isBusy_1 (by decide) rfl ?_
  refine r_iconst (v := 0) dX4_isBusy_2 (by decide) ?_
  refine r_istore_n (lo' := [(3, .int 0), (2, .int 0), (0, .ref (b 29)), (1, .int p)]) dX4_isBusy_3 (by decide) rfl ?_
  refine r_lo (lo' := [(3, .int 0), (2, .int 0), (0, .ref (b 29)), (1, .int p)]) [0, 1, 2, 3] rfl ?_
  refine lX4_isBusy_4 hb nF nC nE w hwf p (fun v e1 => ?_) (nF + 1) 0 _ (by omega) (Nat.zero_le _) rfl
  refine r_iload_n dX4_isBusy_57 1 rfl ?_
  exact kret _ _ _ _ _ _ (Nat.le_refl _) (Nat.le_refl _) dX4_isBusy_58 (by rw [e1]; exact busyR_nar st p nF) (⟨e1, rfl⟩)

abbrev rmX4_pointsOf : Room := { frames := 0, cells := 0, slots := 0, locals := 0 }
theorem hinX4_pointsOf : ∀ w ∈ u_ws RX4 TX4 29, w ∈ wsX4_pointsOf := by decide +kernel
theorem fwX4_pointsOf_59 : Cond.fieldLink RX4 59 "CastdeskModel" "of" "[I" ∈ wsX4_pointsOf := by decide +kernel
theorem fwX4_pointsOf_62 : Cond.fieldLink RX4 62 "CastdeskModel" "by" "[I" ∈ wsX4_pointsOf := by decide +kernel
theorem fwX4_pointsOf_65 : Cond.fieldLink RX4 65 "CastdeskModel" "points" "[I" ∈ wsX4_pointsOf := by decide +kernel
theorem fwX4_pointsOf_68 : Cond.fieldLink RX4 68 "CastdeskModel" "at" "[I" ∈ wsX4_pointsOf := by decide +kernel
theorem fwX4_pointsOf_71 : Cond.fieldLink RX4 71 "CastdeskModel" "isStruck" "[Z" ∈ wsX4_pointsOf := by decide +kernel
theorem fwX4_pointsOf_112 : Cond.fieldLink RX4 112 "CastdeskModel" "entries" "I" ∈ wsX4_pointsOf := by decide +kernel
set_option maxHeartbeats 4000000 in
set_option maxRecDepth 100000 in
theorem lX4_pointsOf_6 {E : kE} {b : Nat → Nat} (hb : binj b) {st : kM} {h0 : kH} (nF nC nE w : Nat) (hwf : mwf st nF nC nE w) (f p e : Int32)  {X : kX} (hx : ∀ v : Int32, v = ptsR st f p e nE → V E X rmX4_pointsOf cX4_pointsOf 6 wsX4_pointsOf RX4 0 0 (ov E b st h0) [(5, .int (nI nE)), (4, .int v), (0, .ref (b 29)), (1, .int f), (2, .int p), (3, .int e)] 80 [])
    : ∀ (d i : Nat) (v : Int32), nE < i + d → i ≤ nE → v = ptsR st f p e i → V E X rmX4_pointsOf cX4_pointsOf 6 wsX4_pointsOf RX4 0 0 (ov E b st h0) [(5, .int (nI i)), (4, .int v), (0, .ref (b 29)), (1, .int f), (2, .int p), (3, .int e)] 6 [] := by
  obtain ⟨hF, hF20, hC, hC6, hE, hE80, hW, hW3, hpl, hof, hon, hsl⟩ := id hwf
  intro d
  induction d with
  | zero =>
    intro i v h1 h2
    exact absurd h1 (by omega)
  | succ d ih =>
    intro i v h1 h2 e1
    refine r_iload dX4_pointsOf_6 0 rfl ?_
    refine r_aload_n dX4_pointsOf_8 2 rfl ?_
    refine m_geti (v := st 20 0) hb hinX4_pointsOf 20 (by decide) rfl dX4_pointsOf_9 fwX4_pointsOf_112 rfl rfl ?_
    refine rn_icmp_ge (a := i) (c := nE) (tgt := 80) dX4_pointsOf_12 (by decide) rfl hE (by omega) (by omega) (fun c1 => ?_) (fun c1 => ?_)
    · skip
      have hNi : nE = i := by omega
      subst hNi
      exact hx v e1
    · skip
      refine r_iload dX4_pointsOf_15 1 rfl ?_
      refine r_aload_n dX4_pointsOf_17 2 rfl ?_
      refine m_geta hb hinX4_pointsOf 21 (by decide) rfl dX4_pointsOf_18 fwX4_pointsOf_59 rfl ?_
      refine r_iload dX4_pointsOf_21 0 rfl ?_
      refine m_ald (v := st 21 i) hb 21 i (by decide) dX4_pointsOf_23 rfl (by show _ < 80; omega) (by decide) rfl ?_
      refine r_iload_n dX4_pointsOf_24 3 rfl ?_
      refine r_icmp_ne (tgt := 70) dX4_pointsOf_25 (by decide) (fun c2 => ?_) (fun c2 => ?_)
      · skip
        refine r_iconst (v := 0) dX4_pointsOf_70 (by decide) ?_
        refine r_iadd dX4_pointsOf_71 ?_
        refine r_istore (lo' := [(4, .int (v + 0)), (5, .int (nI i)), (0, .ref (b 29)), (1, .int f), (2, .int p), (3, .int e)]) dX4_pointsOf_72 (by decide) rfl ?_
        refine r_iinc (v := nI (i + 1)) (lo' := [(5, .int (nI (i + 1))), (4, .int (v + 0)), (0, .ref (b 29)), (1, .int f), (2, .int p), (3, .int e)]) dX4_pointsOf_74 1 rfl (nI_1 i) (by decide) rfl ?_
        refine r_goto (tgt := 6) dX4_pointsOf_77 (by decide) ?_
        refine r_lo (lo' := [(5, .int (nI (i + 1))), (4, .int (v + 0)), (0, .ref (b 29)), (1, .int f), (2, .int p), (3, .int e)]) [0, 1, 2, 3, 4, 5] rfl ?_
        exact ih (i + 1) (v + 0) (by omega) (by omega) (by first | (simp only [ptsR, ← e1, if_neg c2, if_true]; done) | (simp only [ptsR, ← e1]; simp [c1, c2]))
      · skip
        refine r_aload_n dX4_pointsOf_28 2 rfl ?_
        refine m_geta hb hinX4_pointsOf 22 (by decide) rfl dX4_pointsOf_29 fwX4_pointsOf_62 rfl ?_
        refine r_iload dX4_pointsOf_32 0 rfl ?_
        refine m_ald (v := st 22 i) hb 22 i (by decide) dX4_pointsOf_34 rfl (by show _ < 80; omega) (by decide) rfl ?_
        refine r_iload_n dX4_pointsOf_35 4 rfl ?_
        refine r_icmp_ne (tgt := 70) dX4_pointsOf_36 (by decide) (fun c3 => ?_) (fun c3 => ?_)
        · skip
          refine r_iconst (v := 0) dX4_pointsOf_70 (by decide) ?_
          refine r_iadd dX4_pointsOf_71 ?_
          refine r_istore (lo' := [(4, .int (v + 0)), (5, .int (nI i)), (0, .ref (b 29)), (1, .int f), (2, .int p), (3, .int e)]) dX4_pointsOf_72 (by decide) rfl ?_
          refine r_iinc (v := nI (i + 1)) (lo' := [(5, .int (nI (i + 1))), (4, .int (v + 0)), (0, .ref (b 29)), (1, .int f), (2, .int p), (3, .int e)]) dX4_pointsOf_74 1 rfl (nI_1 i) (by decide) rfl ?_
          refine r_goto (tgt := 6) dX4_pointsOf_77 (by decide) ?_
          refine r_lo (lo' := [(5, .int (nI (i + 1))), (4, .int (v + 0)), (0, .ref (b 29)), (1, .int f), (2, .int p), (3, .int e)]) [0, 1, 2, 3, 4, 5] rfl ?_
          exact ih (i + 1) (v + 0) (by omega) (by omega) (by first | (simp only [ptsR, ← e1, if_pos c2, if_neg c3, if_true]; done) | (simp only [ptsR, ← e1]; simp [c1, c2, c3]))
        · skip
          refine r_aload_n dX4_pointsOf_39 2 rfl ?_
          refine m_geta hb hinX4_pointsOf 25 (by decide) rfl dX4_pointsOf_40 fwX4_pointsOf_71 rfl ?_
          refine r_iload dX4_pointsOf_43 0 rfl ?_
          refine m_zald (v := st 25 i) hb 25 i (by decide) dX4_pointsOf_45 rfl (by show _ < 80; omega) (by decide) rfl ?_
          refine r_if_ne (tgt := 70) dX4_pointsOf_46 (by decide) (fun c4 => ?_) (fun c4 => ?_)
          · skip
            refine r_iconst (v := 0) dX4_pointsOf_70 (by decide) ?_
            refine r_iadd dX4_pointsOf_71 ?_
            refine r_istore (lo' := [(4, .int (v + 0)), (5, .int (nI i)), (0, .ref (b 29)), (1, .int f), (2, .int p), (3, .int e)]) dX4_pointsOf_72 (by decide) rfl ?_
            refine r_iinc (v := nI (i + 1)) (lo' := [(5, .int (nI (i + 1))), (4, .int (v + 0)), (0, .ref (b 29)), (1, .int f), (2, .int p), (3, .int e)]) dX4_pointsOf_74 1 rfl (nI_1 i) (by decide) rfl ?_
            refine r_goto (tgt := 6) dX4_pointsOf_77 (by decide) ?_
            refine r_lo (lo' := [(5, .int (nI (i + 1))), (4, .int (v + 0)), (0, .ref (b 29)), (1, .int f), (2, .int p), (3, .int e)]) [0, 1, 2, 3, 4, 5] rfl ?_
            exact ih (i + 1) (v + 0) (by omega) (by omega) (by first | (simp only [ptsR, ← e1, if_pos c2, if_pos c3, if_neg c4, if_true]; done) | (simp only [ptsR, ← e1]; simp [c1, c2, c3, c4]))
          · skip
            refine r_aload_n dX4_pointsOf_49 2 rfl ?_
            refine m_geta hb hinX4_pointsOf 24 (by decide) rfl dX4_pointsOf_50 fwX4_pointsOf_68 rfl ?_
            refine r_iload dX4_pointsOf_53 0 rfl ?_
            refine m_ald (v := st 24 i) hb 24 i (by decide) dX4_pointsOf_55 rfl (by show _ < 80; omega) (by decide) rfl ?_
            refine r_iload_n dX4_pointsOf_56 5 rfl ?_
            refine r_icmp_gt (tgt := 70) dX4_pointsOf_57 (by decide) (fun c5 => ?_) (fun c5 => ?_)
            · skip
              refine r_iconst (v := 0) dX4_pointsOf_70 (by decide) ?_
              refine r_iadd dX4_pointsOf_71 ?_
              refine r_istore (lo' := [(4, .int (v + 0)), (5, .int (nI i)), (0, .ref (b 29)), (1, .int f), (2, .int p), (3, .int e)]) dX4_pointsOf_72 (by decide) rfl ?_
              refine r_iinc (v := nI (i + 1)) (lo' := [(5, .int (nI (i + 1))), (4, .int (v + 0)), (0, .ref (b 29)), (1, .int f), (2, .int p), (3, .int e)]) dX4_pointsOf_74 1 rfl (nI_1 i) (by decide) rfl ?_
              refine r_goto (tgt := 6) dX4_pointsOf_77 (by decide) ?_
              refine r_lo (lo' := [(5, .int (nI (i + 1))), (4, .int (v + 0)), (0, .ref (b 29)), (1, .int f), (2, .int p), (3, .int e)]) [0, 1, 2, 3, 4, 5] rfl ?_
              exact ih (i + 1) (v + 0) (by omega) (by omega) (by first | (simp only [ptsR, ← e1, if_pos c2, if_pos c3, if_pos c4, if_pos c5, if_true]; done) | (simp only [ptsR, ← e1]; simp [c1, c2, c3, c4, c5]))
            · skip
              refine r_aload_n dX4_pointsOf_60 2 rfl ?_
              refine m_geta hb hinX4_pointsOf 23 (by decide) rfl dX4_pointsOf_61 fwX4_pointsOf_65 rfl ?_
              refine r_iload dX4_pointsOf_64 0 rfl ?_
              refine m_ald (v := st 23 i) hb 23 i (by decide) dX4_pointsOf_66 rfl (by show _ < 80; omega) (by decide) rfl ?_
              refine r_goto (tgt := 71) dX4_pointsOf_67 (by decide) ?_
              refine r_iadd dX4_pointsOf_71 ?_
              refine r_istore (lo' := [(4, .int (v + (st 23 i))), (5, .int (nI i)), (0, .ref (b 29)), (1, .int f), (2, .int p), (3, .int e)]) dX4_pointsOf_72 (by decide) rfl ?_
              refine r_iinc (v := nI (i + 1)) (lo' := [(5, .int (nI (i + 1))), (4, .int (v + (st 23 i))), (0, .ref (b 29)), (1, .int f), (2, .int p), (3, .int e)]) dX4_pointsOf_74 1 rfl (nI_1 i) (by decide) rfl ?_
              refine r_goto (tgt := 6) dX4_pointsOf_77 (by decide) ?_
              refine r_lo (lo' := [(5, .int (nI (i + 1))), (4, .int (v + (st 23 i))), (0, .ref (b 29)), (1, .int f), (2, .int p), (3, .int e)]) [0, 1, 2, 3, 4, 5] rfl ?_
              exact ih (i + 1) (v + (st 23 i)) (by omega) (by omega) (by first | (simp only [ptsR, ← e1, if_pos c2, if_pos c3, if_pos c4, if_neg c5, if_true]; done) | (simp only [ptsR, ← e1]; simp [c1, c2, c3, c4, c5]))

set_option maxHeartbeats 4000000 in
set_option maxRecDepth 100000 in
theorem tX4_pointsOf {E : kE} {b : Nat → Nat} (hb : binj b) (st : kM) (h0 : kH) (nF nC nE w : Nat) (hwf : mwf st nF nC nE w) (f p e : Int32) : kCi E yX4_pointsOf wsX4_pointsOf rmX4_pointsOf 0 0 [.ref (b 29), .int f, .int p, .int e] (ov E b st h0) (fun r h' => r = ptsR st f p e nE ∧ h' = ov E b st h0) := by
  obtain ⟨hF, hF20, hC, hC6, hE, hE80, hW, hW3, hpl, hof, hon, hsl⟩ := id hwf
  refine kCi_of (rt := .int) (own := RX4) (cc := cX4_pointsOf) (maxL := 6) (by decide) rfl rfl (Nat.le_of_ble_eq_true rfl) ?_
  intro X _ kret
  refine r_lo (lo' := [(0, .ref (b 29)), (1, .int f), (2, .int p), (3, .int e)]) [0, 1, 2, 3] rfl ?_
  refine r_iconst (v := 0) dX4_pointsOf_0 (by decide) ?_
  refine r_istore (lo' := [(4, .int 0), (0, .ref (b 29)), (1, .int f), (2, .int p), (3, .int e)]) dX4_pointsOf_1 (by decide) rfl ?_
  refine r_iconst (v := 0) dX4_pointsOf_3 (by decide) ?_
  refine r_istore (lo' := [(5, .int 0), (4, .int 0), (0, .ref (b 29)), (1, .int f), (2, .int p), (3, .int e)]) dX4_pointsOf_4 (by decide) rfl ?_
  refine r_lo (lo' := [(5, .int 0), (4, .int 0), (0, .ref (b 29)), (1, .int f), (2, .int p), (3, .int e)]) [0, 1, 2, 3, 4, 5] rfl ?_
  refine lX4_pointsOf_6 hb nF nC nE w hwf f p e (fun v e1 => ?_) (nE + 1) 0 _ (by omega) (Nat.zero_le _) rfl
  refine r_iload dX4_pointsOf_80 1 rfl ?_
  exact kret _ _ _ _ _ _ (Nat.le_refl _) (Nat.le_refl _) dX4_pointsOf_82 rfl (⟨e1, rfl⟩)

abbrev rmX4_countedFor : Room := { frames := 0, cells := 0, slots := 0, locals := 0 }
theorem hinX4_countedFor : ∀ w ∈ u_ws RX4 TX4 29, w ∈ wsX4_countedFor := by decide +kernel
theorem fwX4_countedFor_56 : Cond.fieldLink RX4 56 "CastdeskModel" "sponsorIn" "[I" ∈ wsX4_countedFor := by decide +kernel
theorem fwX4_countedFor_115 : Cond.fieldLink RX4 115 "CastdeskModel" "now" "I" ∈ wsX4_countedFor := by decide +kernel
set_option maxHeartbeats 4000000 in
set_option maxRecDepth 100000 in
theorem lX4_countedFor_4 {E : kE} {b : Nat → Nat} (hb : binj b) {st : kM} {h0 : kH} (nF nC nE w : Nat) (hwf : mwf st nF nC nE w) (x : Int32)  {X : kX} (hx : ∀ v : Int32, v = cntR (st 19) x w → V E X rmX4_countedFor cX4_countedFor 4 wsX4_countedFor RX4 0 0 (ov E b st h0) [(3, .int (nI w)), (2, .int v), (0, .ref (b 29)), (1, .int x)] 36 [])
    : ∀ (d i : Nat) (v : Int32), w < i + d → i ≤ w → v = cntR (st 19) x i → V E X rmX4_countedFor cX4_countedFor 4 wsX4_countedFor RX4 0 0 (ov E b st h0) [(3, .int (nI i)), (2, .int v), (0, .ref (b 29)), (1, .int x)] 4 [] := by
  obtain ⟨hF, hF20, hC, hC6, hE, hE80, hW, hW3, hpl, hof, hon, hsl⟩ := id hwf
  intro d
  induction d with
  | zero =>
    intro i v h1 h2
    exact absurd h1 (by omega)
  | succ d ih =>
    intro i v h1 h2 e1
    refine r_iload_n dX4_countedFor_4 0 rfl ?_
    refine r_aload_n dX4_countedFor_5 2 rfl ?_
    refine m_geti (v := st 1 0) hb hinX4_countedFor 1 (by decide) rfl dX4_countedFor_6 fwX4_countedFor_115 rfl rfl ?_
    refine rn_icmp_ge (a := i) (c := w) (tgt := 36) dX4_countedFor_9 (by decide) rfl hW (by omega) (by omega) (fun c1 => ?_) (fun c1 => ?_)
    · skip
      have hNi : w = i := by omega
      subst hNi
      exact hx v e1
    · skip
      refine r_iload_n dX4_countedFor_12 1 rfl ?_
      refine r_aload_n dX4_countedFor_13 2 rfl ?_
      refine m_geta hb hinX4_countedFor 19 (by decide) rfl dX4_countedFor_14 fwX4_countedFor_56 rfl ?_
      refine r_iload_n dX4_countedFor_17 0 rfl ?_
      refine m_ald (v := st 19 i) hb 19 i (by decide) dX4_countedFor_18 rfl (by show _ < 3000; omega) (by decide) rfl ?_
      refine r_iload_n dX4_countedFor_19 3 rfl ?_
      refine r_icmp_ne (tgt := 27) dX4_countedFor_20 (by decide) (fun c2 => ?_) (fun c2 => ?_)
      · skip
        refine r_iconst (v := 0) dX4_countedFor_27 (by decide) ?_
        refine r_iadd dX4_countedFor_28 ?_
        refine r_istore_n (lo' := [(2, .int (v + 0)), (3, .int (nI i)), (0, .ref (b 29)), (1, .int x)]) dX4_countedFor_29 (by decide) rfl ?_
        refine r_iinc (v := nI (i + 1)) (lo' := [(3, .int (nI (i + 1))), (2, .int (v + 0)), (0, .ref (b 29)), (1, .int x)]) dX4_countedFor_30 1 rfl (nI_1 i) (by decide) rfl ?_
        refine r_goto (tgt := 4) dX4_countedFor_33 (by decide) ?_
        refine r_lo (lo' := [(3, .int (nI (i + 1))), (2, .int (v + 0)), (0, .ref (b 29)), (1, .int x)]) [0, 1, 2, 3] rfl ?_
        exact ih (i + 1) (v + 0) (by omega) (by omega) (by first | (simp only [cntR, ← e1, if_neg c2, if_true]; done) | (simp only [cntR, ← e1]; simp [c1, c2]))
      · skip
        refine r_iconst (v := 1) dX4_countedFor_23 (by decide) ?_
        refine r_goto (tgt := 28) dX4_countedFor_24 (by decide) ?_
        refine r_iadd dX4_countedFor_28 ?_
        refine r_istore_n (lo' := [(2, .int (v + 1)), (3, .int (nI i)), (0, .ref (b 29)), (1, .int x)]) dX4_countedFor_29 (by decide) rfl ?_
        refine r_iinc (v := nI (i + 1)) (lo' := [(3, .int (nI (i + 1))), (2, .int (v + 1)), (0, .ref (b 29)), (1, .int x)]) dX4_countedFor_30 1 rfl (nI_1 i) (by decide) rfl ?_
        refine r_goto (tgt := 4) dX4_countedFor_33 (by decide) ?_
        refine r_lo (lo' := [(3, .int (nI (i + 1))), (2, .int (v + 1)), (0, .ref (b 29)), (1, .int x)]) [0, 1, 2, 3] rfl ?_
        exact ih (i + 1) (v + 1) (by omega) (by omega) (by first | (simp only [cntR, ← e1, if_pos c2, if_true]; done) | (simp only [cntR, ← e1]; simp [c1, c2]))

set_option maxHeartbeats 4000000 in
set_option maxRecDepth 100000 in
theorem tX4_countedFor {E : kE} {b : Nat → Nat} (hb : binj b) (st : kM) (h0 : kH) (nF nC nE w : Nat) (hwf : mwf st nF nC nE w) (x : Int32) : kCi E yX4_countedFor wsX4_countedFor rmX4_countedFor 0 0 [.ref (b 29), .int x] (ov E b st h0) (fun r h' => r = cntR (st 19) x w ∧ h' = ov E b st h0) := by
  obtain ⟨hF, hF20, hC, hC6, hE, hE80, hW, hW3, hpl, hof, hon, hsl⟩ := id hwf
  refine kCi_of (rt := .int) (own := RX4) (cc := cX4_countedFor) (maxL := 4) (by decide) rfl rfl (Nat.le_of_ble_eq_true rfl) ?_
  intro X _ kret
  refine r_lo (lo' := [(0, .ref (b 29)), (1, .int x)]) [0, 1] rfl ?_
  refine r_iconst (v := 0) dX4_countedFor_0 (by decide) ?_
  refine r_istore_n (lo' := [(2, .int 0), (0, .ref (b 29)), (1, .int x)]) dX4_countedFor_1 (by decide) rfl ?_
  refine r_iconst (v := 0) dX4_countedFor_2 (by decide) ?_
  refine r_istore_n (lo' := [(3, .int 0), (2, .int 0), (0, .ref (b 29)), (1, .int x)]) dX4_countedFor_3 (by decide) rfl ?_
  refine r_lo (lo' := [(3, .int 0), (2, .int 0), (0, .ref (b 29)), (1, .int x)]) [0, 1, 2, 3] rfl ?_
  refine lX4_countedFor_4 hb nF nC nE w hwf x (fun v e1 => ?_) (w + 1) 0 _ (by omega) (Nat.zero_le _) rfl
  refine r_iload_n dX4_countedFor_36 1 rfl ?_
  exact kret _ _ _ _ _ _ (Nat.le_refl _) (Nat.le_refl _) dX4_countedFor_37 rfl (⟨e1, rfl⟩)

abbrev rmX4_wins : Room := { frames := 0, cells := 0, slots := 0, locals := 0 }
theorem hinX4_wins : ∀ w ∈ u_ws RX4 TX4 29, w ∈ wsX4_wins := by decide +kernel
theorem fwX4_wins_20 : Cond.fieldLink RX4 20 "CastdeskModel" "state" "[I" ∈ wsX4_wins := by decide +kernel
theorem fwX4_wins_29 : Cond.fieldLink RX4 29 "CastdeskModel" "winner" "[I" ∈ wsX4_wins := by decide +kernel
theorem fwX4_wins_88 : Cond.fieldLink RX4 88 "CastdeskModel" "fights" "I" ∈ wsX4_wins := by decide +kernel
set_option maxHeartbeats 4000000 in
set_option maxRecDepth 100000 in
theorem lX4_wins_4 {E : kE} {b : Nat → Nat} (hb : binj b) {st : kM} {h0 : kH} (nF nC nE w : Nat) (hwf : mwf st nF nC nE w) (x : Int32)  {X : kX} (hx : ∀ v : Int32, v = winR st x nF → V E X rmX4_wins cX4_wins 4 wsX4_wins RX4 0 0 (ov E b st h0) [(3, .int (nI nF)), (2, .int v), (0, .ref (b 29)), (1, .int x)] 46 [])
    : ∀ (d i : Nat) (v : Int32), nF < i + d → i ≤ nF → v = winR st x i → V E X rmX4_wins cX4_wins 4 wsX4_wins RX4 0 0 (ov E b st h0) [(3, .int (nI i)), (2, .int v), (0, .ref (b 29)), (1, .int x)] 4 [] := by
  obtain ⟨hF, hF20, hC, hC6, hE, hE80, hW, hW3, hpl, hof, hon, hsl⟩ := id hwf
  intro d
  induction d with
  | zero =>
    intro i v h1 h2
    exact absurd h1 (by omega)
  | succ d ih =>
    intro i v h1 h2 e1
    refine r_iload_n dX4_wins_4 0 rfl ?_
    refine r_aload_n dX4_wins_5 2 rfl ?_
    refine m_geti (v := st 5 0) hb hinX4_wins 5 (by decide) rfl dX4_wins_6 fwX4_wins_88 rfl rfl ?_
    refine rn_icmp_ge (a := i) (c := nF) (tgt := 46) dX4_wins_9 (by decide) rfl hF (by omega) (by omega) (fun c1 => ?_) (fun c1 => ?_)
    · skip
      have hNi : nF = i := by omega
      subst hNi
      exact hx v e1
    · skip
      refine r_iload_n dX4_wins_12 1 rfl ?_
      refine r_aload_n dX4_wins_13 2 rfl ?_
      refine m_geta hb hinX4_wins 6 (by decide) rfl dX4_wins_14 fwX4_wins_20 rfl ?_
      refine r_iload_n dX4_wins_17 0 rfl ?_
      refine m_ald (v := st 6 i) hb 6 i (by decide) dX4_wins_18 rfl (by show _ < 20; omega) (by decide) rfl ?_
      refine r_iconst (v := 1) dX4_wins_19 (by decide) ?_
      refine r_icmp_ne (tgt := 37) dX4_wins_20 (by decide) (fun c2 => ?_) (fun c2 => ?_)
      · skip
        refine r_iconst (v := 0) dX4_wins_37 (by decide) ?_
        refine r_iadd dX4_wins_38 ?_
        refine r_istore_n (lo' := [(2, .int (v + 0)), (3, .int (nI i)), (0, .ref (b 29)), (1, .int x)]) dX4_wins_39 (by decide) rfl ?_
        refine r_iinc (v := nI (i + 1)) (lo' := [(3, .int (nI (i + 1))), (2, .int (v + 0)), (0, .ref (b 29)), (1, .int x)]) dX4_wins_40 1 rfl (nI_1 i) (by decide) rfl ?_
        refine r_goto (tgt := 4) dX4_wins_43 (by decide) ?_
        refine r_lo (lo' := [(3, .int (nI (i + 1))), (2, .int (v + 0)), (0, .ref (b 29)), (1, .int x)]) [0, 1, 2, 3] rfl ?_
        exact ih (i + 1) (v + 0) (by omega) (by omega) (by first | (simp only [winR, ← e1, if_neg c2, if_true]; done) | (simp only [winR, ← e1]; simp [c1, c2]))
      · skip
        refine r_aload_n dX4_wins_23 2 rfl ?_
        refine m_geta hb hinX4_wins 9 (by decide) rfl dX4_wins_24 fwX4_wins_29 rfl ?_
        refine r_iload_n dX4_wins_27 0 rfl ?_
        refine m_ald (v := st 9 i) hb 9 i (by decide) dX4_wins_28 rfl (by show _ < 20; omega) (by decide) rfl ?_
        refine r_iload_n dX4_wins_29 3 rfl ?_
        refine r_icmp_ne (tgt := 37) dX4_wins_30 (by decide) (fun c3 => ?_) (fun c3 => ?_)
        · skip
          refine r_iconst (v := 0) dX4_wins_37 (by decide) ?_
          refine r_iadd dX4_wins_38 ?_
          refine r_istore_n (lo' := [(2, .int (v + 0)), (3, .int (nI i)), (0, .ref (b 29)), (1, .int x)]) dX4_wins_39 (by decide) rfl ?_
          refine r_iinc (v := nI (i + 1)) (lo' := [(3, .int (nI (i + 1))), (2, .int (v + 0)), (0, .ref (b 29)), (1, .int x)]) dX4_wins_40 1 rfl (nI_1 i) (by decide) rfl ?_
          refine r_goto (tgt := 4) dX4_wins_43 (by decide) ?_
          refine r_lo (lo' := [(3, .int (nI (i + 1))), (2, .int (v + 0)), (0, .ref (b 29)), (1, .int x)]) [0, 1, 2, 3] rfl ?_
          exact ih (i + 1) (v + 0) (by omega) (by omega) (by first | (simp only [winR, ← e1, if_pos c2, if_neg c3, if_true]; done) | (simp only [winR, ← e1]; simp [c1, c2, c3]))
        · skip
          refine r_iconst (v := 1) dX4_wins_33 (by decide) ?_
          refine r_goto (tgt := 38) dX4_wins_34 (by decide) ?_
          refine r_iadd dX4_wins_38 ?_
          refine r_istore_n (lo' := [(2, .int (v + 1)), (3, .int (nI i)), (0, .ref (b 29)), (1, .int x)]) dX4_wins_39 (by decide) rfl ?_
          refine r_iinc (v := nI (i + 1)) (lo' := [(3, .int (nI (i + 1))), (2, .int (v + 1)), (0, .ref (b 29)), (1, .int x)]) dX4_wins_40 1 rfl (nI_1 i) (by decide) rfl ?_
          refine r_goto (tgt := 4) dX4_wins_43 (by decide) ?_
          refine r_lo (lo' := [(3, .int (nI (i + 1))), (2, .int (v + 1)), (0, .ref (b 29)), (1, .int x)]) [0, 1, 2, 3] rfl ?_
          exact ih (i + 1) (v + 1) (by omega) (by omega) (by first | (simp only [winR, ← e1, if_pos c2, if_pos c3, if_true]; done) | (simp only [winR, ← e1]; simp [c1, c2, c3]))

set_option maxHeartbeats 4000000 in
set_option maxRecDepth 100000 in
theorem tX4_wins {E : kE} {b : Nat → Nat} (hb : binj b) (st : kM) (h0 : kH) (nF nC nE w : Nat) (hwf : mwf st nF nC nE w) (x : Int32) : kCi E yX4_wins wsX4_wins rmX4_wins 0 0 [.ref (b 29), .int x] (ov E b st h0) (fun r h' => r = winR st x nF ∧ h' = ov E b st h0) := by
  obtain ⟨hF, hF20, hC, hC6, hE, hE80, hW, hW3, hpl, hof, hon, hsl⟩ := id hwf
  refine kCi_of (rt := .int) (own := RX4) (cc := cX4_wins) (maxL := 4) (by decide) rfl rfl (Nat.le_of_ble_eq_true rfl) ?_
  intro X _ kret
  refine r_lo (lo' := [(0, .ref (b 29)), (1, .int x)]) [0, 1] rfl ?_
  refine r_iconst (v := 0) dX4_wins_0 (by decide) ?_
  refine r_istore_n (lo' := [(2, .int 0), (0, .ref (b 29)), (1, .int x)]) dX4_wins_1 (by decide) rfl ?_
  refine r_iconst (v := 0) dX4_wins_2 (by decide) ?_
  refine r_istore_n (lo' := [(3, .int 0), (2, .int 0), (0, .ref (b 29)), (1, .int x)]) dX4_wins_3 (by decide) rfl ?_
  refine r_lo (lo' := [(3, .int 0), (2, .int 0), (0, .ref (b 29)), (1, .int x)]) [0, 1, 2, 3] rfl ?_
  refine lX4_wins_4 hb nF nC nE w hwf x (fun v e1 => ?_) (nF + 1) 0 _ (by omega) (Nat.zero_le _) rfl
  refine r_iload_n dX4_wins_46 1 rfl ?_
  exact kret _ _ _ _ _ _ (Nat.le_refl _) (Nat.le_refl _) dX4_wins_47 rfl (⟨e1, rfl⟩)

abbrev rmX4_begin : Room := { frames := 0, cells := 0, slots := 0, locals := 0 }
theorem hinX4_begin : ∀ w ∈ u_ws RX4 TX4 29, w ∈ wsX4_begin := by decide +kernel
theorem fwX4_begin_23 : Cond.fieldLink RX4 23 "CastdeskModel" "first" "[I" ∈ wsX4_begin := by decide +kernel
theorem fwX4_begin_26 : Cond.fieldLink RX4 26 "CastdeskModel" "second" "[I" ∈ wsX4_begin := by decide +kernel
theorem fwX4_begin_29 : Cond.fieldLink RX4 29 "CastdeskModel" "winner" "[I" ∈ wsX4_begin := by decide +kernel
theorem fwX4_begin_88 : Cond.fieldLink RX4 88 "CastdeskModel" "fights" "I" ∈ wsX4_begin := by decide +kernel
set_option maxHeartbeats 4000000 in
set_option maxRecDepth 100000 in
theorem tX4_begin {E : kE} {b : Nat → Nat} (hb : binj b) (st : kM) (h0 : kH) (nF nC nE w : Nat) (hwf : mwf st nF nC nE w) (h20 : nF < 20) (x y : Int32) : kCi E yX4_begin wsX4_begin rmX4_begin 0 0 [.ref (b 29), .int x, .int y] (ov E b st h0) (fun r h' => r = nI nF ∧ h' = ov E b (mbegin st nF x y) h0) := by
  obtain ⟨hF, hF20, hC, hC6, hE, hE80, hW, hW3, hpl, hof, hon, hsl⟩ := id hwf
  refine kCi_of (rt := .int) (own := RX4) (cc := cX4_begin) (maxL := 3) (by decide) rfl rfl (Nat.le_of_ble_eq_true rfl) ?_
  intro X _ kret
  refine r_lo (lo' := [(0, .ref (b 29)), (1, .int x), (2, .int y)]) [0, 1, 2] rfl ?_
  refine r_aload_n dX4_begin_0 0 rfl ?_
  refine m_geta hb hinX4_begin 7 (by decide) rfl dX4_begin_1 fwX4_begin_23 rfl ?_
  refine r_aload_n dX4_begin_4 0 rfl ?_
  refine m_geti (v := nI nF) hb hinX4_begin 5 (by decide) rfl dX4_begin_5 fwX4_begin_88 rfl hF ?_
  refine r_iload_n dX4_begin_8 1 rfl ?_
  refine m_ast hb 7 nF (by decide) dX4_begin_9 rfl (by show _ < 20; omega) (by decide) ?_
  refine r_aload_n dX4_begin_10 0 rfl ?_
  refine m_geta hb hinX4_begin 8 (by decide) rfl dX4_begin_11 fwX4_begin_26 rfl ?_
  refine r_aload_n dX4_begin_14 0 rfl ?_
  refine m_geti (v := nI nF) hb hinX4_begin 5 (by decide) rfl dX4_begin_15 fwX4_begin_88 rfl hF ?_
  refine r_iload_n dX4_begin_18 2 rfl ?_
  refine m_ast hb 8 nF (by decide) dX4_begin_19 rfl (by show _ < 20; omega) (by decide) ?_
  refine r_aload_n dX4_begin_20 0 rfl ?_
  refine m_geta hb hinX4_begin 9 (by decide) rfl dX4_begin_21 fwX4_begin_29 rfl ?_
  refine r_aload_n dX4_begin_24 0 rfl ?_
  refine m_geti (v := nI nF) hb hinX4_begin 5 (by decide) rfl dX4_begin_25 fwX4_begin_88 rfl hF ?_
  refine r_iconst (v := (-1)) dX4_begin_28 (by decide) ?_
  refine m_ast hb 9 nF (by decide) dX4_begin_29 rfl (by show _ < 20; omega) (by decide) ?_
  refine r_aload_n dX4_begin_30 0 rfl ?_
  refine r_dup dX4_begin_31 rfl ?_
  refine m_geti (v := nI nF) hb hinX4_begin 5 (by decide) rfl dX4_begin_32 fwX4_begin_88 rfl hF ?_
  refine r_iconst (v := 1) dX4_begin_35 (by decide) ?_
  refine r_iadd dX4_begin_36 ?_
  rw [show (nI nF) + 1 = nI (nF + 1) from nI_add nF 1]
  refine m_puti hb hinX4_begin 5 (by decide) rfl dX4_begin_37 fwX4_begin_88 rfl rfl rfl ?_
  refine r_aload_n dX4_begin_40 0 rfl ?_
  refine m_geti (v := nI (nF + 1)) hb hinX4_begin 5 (by decide) rfl dX4_begin_41 fwX4_begin_88 rfl rfl ?_
  refine r_iconst (v := 1) dX4_begin_44 (by decide) ?_
  refine r_isub dX4_begin_45 ?_
  rw [show (nI (nF + 1)) - 1 = nI nF from nI_pred nF]
  exact kret _ _ _ _ _ _ (Nat.le_refl _) (Nat.le_refl _) dX4_begin_46 rfl (⟨rfl, rfl⟩)

abbrev rmX4_fight : Room := { frames := 2, cells := 0, slots := 0, locals := 42 }
theorem hinX4_fight : ∀ w ∈ u_ws RX4 TX4 29, w ∈ wsX4_fight := by decide +kernel
theorem fwX4_fight_88 : Cond.fieldLink RX4 88 "CastdeskModel" "fights" "I" ∈ wsX4_fight := by decide +kernel
set_option maxHeartbeats 4000000 in
set_option maxRecDepth 100000 in
theorem tX4_fight {E : kE} {b : Nat → Nat} (hb : binj b) (st : kM) (h0 : kH) (nF nC nE w : Nat) (hwf : mwf st nF nC nE w) (x y : Int32) : kCi E yX4_fight wsX4_fight rmX4_fight 0 0 [.ref (b 29), .int x, .int y] (ov E b st h0) (fun r h' => r = (mfight st nF x y).1 ∧ h' = ov E b (mfight st nF x y).2 h0) := by
  obtain ⟨hF, hF20, hC, hC6, hE, hE80, hW, hW3, hpl, hof, hon, hsl⟩ := id hwf
  refine kCi_of (rt := .int) (own := RX4) (cc := cX4_fight) (maxL := 4) (by decide) rfl rfl (Nat.le_of_ble_eq_true rfl) ?_
  intro X _ kret
  refine r_lo (lo' := [(0, .ref (b 29)), (1, .int x), (2, .int y)]) [0, 1, 2] rfl ?_
  refine r_iload_n dX4_fight_0 1 rfl ?_
  refine r_callSi (nn := 1) (As := [.int x]) (st := []) dX4_fight_1 (tX4_isPlayer _ x) gX4_fight_X4_isPlayer rfl (by decide +kernel) ⟨Nat.le_of_ble_eq_true rfl, Nat.le_of_ble_eq_true rfl⟩ ⟨rfl, rfl⟩ rfl (Nat.le_of_ble_eq_true rfl) ⟨Nat.le_of_ble_eq_true rfl, Nat.le_of_ble_eq_true rfl⟩ rfl (fun r hh hp => ?_)
  obtain ⟨⟨q1, rfl⟩ | ⟨q1, rfl⟩, rfl⟩ := hp
  · skip
    refine r_if_eq (tgt := 18) dX4_fight_4 (by decide) (fun z => absurd z (by decide)) (fun _ => ?_)
    refine r_iload_n dX4_fight_7 2 rfl ?_
    refine r_callSi (nn := 1) (As := [.int y]) (st := []) dX4_fight_8 (tX4_isPlayer _ y) gX4_fight_X4_isPlayer rfl (by decide +kernel) ⟨Nat.le_of_ble_eq_true rfl, Nat.le_of_ble_eq_true rfl⟩ ⟨rfl, rfl⟩ rfl (Nat.le_of_ble_eq_true rfl) ⟨Nat.le_of_ble_eq_true rfl, Nat.le_of_ble_eq_true rfl⟩ rfl (fun r hh hp => ?_)
    obtain ⟨⟨q2, rfl⟩ | ⟨q2, rfl⟩, rfl⟩ := hp
    · skip
      refine r_if_eq (tgt := 18) dX4_fight_11 (by decide) (fun z => absurd z (by decide)) (fun _ => ?_)
      refine r_iconst (v := 1) dX4_fight_14 (by decide) ?_
      refine r_goto (tgt := 19) dX4_fight_15 (by decide) ?_
      refine r_istore_n (lo' := [(3, .int 1), (0, .ref (b 29)), (1, .int x), (2, .int y)]) dX4_fight_19 (by decide) rfl ?_
      refine r_aload_n dX4_fight_20 1 rfl ?_
      refine r_iload_n dX4_fight_21 0 rfl ?_
      refine r_if_ne (tgt := 29) dX4_fight_22 (by decide) (fun _ => ?_) (fun z => absurd z (by decide))
      refine r_iload_n dX4_fight_29 2 rfl ?_
      refine r_iload_n dX4_fight_30 3 rfl ?_
      refine r_icmp_ne (tgt := 38) dX4_fight_31 (by decide) (fun c3 => ?_) (fun c3 => ?_)
      · skip
        refine r_aload_n dX4_fight_38 1 rfl ?_
        refine r_iload_n dX4_fight_39 2 rfl ?_
        refine r_callVi (nn := 1) (As := [.int x]) (st := [.ref (b 29)]) dX4_fight_40 (tX4_isBusy hb st h0 nF nC nE w hwf x) gX4_fight_X4_isBusy rfl (by decide +kernel) ⟨Nat.le_of_ble_eq_true rfl, Nat.le_of_ble_eq_true rfl⟩ ⟨rfl, rfl⟩ (ov_obj hb _ _) rfl rfl (Nat.le_of_ble_eq_true rfl) ⟨Nat.le_of_ble_eq_true rfl, Nat.le_of_ble_eq_true rfl⟩ rfl (fun r hh hp => ?_)
        obtain ⟨rfl, rfl⟩ := hp
        refine r_if_ne (tgt := 63) dX4_fight_43 (by decide) (fun c4 => ?_) (fun c4 => ?_)
        · skip
          refine r_iconst (v := 3) dX4_fight_63 (by decide) ?_
          refine r_goto (tgt := 68) dX4_fight_64 (by decide) ?_
          refine r_callVi (nn := 1) (As := [.int 3]) (st := []) dX4_fight_68 (tX4_refused hb st h0 3) gX4_fight_X4_refused rfl (by decide +kernel) ⟨Nat.le_of_ble_eq_true rfl, Nat.le_of_ble_eq_true rfl⟩ ⟨rfl, rfl⟩ (ov_obj hb _ _) rfl rfl (Nat.le_of_ble_eq_true rfl) ⟨Nat.le_of_ble_eq_true rfl, Nat.le_of_ble_eq_true rfl⟩ rfl (fun r hh hp => ?_)
          obtain ⟨hr9, rfl⟩ := hp
          rw [show (if (3 : Int32) = 0 then (0 : Int32) else 1) = 1 from by decide] at hr9
          subst hr9
          refine r_if_eq (tgt := 76) dX4_fight_71 (by decide) (fun z => absurd z (by decide)) (fun _ => ?_)
          refine r_iconst (v := 0) dX4_fight_74 (by decide) ?_
          exact kret _ _ _ _ _ _ (Nat.le_refl _) (Nat.le_refl _) dX4_fight_75 rfl (⟨by simp [mfight, q1, q2, c3, c4] <;> rfl, by simp [mfight, q1, q2, c3, c4] <;> rfl⟩)
        · skip
          refine r_aload_n dX4_fight_46 1 rfl ?_
          refine r_iload_n dX4_fight_47 3 rfl ?_
          refine r_callVi (nn := 1) (As := [.int y]) (st := [.ref (b 29)]) dX4_fight_48 (tX4_isBusy hb st h0 nF nC nE w hwf y) gX4_fight_X4_isBusy rfl (by decide +kernel) ⟨Nat.le_of_ble_eq_true rfl, Nat.le_of_ble_eq_true rfl⟩ ⟨rfl, rfl⟩ (ov_obj hb _ _) rfl rfl (Nat.le_of_ble_eq_true rfl) ⟨Nat.le_of_ble_eq_true rfl, Nat.le_of_ble_eq_true rfl⟩ rfl (fun r hh hp => ?_)
          obtain ⟨rfl, rfl⟩ := hp
          refine r_if_ne (tgt := 63) dX4_fight_51 (by decide) (fun c5 => ?_) (fun c5 => ?_)
          · skip
            refine r_iconst (v := 3) dX4_fight_63 (by decide) ?_
            refine r_goto (tgt := 68) dX4_fight_64 (by decide) ?_
            refine r_callVi (nn := 1) (As := [.int 3]) (st := []) dX4_fight_68 (tX4_refused hb st h0 3) gX4_fight_X4_refused rfl (by decide +kernel) ⟨Nat.le_of_ble_eq_true rfl, Nat.le_of_ble_eq_true rfl⟩ ⟨rfl, rfl⟩ (ov_obj hb _ _) rfl rfl (Nat.le_of_ble_eq_true rfl) ⟨Nat.le_of_ble_eq_true rfl, Nat.le_of_ble_eq_true rfl⟩ rfl (fun r hh hp => ?_)
            obtain ⟨hr9, rfl⟩ := hp
            rw [show (if (3 : Int32) = 0 then (0 : Int32) else 1) = 1 from by decide] at hr9
            subst hr9
            refine r_if_eq (tgt := 76) dX4_fight_71 (by decide) (fun z => absurd z (by decide)) (fun _ => ?_)
            refine r_iconst (v := 0) dX4_fight_74 (by decide) ?_
            exact kret _ _ _ _ _ _ (Nat.le_refl _) (Nat.le_refl _) dX4_fight_75 rfl (⟨by simp [mfight, q1, q2, c3, c4, c5] <;> rfl, by simp [mfight, q1, q2, c3, c4, c5] <;> rfl⟩)
          · skip
            refine r_aload_n dX4_fight_54 1 rfl ?_
            refine m_geti (v := st 5 0) hb hinX4_fight 5 (by decide) rfl dX4_fight_55 fwX4_fight_88 rfl rfl ?_
            refine r_bipush (v := 20) dX4_fight_58 (by decide) ?_
            refine r_icmp_ne (tgt := 67) dX4_fight_60 (by decide) (fun c6 => ?_) (fun c6 => ?_)
            · skip
              refine r_iconst (v := 0) dX4_fight_67 (by decide) ?_
              refine r_callVi (nn := 1) (As := [.int 0]) (st := []) dX4_fight_68 (tX4_refused hb st h0 0) gX4_fight_X4_refused rfl (by decide +kernel) ⟨Nat.le_of_ble_eq_true rfl, Nat.le_of_ble_eq_true rfl⟩ ⟨rfl, rfl⟩ (ov_obj hb _ _) rfl rfl (Nat.le_of_ble_eq_true rfl) ⟨Nat.le_of_ble_eq_true rfl, Nat.le_of_ble_eq_true rfl⟩ rfl (fun r hh hp => ?_)
              obtain ⟨hr9, rfl⟩ := hp
              rw [show (if (0 : Int32) = 0 then (0 : Int32) else 1) = 0 from by decide] at hr9
              subst hr9
              refine r_if_eq (tgt := 76) dX4_fight_71 (by decide) (fun _ => ?_) (fun z => absurd z (by decide))
              refine r_aload_n dX4_fight_76 1 rfl ?_
              refine r_iload_n dX4_fight_77 2 rfl ?_
              refine r_iload_n dX4_fight_78 3 rfl ?_
              refine r_callVi (nn := 2) (As := [.int x, .int y]) (st := []) dX4_fight_79 (tX4_begin hb (ms st 0 0) h0 nF nC nE w hwf (n20 hF20 (by rw [← hF]; assumption)) x y) gX4_fight_X4_begin rfl (by decide +kernel) ⟨Nat.le_of_ble_eq_true rfl, Nat.le_of_ble_eq_true rfl⟩ ⟨rfl, rfl⟩ (ov_obj hb _ _) rfl rfl (Nat.le_of_ble_eq_true rfl) ⟨Nat.le_of_ble_eq_true rfl, Nat.le_of_ble_eq_true rfl⟩ rfl (fun r hh hp => ?_)
              obtain ⟨rfl, rfl⟩ := hp
              exact kret _ _ _ _ _ _ (Nat.le_refl _) (Nat.le_refl _) dX4_fight_82 rfl (⟨by simp [mfight, q1, q2, c3, c4, c5, c6] <;> rfl, by simp [mfight, q1, q2, c3, c4, c5, c6] <;> rfl⟩)
            · skip
              refine r_iconst (v := 3) dX4_fight_63 (by decide) ?_
              refine r_goto (tgt := 68) dX4_fight_64 (by decide) ?_
              refine r_callVi (nn := 1) (As := [.int 3]) (st := []) dX4_fight_68 (tX4_refused hb st h0 3) gX4_fight_X4_refused rfl (by decide +kernel) ⟨Nat.le_of_ble_eq_true rfl, Nat.le_of_ble_eq_true rfl⟩ ⟨rfl, rfl⟩ (ov_obj hb _ _) rfl rfl (Nat.le_of_ble_eq_true rfl) ⟨Nat.le_of_ble_eq_true rfl, Nat.le_of_ble_eq_true rfl⟩ rfl (fun r hh hp => ?_)
              obtain ⟨hr9, rfl⟩ := hp
              rw [show (if (3 : Int32) = 0 then (0 : Int32) else 1) = 1 from by decide] at hr9
              subst hr9
              refine r_if_eq (tgt := 76) dX4_fight_71 (by decide) (fun z => absurd z (by decide)) (fun _ => ?_)
              refine r_iconst (v := 0) dX4_fight_74 (by decide) ?_
              exact kret _ _ _ _ _ _ (Nat.le_refl _) (Nat.le_refl _) dX4_fight_75 rfl (⟨by simp [mfight, q1, q2, c3, c4, c5, c6] <;> rfl, by simp [mfight, q1, q2, c3, c4, c5, c6] <;> rfl⟩)
      · skip
        refine r_iconst (v := 2) dX4_fight_34 (by decide) ?_
        refine r_goto (tgt := 68) dX4_fight_35 (by decide) ?_
        refine r_callVi (nn := 1) (As := [.int 2]) (st := []) dX4_fight_68 (tX4_refused hb st h0 2) gX4_fight_X4_refused rfl (by decide +kernel) ⟨Nat.le_of_ble_eq_true rfl, Nat.le_of_ble_eq_true rfl⟩ ⟨rfl, rfl⟩ (ov_obj hb _ _) rfl rfl (Nat.le_of_ble_eq_true rfl) ⟨Nat.le_of_ble_eq_true rfl, Nat.le_of_ble_eq_true rfl⟩ rfl (fun r hh hp => ?_)
        obtain ⟨hr9, rfl⟩ := hp
        rw [show (if (2 : Int32) = 0 then (0 : Int32) else 1) = 1 from by decide] at hr9
        subst hr9
        refine r_if_eq (tgt := 76) dX4_fight_71 (by decide) (fun z => absurd z (by decide)) (fun _ => ?_)
        refine r_iconst (v := 0) dX4_fight_74 (by decide) ?_
        exact kret _ _ _ _ _ _ (Nat.le_refl _) (Nat.le_refl _) dX4_fight_75 rfl (⟨by simp [mfight, q1, q2, c3] <;> rfl, by simp [mfight, q1, q2, c3] <;> rfl⟩)
    · skip
      refine r_if_eq (tgt := 18) dX4_fight_11 (by decide) (fun _ => ?_) (fun z => absurd z (by decide))
      refine r_iconst (v := 0) dX4_fight_18 (by decide) ?_
      refine r_istore_n (lo' := [(3, .int 0), (0, .ref (b 29)), (1, .int x), (2, .int y)]) dX4_fight_19 (by decide) rfl ?_
      refine r_aload_n dX4_fight_20 1 rfl ?_
      refine r_iload_n dX4_fight_21 0 rfl ?_
      refine r_if_ne (tgt := 29) dX4_fight_22 (by decide) (fun z => absurd z (by decide)) (fun _ => ?_)
      refine r_iconst (v := 1) dX4_fight_25 (by decide) ?_
      refine r_goto (tgt := 68) dX4_fight_26 (by decide) ?_
      refine r_callVi (nn := 1) (As := [.int 1]) (st := []) dX4_fight_68 (tX4_refused hb st h0 1) gX4_fight_X4_refused rfl (by decide +kernel) ⟨Nat.le_of_ble_eq_true rfl, Nat.le_of_ble_eq_true rfl⟩ ⟨rfl, rfl⟩ (ov_obj hb _ _) rfl rfl (Nat.le_of_ble_eq_true rfl) ⟨Nat.le_of_ble_eq_true rfl, Nat.le_of_ble_eq_true rfl⟩ rfl (fun r hh hp => ?_)
      obtain ⟨hr9, rfl⟩ := hp
      rw [show (if (1 : Int32) = 0 then (0 : Int32) else 1) = 1 from by decide] at hr9
      subst hr9
      refine r_if_eq (tgt := 76) dX4_fight_71 (by decide) (fun z => absurd z (by decide)) (fun _ => ?_)
      refine r_iconst (v := 0) dX4_fight_74 (by decide) ?_
      exact kret _ _ _ _ _ _ (Nat.le_refl _) (Nat.le_refl _) dX4_fight_75 rfl (⟨by simp [mfight, q1, q2] <;> rfl, by simp [mfight, q1, q2] <;> rfl⟩)
  · skip
    refine r_if_eq (tgt := 18) dX4_fight_4 (by decide) (fun _ => ?_) (fun z => absurd z (by decide))
    refine r_iconst (v := 0) dX4_fight_18 (by decide) ?_
    refine r_istore_n (lo' := [(3, .int 0), (0, .ref (b 29)), (1, .int x), (2, .int y)]) dX4_fight_19 (by decide) rfl ?_
    refine r_aload_n dX4_fight_20 1 rfl ?_
    refine r_iload_n dX4_fight_21 0 rfl ?_
    refine r_if_ne (tgt := 29) dX4_fight_22 (by decide) (fun z => absurd z (by decide)) (fun _ => ?_)
    refine r_iconst (v := 1) dX4_fight_25 (by decide) ?_
    refine r_goto (tgt := 68) dX4_fight_26 (by decide) ?_
    refine r_callVi (nn := 1) (As := [.int 1]) (st := []) dX4_fight_68 (tX4_refused hb st h0 1) gX4_fight_X4_refused rfl (by decide +kernel) ⟨Nat.le_of_ble_eq_true rfl, Nat.le_of_ble_eq_true rfl⟩ ⟨rfl, rfl⟩ (ov_obj hb _ _) rfl rfl (Nat.le_of_ble_eq_true rfl) ⟨Nat.le_of_ble_eq_true rfl, Nat.le_of_ble_eq_true rfl⟩ rfl (fun r hh hp => ?_)
    obtain ⟨hr9, rfl⟩ := hp
    rw [show (if (1 : Int32) = 0 then (0 : Int32) else 1) = 1 from by decide] at hr9
    subst hr9
    refine r_if_eq (tgt := 76) dX4_fight_71 (by decide) (fun z => absurd z (by decide)) (fun _ => ?_)
    refine r_iconst (v := 0) dX4_fight_74 (by decide) ?_
    exact kret _ _ _ _ _ _ (Nat.le_refl _) (Nat.le_refl _) dX4_fight_75 rfl (⟨by simp [mfight, q1] <;> rfl, by simp [mfight, q1] <;> rfl⟩)

abbrev rmX4_end : Room := { frames := 2, cells := 0, slots := 0, locals := 43 }
theorem hinX4_end : ∀ w ∈ u_ws RX4 TX4 29, w ∈ wsX4_end := by decide +kernel
theorem fwX4_end_20 : Cond.fieldLink RX4 20 "CastdeskModel" "state" "[I" ∈ wsX4_end := by decide +kernel
theorem fwX4_end_23 : Cond.fieldLink RX4 23 "CastdeskModel" "first" "[I" ∈ wsX4_end := by decide +kernel
theorem fwX4_end_26 : Cond.fieldLink RX4 26 "CastdeskModel" "second" "[I" ∈ wsX4_end := by decide +kernel
theorem fwX4_end_29 : Cond.fieldLink RX4 29 "CastdeskModel" "winner" "[I" ∈ wsX4_end := by decide +kernel
set_option maxHeartbeats 4000000 in
set_option maxRecDepth 100000 in
theorem tX4_end {E : kE} {b : Nat → Nat} (hb : binj b) (st : kM) (h0 : kH) (nF nC nE w : Nat) (hwf : mwf st nF nC nE w) (x : Int32) : kCi E yX4_end wsX4_end rmX4_end 0 0 [.ref (b 29), .int x] (ov E b st h0) (fun r h' => r = (mend st nE x).1 ∧ h' = ov E b (mend st nE x).2 h0) := by
  obtain ⟨hF, hF20, hC, hC6, hE, hE80, hW, hW3, hpl, hof, hon, hsl⟩ := id hwf
  refine kCi_of (rt := .int) (own := RX4) (cc := cX4_end) (maxL := 4) (by decide) rfl rfl (Nat.le_of_ble_eq_true rfl) ?_
  intro X _ kret
  refine r_lo (lo' := [(0, .ref (b 29)), (1, .int x)]) [0, 1] rfl ?_
  refine r_aload_n dX4_end_0 0 rfl ?_
  refine r_iload_n dX4_end_1 1 rfl ?_
  refine r_callVi (nn := 1) (As := [.int x]) (st := []) dX4_end_2 (tX4_isFight hb st h0 x) gX4_end_X4_isFight rfl (by decide +kernel) ⟨Nat.le_of_ble_eq_true rfl, Nat.le_of_ble_eq_true rfl⟩ ⟨rfl, rfl⟩ (ov_obj hb _ _) rfl rfl (Nat.le_of_ble_eq_true rfl) ⟨Nat.le_of_ble_eq_true rfl, Nat.le_of_ble_eq_true rfl⟩ rfl (fun r hh hp => ?_)
  obtain ⟨⟨q1, rfl⟩ | ⟨q1, rfl⟩, rfl⟩ := hp
  · skip
    obtain ⟨o, ho, rfl⟩ := inr_pred (m := nF) (by omega) (by rw [← hF]; exact q1)
    have eo : (nI o).toNatClampNeg = o := nI_clamp (by omega)
    refine r_istore_n (lo' := [(2, .int 1), (0, .ref (b 29)), (1, .int (nI o))]) dX4_end_5 (by decide) rfl ?_
    refine r_aload_n dX4_end_6 1 rfl ?_
    refine r_iload_n dX4_end_7 0 rfl ?_
    refine r_if_ne (tgt := 15) dX4_end_8 (by decide) (fun _ => ?_) (fun z => absurd z (by decide))
    refine r_aload_n dX4_end_15 1 rfl ?_
    refine m_geta hb hinX4_end 6 (by decide) rfl dX4_end_16 fwX4_end_20 rfl ?_
    refine r_iload_n dX4_end_19 2 rfl ?_
    refine m_ald (v := st 6 o) hb 6 o (by decide) dX4_end_20 rfl (by show _ < 20; omega) (by decide) rfl ?_
    refine r_if_eq (tgt := 28) dX4_end_21 (by decide) (fun c2 => ?_) (fun c2 => ?_)
    · skip
      refine r_iconst (v := 0) dX4_end_28 (by decide) ?_
      refine r_callVi (nn := 1) (As := [.int 0]) (st := []) dX4_end_29 (tX4_refused hb st h0 0) gX4_end_X4_refused rfl (by decide +kernel) ⟨Nat.le_of_ble_eq_true rfl, Nat.le_of_ble_eq_true rfl⟩ ⟨rfl, rfl⟩ (ov_obj hb _ _) rfl rfl (Nat.le_of_ble_eq_true rfl) ⟨Nat.le_of_ble_eq_true rfl, Nat.le_of_ble_eq_true rfl⟩ rfl (fun r hh hp => ?_)
      obtain ⟨hr9, rfl⟩ := hp
      rw [show (if (0 : Int32) = 0 then (0 : Int32) else 1) = 0 from by decide] at hr9
      subst hr9
      refine r_if_eq (tgt := 37) dX4_end_32 (by decide) (fun _ => ?_) (fun z => absurd z (by decide))
      refine r_aload_n dX4_end_37 1 rfl ?_
      refine m_geta hb hinX4_end 6 (by decide) rfl dX4_end_38 fwX4_end_20 rfl ?_
      refine r_iload_n dX4_end_41 2 rfl ?_
      refine r_iconst (v := 1) dX4_end_42 (by decide) ?_
      refine m_ast hb 6 o (by decide) dX4_end_43 rfl (by show _ < 20; omega) (by decide) ?_
      refine r_aload_n dX4_end_44 1 rfl ?_
      refine r_iload_n dX4_end_45 2 rfl ?_
      refine r_aload_n dX4_end_46 1 rfl ?_
      refine m_geta hb hinX4_end 7 (by decide) rfl dX4_end_47 fwX4_end_23 rfl ?_
      refine r_iload_n dX4_end_50 2 rfl ?_
      refine m_ald (v := st 7 o) hb 7 o (by decide) dX4_end_51 rfl (by show _ < 20; omega) (by decide) rfl ?_
      refine r_sipush (v := 3000) dX4_end_52 (by decide) ?_
      refine r_callVi (nn := 3) (As := [.int (nI o), .int (st 7 o), .int 3000]) (st := []) dX4_end_55 (tX4_pointsOf hb (ma (ms st 0 0) 6 o 1) h0 nF nC nE w hwf (nI o) (st 7 o) 3000) gX4_end_X4_pointsOf rfl (by decide +kernel) ⟨Nat.le_of_ble_eq_true rfl, Nat.le_of_ble_eq_true rfl⟩ ⟨rfl, rfl⟩ (ov_obj hb _ _) rfl rfl (Nat.le_of_ble_eq_true rfl) ⟨Nat.le_of_ble_eq_true rfl, Nat.le_of_ble_eq_true rfl⟩ rfl (fun r hh hp => ?_)
      obtain ⟨rfl, rfl⟩ := hp
      refine r_aload_n dX4_end_58 1 rfl ?_
      refine r_iload_n dX4_end_59 2 rfl ?_
      refine r_aload_n dX4_end_60 1 rfl ?_
      refine m_geta hb hinX4_end 8 (by decide) rfl dX4_end_61 fwX4_end_26 rfl ?_
      refine r_iload_n dX4_end_64 2 rfl ?_
      refine m_ald (v := st 8 o) hb 8 o (by decide) dX4_end_65 rfl (by show _ < 20; omega) (by decide) rfl ?_
      refine r_sipush (v := 3000) dX4_end_66 (by decide) ?_
      refine r_callVi (nn := 3) (As := [.int (nI o), .int (st 8 o), .int 3000]) (st := [.int (ptsR (ma (ms st 0 0) 6 o 1) (nI o) (st 7 o) 3000 nE)]) dX4_end_69 (tX4_pointsOf hb (ma (ms st 0 0) 6 o 1) h0 nF nC nE w hwf (nI o) (st 8 o) 3000) gX4_end_X4_pointsOf rfl (by decide +kernel) ⟨Nat.le_of_ble_eq_true rfl, Nat.le_of_ble_eq_true rfl⟩ ⟨rfl, rfl⟩ (ov_obj hb _ _) rfl rfl (Nat.le_of_ble_eq_true rfl) ⟨Nat.le_of_ble_eq_true rfl, Nat.le_of_ble_eq_true rfl⟩ rfl (fun r hh hp => ?_)
      obtain ⟨rfl, rfl⟩ := hp
      refine r_isub dX4_end_72 ?_
      refine r_istore_n (lo' := [(3, .int ((ptsR (ma (ms st 0 0) 6 o 1) (nI o) (st 7 o) 3000 nE) - (ptsR (ma (ms st 0 0) 6 o 1) (nI o) (st 8 o) 3000 nE))), (2, .int 1), (0, .ref (b 29)), (1, .int (nI o))]) dX4_end_73 (by decide) rfl ?_
      refine r_aload_n dX4_end_74 2 rfl ?_
      refine m_geta hb hinX4_end 9 (by decide) rfl dX4_end_75 fwX4_end_29 rfl ?_
      refine r_iload_n dX4_end_78 3 rfl ?_
      refine r_iload_n dX4_end_79 0 rfl ?_
      refine r_if_le (tgt := 92) dX4_end_80 (by decide) (fun c3 => ?_) (fun c3 => ?_)
      · skip
        refine r_iload_n dX4_end_92 0 rfl ?_
        refine r_if_ge (tgt := 105) dX4_end_93 (by decide) (fun c4 => ?_) (fun c4 => ?_)
        · skip
          refine r_iconst (v := (-1)) dX4_end_105 (by decide) ?_
          refine m_ast hb 9 o (by decide) dX4_end_106 rfl (by show _ < 20; omega) (by decide) ?_
          refine r_aload_n dX4_end_107 2 rfl ?_
          refine m_geta hb hinX4_end 9 (by decide) rfl dX4_end_108 fwX4_end_29 rfl ?_
          refine r_iload_n dX4_end_111 3 rfl ?_
          refine m_ald (v := (-1)) hb 9 o (by decide) dX4_end_112 rfl (by show _ < 20; omega) (by decide) (by simp [ma, ms, upd]) ?_
          exact kret _ _ _ _ _ _ (Nat.le_refl _) (Nat.le_refl _) dX4_end_113 rfl (⟨by simp [mend, q1, eo, c2, c3, c4] <;> rfl, by simp [mend, q1, eo, c2, c3, c4] <;> rfl⟩)
        · skip
          refine r_aload_n dX4_end_96 2 rfl ?_
          refine m_geta hb hinX4_end 8 (by decide) rfl dX4_end_97 fwX4_end_26 rfl ?_
          refine r_iload_n dX4_end_100 3 rfl ?_
          refine m_ald (v := st 8 o) hb 8 o (by decide) dX4_end_101 rfl (by show _ < 20; omega) (by decide) rfl ?_
          refine r_goto (tgt := 106) dX4_end_102 (by decide) ?_
          refine m_ast hb 9 o (by decide) dX4_end_106 rfl (by show _ < 20; omega) (by decide) ?_
          refine r_aload_n dX4_end_107 2 rfl ?_
          refine m_geta hb hinX4_end 9 (by decide) rfl dX4_end_108 fwX4_end_29 rfl ?_
          refine r_iload_n dX4_end_111 3 rfl ?_
          refine m_ald (v := st 8 o) hb 9 o (by decide) dX4_end_112 rfl (by show _ < 20; omega) (by decide) (by simp [ma, ms, upd]) ?_
          exact kret _ _ _ _ _ _ (Nat.le_refl _) (Nat.le_refl _) dX4_end_113 rfl (⟨by simp [mend, q1, eo, c2, c3, c4] <;> rfl, by simp [mend, q1, eo, c2, c3, c4] <;> rfl⟩)
      · skip
        refine r_aload_n dX4_end_83 2 rfl ?_
        refine m_geta hb hinX4_end 7 (by decide) rfl dX4_end_84 fwX4_end_23 rfl ?_
        refine r_iload_n dX4_end_87 3 rfl ?_
        refine m_ald (v := st 7 o) hb 7 o (by decide) dX4_end_88 rfl (by show _ < 20; omega) (by decide) rfl ?_
        refine r_goto (tgt := 106) dX4_end_89 (by decide) ?_
        refine m_ast hb 9 o (by decide) dX4_end_106 rfl (by show _ < 20; omega) (by decide) ?_
        refine r_aload_n dX4_end_107 2 rfl ?_
        refine m_geta hb hinX4_end 9 (by decide) rfl dX4_end_108 fwX4_end_29 rfl ?_
        refine r_iload_n dX4_end_111 3 rfl ?_
        refine m_ald (v := st 7 o) hb 9 o (by decide) dX4_end_112 rfl (by show _ < 20; omega) (by decide) (by simp [ma, ms, upd]) ?_
        exact kret _ _ _ _ _ _ (Nat.le_refl _) (Nat.le_refl _) dX4_end_113 rfl (⟨by simp [mend, q1, eo, c2, c3] <;> rfl, by simp [mend, q1, eo, c2, c3] <;> rfl⟩)
    · skip
      refine r_iconst (v := 2) dX4_end_24 (by decide) ?_
      refine r_goto (tgt := 29) dX4_end_25 (by decide) ?_
      refine r_callVi (nn := 1) (As := [.int 2]) (st := []) dX4_end_29 (tX4_refused hb st h0 2) gX4_end_X4_refused rfl (by decide +kernel) ⟨Nat.le_of_ble_eq_true rfl, Nat.le_of_ble_eq_true rfl⟩ ⟨rfl, rfl⟩ (ov_obj hb _ _) rfl rfl (Nat.le_of_ble_eq_true rfl) ⟨Nat.le_of_ble_eq_true rfl, Nat.le_of_ble_eq_true rfl⟩ rfl (fun r hh hp => ?_)
      obtain ⟨hr9, rfl⟩ := hp
      rw [show (if (2 : Int32) = 0 then (0 : Int32) else 1) = 1 from by decide] at hr9
      subst hr9
      refine r_if_eq (tgt := 37) dX4_end_32 (by decide) (fun z => absurd z (by decide)) (fun _ => ?_)
      refine r_iconst (v := 0) dX4_end_35 (by decide) ?_
      exact kret _ _ _ _ _ _ (Nat.le_refl _) (Nat.le_refl _) dX4_end_36 rfl (⟨by simp [mend, q1, eo, c2] <;> rfl, by simp [mend, q1, eo, c2] <;> rfl⟩)
  · skip
    refine r_istore_n (lo' := [(2, .int 0), (0, .ref (b 29)), (1, .int x)]) dX4_end_5 (by decide) rfl ?_
    refine r_aload_n dX4_end_6 1 rfl ?_
    refine r_iload_n dX4_end_7 0 rfl ?_
    refine r_if_ne (tgt := 15) dX4_end_8 (by decide) (fun z => absurd z (by decide)) (fun _ => ?_)
    refine r_iconst (v := 1) dX4_end_11 (by decide) ?_
    refine r_goto (tgt := 29) dX4_end_12 (by decide) ?_
    refine r_callVi (nn := 1) (As := [.int 1]) (st := []) dX4_end_29 (tX4_refused hb st h0 1) gX4_end_X4_refused rfl (by decide +kernel) ⟨Nat.le_of_ble_eq_true rfl, Nat.le_of_ble_eq_true rfl⟩ ⟨rfl, rfl⟩ (ov_obj hb _ _) rfl rfl (Nat.le_of_ble_eq_true rfl) ⟨Nat.le_of_ble_eq_true rfl, Nat.le_of_ble_eq_true rfl⟩ rfl (fun r hh hp => ?_)
    obtain ⟨hr9, rfl⟩ := hp
    rw [show (if (1 : Int32) = 0 then (0 : Int32) else 1) = 1 from by decide] at hr9
    subst hr9
    refine r_if_eq (tgt := 37) dX4_end_32 (by decide) (fun z => absurd z (by decide)) (fun _ => ?_)
    refine r_iconst (v := 0) dX4_end_35 (by decide) ?_
    exact kret _ _ _ _ _ _ (Nat.le_refl _) (Nat.le_refl _) dX4_end_36 rfl (⟨by simp [mend, q1] <;> rfl, by simp [mend, q1] <;> rfl⟩)

