abbrev rmX4_in : Room := { frames := 0, cells := 0, slots := 0, locals := 0 }
set_option maxHeartbeats 4000000 in
set_option maxRecDepth 100000 in
theorem tX4_in {E : kE} (h : kH) (v a c : Int32) : kCi E yX4_in wsX4_in rmX4_in 0 0 [.int v, .int a, .int c] h (fun r h' => kR2 r (inr v a c) ∧ h' = h) := by
  refine kCi_of (rt := .boolean) (own := RX4) (cc := cX4_in) (maxL := 3) (by decide) rfl rfl (Nat.le_of_ble_eq_true rfl) ?_
  intro X _ kret
  refine r_lo (lo' := [(0, .int v), (1, .int a), (2, .int c)]) [0, 1, 2] rfl ?_
  refine r_iload_n dX4_in_0 0 rfl ?_
  refine r_iload_n dX4_in_1 1 rfl ?_
  refine r_icmp_lt (tgt := 14) dX4_in_2 (by decide) (fun c1 => ?_) (fun c1 => ?_)
  · skip
    refine r_iconst (v := 0) dX4_in_14 (by decide) ?_
    exact kret _ _ _ _ _ _ (Nat.le_refl _) (Nat.le_refl _) dX4_in_15 rfl (⟨Or.inr ⟨inr_f1 c1, rfl⟩, rfl⟩)
  · skip
    refine r_iload_n dX4_in_5 0 rfl ?_
    refine r_iload_n dX4_in_6 2 rfl ?_
    refine r_icmp_gt (tgt := 14) dX4_in_7 (by decide) (fun c2 => ?_) (fun c2 => ?_)
    · skip
      refine r_iconst (v := 0) dX4_in_14 (by decide) ?_
      exact kret _ _ _ _ _ _ (Nat.le_refl _) (Nat.le_refl _) dX4_in_15 rfl (⟨Or.inr ⟨inr_f2 c2, rfl⟩, rfl⟩)
    · skip
      refine r_iconst (v := 1) dX4_in_10 (by decide) ?_
      refine r_goto (tgt := 15) dX4_in_11 (by decide) ?_
      exact kret _ _ _ _ _ _ (Nat.le_refl _) (Nat.le_refl _) dX4_in_15 rfl (⟨Or.inl ⟨inr_t c1 c2, rfl⟩, rfl⟩)

abbrev rmX4_thrown : Room := { frames := 0, cells := 0, slots := 0, locals := 0 }
theorem hinX4_thrown : ∀ w ∈ u_ws RX4 TX4 29, w ∈ wsX4_thrown := by decide +kernel
theorem fwX4_thrown_81 : Cond.fieldLink RX4 81 "CastdeskModel" "thrown" "I" ∈ wsX4_thrown := by decide +kernel
set_option maxHeartbeats 4000000 in
set_option maxRecDepth 100000 in
theorem tX4_thrown {E : kE} {b : Nat → Nat} (hb : binj b) (st : kM) (h0 : kH)  : kCi E yX4_thrown wsX4_thrown rmX4_thrown 0 0 [.ref (b 29)] (ov E b st h0) (fun r h' => r = st 0 0 ∧ h' = ov E b st h0) := by
  refine kCi_of (rt := .int) (own := RX4) (cc := cX4_thrown) (maxL := 1) (by decide) rfl rfl (Nat.le_of_ble_eq_true rfl) ?_
  intro X _ kret
  refine r_lo (lo' := [(0, .ref (b 29))]) [0] rfl ?_
  refine r_aload_n dX4_thrown_0 0 rfl ?_
  refine m_geti (v := st 0 0) hb hinX4_thrown 0 (by decide) rfl dX4_thrown_1 fwX4_thrown_81 rfl rfl ?_
  exact kret _ _ _ _ _ _ (Nat.le_refl _) (Nat.le_refl _) dX4_thrown_4 rfl (⟨rfl, rfl⟩)

abbrev rmX4_refused : Room := { frames := 0, cells := 0, slots := 0, locals := 0 }
theorem hinX4_refused : ∀ w ∈ u_ws RX4 TX4 29, w ∈ wsX4_refused := by decide +kernel
theorem fwX4_refused_81 : Cond.fieldLink RX4 81 "CastdeskModel" "thrown" "I" ∈ wsX4_refused := by decide +kernel
set_option maxHeartbeats 4000000 in
set_option maxRecDepth 100000 in
theorem tX4_refused {E : kE} {b : Nat → Nat} (hb : binj b) (st : kM) (h0 : kH) (w : Int32) : kCi E yX4_refused wsX4_refused rmX4_refused 0 0 [.ref (b 29), .int w] (ov E b st h0) (fun r h' => r = (if w = 0 then 0 else 1) ∧ h' = ov E b (ms st 0 w) h0) := by
  refine kCi_of (rt := .boolean) (own := RX4) (cc := cX4_refused) (maxL := 2) (by decide) rfl rfl (Nat.le_of_ble_eq_true rfl) ?_
  intro X _ kret
  refine r_lo (lo' := [(0, .ref (b 29)), (1, .int w)]) [0, 1] rfl ?_
  refine r_aload_n dX4_refused_0 0 rfl ?_
  refine r_iload_n dX4_refused_1 1 rfl ?_
  refine m_puti hb hinX4_refused 0 (by decide) rfl dX4_refused_2 fwX4_refused_81 rfl rfl rfl ?_
  refine r_iload_n dX4_refused_5 1 rfl ?_
  refine r_if_eq (tgt := 13) dX4_refused_6 (by decide) (fun c1 => ?_) (fun c1 => ?_)
  · skip
    refine r_iconst (v := 0) dX4_refused_13 (by decide) ?_
    exact kret _ _ _ _ _ _ (Nat.le_refl _) (Nat.le_refl _) dX4_refused_14 rfl (⟨(by simp [c1]), rfl⟩)
  · skip
    refine r_iconst (v := 1) dX4_refused_9 (by decide) ?_
    refine r_goto (tgt := 14) dX4_refused_10 (by decide) ?_
    exact kret _ _ _ _ _ _ (Nat.le_refl _) (Nat.le_refl _) dX4_refused_14 rfl (⟨(by simp [c1]), rfl⟩)

abbrev rmX4_isPlayer : Room := { frames := 1, cells := 0, slots := 0, locals := 22 }
set_option maxHeartbeats 4000000 in
set_option maxRecDepth 100000 in
theorem tX4_isPlayer {E : kE} (h : kH) (x : Int32) : kCi E yX4_isPlayer wsX4_isPlayer rmX4_isPlayer 0 0 [.int x] h (fun r h' => kR2 r (inr x 0 9) ∧ h' = h) := by
  refine kCi_of (rt := .boolean) (own := RX4) (cc := cX4_isPlayer) (maxL := 1) (by decide) rfl rfl (Nat.le_of_ble_eq_true rfl) ?_
  intro X _ kret
  refine r_lo (lo' := [(0, .int x)]) [0] rfl ?_
  refine r_iload_n dX4_isPlayer_0 0 rfl ?_
  refine r_iconst (v := 0) dX4_isPlayer_1 (by decide) ?_
  refine r_bipush (v := 9) dX4_isPlayer_2 (by decide) ?_
  refine r_callSi (nn := 3) (As := [.int x, .int 0, .int 9]) (st := []) dX4_isPlayer_4 (tX4_in h x 0 9) gX4_isPlayer_X4_in rfl (by decide +kernel) ⟨Nat.le_of_ble_eq_true rfl, Nat.le_of_ble_eq_true rfl⟩ ⟨rfl, rfl⟩ rfl (Nat.le_of_ble_eq_true rfl) ⟨Nat.le_of_ble_eq_true rfl, Nat.le_of_ble_eq_true rfl⟩ rfl (fun r hh hp => ?_)
  obtain ⟨⟨q1, rfl⟩ | ⟨q1, rfl⟩, rfl⟩ := hp
  · skip
    exact kret _ _ _ _ _ _ (Nat.le_refl _) (Nat.le_refl _) dX4_isPlayer_7 rfl (⟨Or.inl ⟨q1, rfl⟩, rfl⟩)
  · skip
    exact kret _ _ _ _ _ _ (Nat.le_refl _) (Nat.le_refl _) dX4_isPlayer_7 rfl (⟨Or.inr ⟨q1, rfl⟩, rfl⟩)

abbrev rmX4_isSponsor : Room := { frames := 1, cells := 0, slots := 0, locals := 22 }
set_option maxHeartbeats 4000000 in
set_option maxRecDepth 100000 in
theorem tX4_isSponsor {E : kE} (h : kH) (x : Int32) : kCi E yX4_isSponsor wsX4_isSponsor rmX4_isSponsor 0 0 [.int x] h (fun r h' => kR2 r (inr x 0 5) ∧ h' = h) := by
  refine kCi_of (rt := .boolean) (own := RX4) (cc := cX4_isSponsor) (maxL := 1) (by decide) rfl rfl (Nat.le_of_ble_eq_true rfl) ?_
  intro X _ kret
  refine r_lo (lo' := [(0, .int x)]) [0] rfl ?_
  refine r_iload_n dX4_isSponsor_0 0 rfl ?_
  refine r_iconst (v := 0) dX4_isSponsor_1 (by decide) ?_
  refine r_iconst (v := 5) dX4_isSponsor_2 (by decide) ?_
  refine r_callSi (nn := 3) (As := [.int x, .int 0, .int 5]) (st := []) dX4_isSponsor_3 (tX4_in h x 0 5) gX4_isSponsor_X4_in rfl (by decide +kernel) ⟨Nat.le_of_ble_eq_true rfl, Nat.le_of_ble_eq_true rfl⟩ ⟨rfl, rfl⟩ rfl (Nat.le_of_ble_eq_true rfl) ⟨Nat.le_of_ble_eq_true rfl, Nat.le_of_ble_eq_true rfl⟩ rfl (fun r hh hp => ?_)
  obtain ⟨⟨q1, rfl⟩ | ⟨q1, rfl⟩, rfl⟩ := hp
  · skip
    exact kret _ _ _ _ _ _ (Nat.le_refl _) (Nat.le_refl _) dX4_isSponsor_6 rfl (⟨Or.inl ⟨q1, rfl⟩, rfl⟩)
  · skip
    exact kret _ _ _ _ _ _ (Nat.le_refl _) (Nat.le_refl _) dX4_isSponsor_6 rfl (⟨Or.inr ⟨q1, rfl⟩, rfl⟩)

abbrev rmX4_isFight : Room := { frames := 1, cells := 0, slots := 0, locals := 22 }
theorem hinX4_isFight : ∀ w ∈ u_ws RX4 TX4 29, w ∈ wsX4_isFight := by decide +kernel
theorem fwX4_isFight_88 : Cond.fieldLink RX4 88 "CastdeskModel" "fights" "I" ∈ wsX4_isFight := by decide +kernel
set_option maxHeartbeats 4000000 in
set_option maxRecDepth 100000 in
theorem tX4_isFight {E : kE} {b : Nat → Nat} (hb : binj b) (st : kM) (h0 : kH) (x : Int32) : kCi E yX4_isFight wsX4_isFight rmX4_isFight 0 0 [.ref (b 29), .int x] (ov E b st h0) (fun r h' => kR2 r (inr x 0 (st 5 0 - 1)) ∧ h' = ov E b st h0) := by
  refine kCi_of (rt := .boolean) (own := RX4) (cc := cX4_isFight) (maxL := 2) (by decide) rfl rfl (Nat.le_of_ble_eq_true rfl) ?_
  intro X _ kret
  refine r_lo (lo' := [(0, .ref (b 29)), (1, .int x)]) [0, 1] rfl ?_
  refine r_iload_n dX4_isFight_0 1 rfl ?_
  refine r_iconst (v := 0) dX4_isFight_1 (by decide) ?_
  refine r_aload_n dX4_isFight_2 0 rfl ?_
  refine m_geti (v := st 5 0) hb hinX4_isFight 5 (by decide) rfl dX4_isFight_3 fwX4_isFight_88 rfl rfl ?_
  refine r_iconst (v := 1) dX4_isFight_6 (by decide) ?_
  refine r_isub dX4_isFight_7 ?_
  refine r_callSi (nn := 3) (As := [.int x, .int 0, .int ((st 5 0) - 1)]) (st := []) dX4_isFight_8 (tX4_in (ov E b st h0) x 0 ((st 5 0) - 1)) gX4_isFight_X4_in rfl (by decide +kernel) ⟨Nat.le_of_ble_eq_true rfl, Nat.le_of_ble_eq_true rfl⟩ ⟨rfl, rfl⟩ rfl (Nat.le_of_ble_eq_true rfl) ⟨Nat.le_of_ble_eq_true rfl, Nat.le_of_ble_eq_true rfl⟩ rfl (fun r hh hp => ?_)
  obtain ⟨⟨q1, rfl⟩ | ⟨q1, rfl⟩, rfl⟩ := hp
  · skip
    exact kret _ _ _ _ _ _ (Nat.le_refl _) (Nat.le_refl _) dX4_isFight_11 rfl (⟨Or.inl ⟨q1, rfl⟩, rfl⟩)
  · skip
    exact kret _ _ _ _ _ _ (Nat.le_refl _) (Nat.le_refl _) dX4_isFight_11 rfl (⟨Or.inr ⟨q1, rfl⟩, rfl⟩)

abbrev rmX4_isEntry : Room := { frames := 1, cells := 0, slots := 0, locals := 22 }
theorem hinX4_isEntry : ∀ w ∈ u_ws RX4 TX4 29, w ∈ wsX4_isEntry := by decide +kernel
theorem fwX4_isEntry_112 : Cond.fieldLink RX4 112 "CastdeskModel" "entries" "I" ∈ wsX4_isEntry := by decide +kernel
set_option maxHeartbeats 4000000 in
set_option maxRecDepth 100000 in
theorem tX4_isEntry {E : kE} {b : Nat → Nat} (hb : binj b) (st : kM) (h0 : kH) (x : Int32) : kCi E yX4_isEntry wsX4_isEntry rmX4_isEntry 0 0 [.ref (b 29), .int x] (ov E b st h0) (fun r h' => kR2 r (inr x 0 (st 20 0 - 1)) ∧ h' = ov E b st h0) := by
  refine kCi_of (rt := .boolean) (own := RX4) (cc := cX4_isEntry) (maxL := 2) (by decide) rfl rfl (Nat.le_of_ble_eq_true rfl) ?_
  intro X _ kret
  refine r_lo (lo' := [(0, .ref (b 29)), (1, .int x)]) [0, 1] rfl ?_
  refine r_iload_n dX4_isEntry_0 1 rfl ?_
  refine r_iconst (v := 0) dX4_isEntry_1 (by decide) ?_
  refine r_aload_n dX4_isEntry_2 0 rfl ?_
  refine m_geti (v := st 20 0) hb hinX4_isEntry 20 (by decide) rfl dX4_isEntry_3 fwX4_isEntry_112 rfl rfl ?_
  refine r_iconst (v := 1) dX4_isEntry_6 (by decide) ?_
  refine r_isub dX4_isEntry_7 ?_
  refine r_callSi (nn := 3) (As := [.int x, .int 0, .int ((st 20 0) - 1)]) (st := []) dX4_isEntry_8 (tX4_in (ov E b st h0) x 0 ((st 20 0) - 1)) gX4_isEntry_X4_in rfl (by decide +kernel) ⟨Nat.le_of_ble_eq_true rfl, Nat.le_of_ble_eq_true rfl⟩ ⟨rfl, rfl⟩ rfl (Nat.le_of_ble_eq_true rfl) ⟨Nat.le_of_ble_eq_true rfl, Nat.le_of_ble_eq_true rfl⟩ rfl (fun r hh hp => ?_)
  obtain ⟨⟨q1, rfl⟩ | ⟨q1, rfl⟩, rfl⟩ := hp
  · skip
    exact kret _ _ _ _ _ _ (Nat.le_refl _) (Nat.le_refl _) dX4_isEntry_11 rfl (⟨Or.inl ⟨q1, rfl⟩, rfl⟩)
  · skip
    exact kret _ _ _ _ _ _ (Nat.le_refl _) (Nat.le_refl _) dX4_isEntry_11 rfl (⟨Or.inr ⟨q1, rfl⟩, rfl⟩)

abbrev rmX4_frame : Room := { frames := 0, cells := 0, slots := 0, locals := 0 }
theorem hinX4_frame : ∀ w ∈ u_ws RX4 TX4 29, w ∈ wsX4_frame := by decide +kernel
theorem fwX4_frame_81 : Cond.fieldLink RX4 81 "CastdeskModel" "thrown" "I" ∈ wsX4_frame := by decide +kernel
theorem fwX4_frame_115 : Cond.fieldLink RX4 115 "CastdeskModel" "now" "I" ∈ wsX4_frame := by decide +kernel
set_option maxHeartbeats 4000000 in
set_option maxRecDepth 100000 in
theorem tX4_frame {E : kE} {b : Nat → Nat} (hb : binj b) (st : kM) (h0 : kH)  : kCi E yX4_frame wsX4_frame rmX4_frame 0 0 [.ref (b 29)] (ov E b st h0) (fun r h' => r = st 1 0 ∧ h' = ov E b (ms st 0 0) h0) := by
  refine kCi_of (rt := .int) (own := RX4) (cc := cX4_frame) (maxL := 1) (by decide) rfl rfl (Nat.le_of_ble_eq_true rfl) ?_
  intro X _ kret
  refine r_lo (lo' := [(0, .ref (b 29))]) [0] rfl ?_
  refine r_aload_n dX4_frame_0 0 rfl ?_
  refine r_iconst (v := 0) dX4_frame_1 (by decide) ?_
  refine m_puti hb hinX4_frame 0 (by decide) rfl dX4_frame_2 fwX4_frame_81 rfl rfl rfl ?_
  refine r_aload_n dX4_frame_5 0 rfl ?_
  refine m_geti (v := st 1 0) hb hinX4_frame 1 (by decide) rfl dX4_frame_6 fwX4_frame_115 rfl rfl ?_
  exact kret _ _ _ _ _ _ (Nat.le_refl _) (Nat.le_refl _) dX4_frame_9 rfl (⟨rfl, rfl⟩)

abbrev rmX4_seen : Room := { frames := 0, cells := 0, slots := 0, locals := 0 }
theorem hinX4_seen : ∀ w ∈ u_ws RX4 TX4 29, w ∈ wsX4_seen := by decide +kernel
theorem fwX4_seen_13 : Cond.fieldLink RX4 13 "CastdeskModel" "seen" "I" ∈ wsX4_seen := by decide +kernel
theorem fwX4_seen_81 : Cond.fieldLink RX4 81 "CastdeskModel" "thrown" "I" ∈ wsX4_seen := by decide +kernel
set_option maxHeartbeats 4000000 in
set_option maxRecDepth 100000 in
theorem tX4_seen {E : kE} {b : Nat → Nat} (hb : binj b) (st : kM) (h0 : kH)  : kCi E yX4_seen wsX4_seen rmX4_seen 0 0 [.ref (b 29)] (ov E b st h0) (fun r h' => r = st 3 0 ∧ h' = ov E b (ms st 0 0) h0) := by
  refine kCi_of (rt := .int) (own := RX4) (cc := cX4_seen) (maxL := 1) (by decide) rfl rfl (Nat.le_of_ble_eq_true rfl) ?_
  intro X _ kret
  refine r_lo (lo' := [(0, .ref (b 29))]) [0] rfl ?_
  refine r_aload_n dX4_seen_0 0 rfl ?_
  refine r_iconst (v := 0) dX4_seen_1 (by decide) ?_
  refine m_puti hb hinX4_seen 0 (by decide) rfl dX4_seen_2 fwX4_seen_81 rfl rfl rfl ?_
  refine r_aload_n dX4_seen_5 0 rfl ?_
  refine m_geti (v := st 3 0) hb hinX4_seen 3 (by decide) rfl dX4_seen_6 fwX4_seen_13 rfl rfl ?_
  exact kret _ _ _ _ _ _ (Nat.le_refl _) (Nat.le_refl _) dX4_seen_9 rfl (⟨rfl, rfl⟩)

abbrev rmX4_rank : Room := { frames := 2, cells := 0, slots := 0, locals := 42 }
theorem hinX4_rank : ∀ w ∈ u_ws RX4 TX4 29, w ∈ wsX4_rank := by decide +kernel
theorem fwX4_rank_16 : Cond.fieldLink RX4 16 "CastdeskModel" "ranks" "[I" ∈ wsX4_rank := by decide +kernel
set_option maxHeartbeats 4000000 in
set_option maxRecDepth 100000 in
theorem tX4_rank {E : kE} {b : Nat → Nat} (hb : binj b) (st : kM) (h0 : kH) (x y : Int32) : kCi E yX4_rank wsX4_rank rmX4_rank 0 0 [.ref (b 29), .int x, .int y] (ov E b st h0) (fun r h' => r = (mrank st x y).1 ∧ h' = ov E b (mrank st x y).2 h0) := by
  refine kCi_of (rt := .int) (own := RX4) (cc := cX4_rank) (maxL := 4) (by decide) rfl rfl (Nat.le_of_ble_eq_true rfl) ?_
  intro X _ kret
  refine r_lo (lo' := [(0, .ref (b 29)), (1, .int x), (2, .int y)]) [0, 1, 2] rfl ?_
  refine r_aload_n dX4_rank_0 0 rfl ?_
  refine r_iload_n dX4_rank_1 1 rfl ?_
  refine r_callSi (nn := 1) (As := [.int x]) (st := [.ref (b 29)]) dX4_rank_2 (tX4_isPlayer _ x) gX4_rank_X4_isPlayer rfl (by decide +kernel) ⟨Nat.le_of_ble_eq_true rfl, Nat.le_of_ble_eq_true rfl⟩ ⟨rfl, rfl⟩ rfl (Nat.le_of_ble_eq_true rfl) ⟨Nat.le_of_ble_eq_true rfl, Nat.le_of_ble_eq_true rfl⟩ rfl (fun r hh hp => ?_)
  obtain ⟨⟨q1, rfl⟩ | ⟨q1, rfl⟩, rfl⟩ := hp
  · skip
    obtain ⟨o, ho, rfl⟩ := inr_nat (m := 9) (by decide) q1
    have eo : (nI o).toNatClampNeg = o := nI_clamp (by omega)
    refine r_if_ne (tgt := 12) dX4_rank_5 (by decide) (fun _ => ?_) (fun z => absurd z (by decide))
    refine r_iload_n dX4_rank_12 2 rfl ?_
    refine r_iconst (v := 0) dX4_rank_13 (by decide) ?_
    refine r_bipush (v := 99) dX4_rank_14 (by decide) ?_
    refine r_callSi (nn := 3) (As := [.int y, .int 0, .int 99]) (st := [.ref (b 29)]) dX4_rank_16 (tX4_in _ y 0 99) gX4_rank_X4_in rfl (by decide +kernel) ⟨Nat.le_of_ble_eq_true rfl, Nat.le_of_ble_eq_true rfl⟩ ⟨rfl, rfl⟩ rfl (Nat.le_of_ble_eq_true rfl) ⟨Nat.le_of_ble_eq_true rfl, Nat.le_of_ble_eq_true rfl⟩ rfl (fun r hh hp => ?_)
    obtain ⟨⟨q2, rfl⟩ | ⟨q2, rfl⟩, rfl⟩ := hp
    · skip
      refine r_if_ne (tgt := 26) dX4_rank_19 (by decide) (fun _ => ?_) (fun z => absurd z (by decide))
      refine r_iconst (v := 0) dX4_rank_26 (by decide) ?_
      refine r_callVi (nn := 1) (As := [.int 0]) (st := []) dX4_rank_27 (tX4_refused hb st h0 0) gX4_rank_X4_refused rfl (by decide +kernel) ⟨Nat.le_of_ble_eq_true rfl, Nat.le_of_ble_eq_true rfl⟩ ⟨rfl, rfl⟩ (ov_obj hb _ _) rfl rfl (Nat.le_of_ble_eq_true rfl) ⟨Nat.le_of_ble_eq_true rfl, Nat.le_of_ble_eq_true rfl⟩ rfl (fun r hh hp => ?_)
      obtain ⟨hr9, rfl⟩ := hp
      rw [show (if (0 : Int32) = 0 then (0 : Int32) else 1) = 0 from by decide] at hr9
      subst hr9
      refine r_if_eq (tgt := 35) dX4_rank_30 (by decide) (fun _ => ?_) (fun z => absurd z (by decide))
      refine r_aload_n dX4_rank_35 0 rfl ?_
      refine m_geta hb hinX4_rank 4 (by decide) rfl dX4_rank_36 fwX4_rank_16 rfl ?_
      refine r_iload_n dX4_rank_39 1 rfl ?_
      refine m_ald (v := st 4 o) hb 4 o (by decide) dX4_rank_40 rfl (by show _ < 10; omega) (by decide) rfl ?_
      refine r_istore_n (lo' := [(3, .int (st 4 o)), (0, .ref (b 29)), (1, .int (nI o)), (2, .int y)]) dX4_rank_41 (by decide) rfl ?_
      refine r_aload_n dX4_rank_42 1 rfl ?_
      refine m_geta hb hinX4_rank 4 (by decide) rfl dX4_rank_43 fwX4_rank_16 rfl ?_
      refine r_iload_n dX4_rank_46 2 rfl ?_
      refine r_iload_n dX4_rank_47 3 rfl ?_
      refine m_ast hb 4 o (by decide) dX4_rank_48 rfl (by show _ < 10; omega) (by decide) ?_
      refine r_iload_n dX4_rank_49 0 rfl ?_
      exact kret _ _ _ _ _ _ (Nat.le_refl _) (Nat.le_refl _) dX4_rank_50 rfl (⟨by simp [mrank, ms, ma, q1, eo, q2], by simp [mrank, ms, ma, q1, eo, q2]⟩)
    · skip
      refine r_if_ne (tgt := 26) dX4_rank_19 (by decide) (fun z => absurd z (by decide)) (fun _ => ?_)
      refine r_iconst (v := 2) dX4_rank_22 (by decide) ?_
      refine r_goto (tgt := 27) dX4_rank_23 (by decide) ?_
      refine r_callVi (nn := 1) (As := [.int 2]) (st := []) dX4_rank_27 (tX4_refused hb st h0 2) gX4_rank_X4_refused rfl (by decide +kernel) ⟨Nat.le_of_ble_eq_true rfl, Nat.le_of_ble_eq_true rfl⟩ ⟨rfl, rfl⟩ (ov_obj hb _ _) rfl rfl (Nat.le_of_ble_eq_true rfl) ⟨Nat.le_of_ble_eq_true rfl, Nat.le_of_ble_eq_true rfl⟩ rfl (fun r hh hp => ?_)
      obtain ⟨hr9, rfl⟩ := hp
      rw [show (if (2 : Int32) = 0 then (0 : Int32) else 1) = 1 from by decide] at hr9
      subst hr9
      refine r_if_eq (tgt := 35) dX4_rank_30 (by decide) (fun z => absurd z (by decide)) (fun _ => ?_)
      refine r_iconst (v := 0) dX4_rank_33 (by decide) ?_
      exact kret _ _ _ _ _ _ (Nat.le_refl _) (Nat.le_refl _) dX4_rank_34 rfl (⟨by simp [mrank, ms, ma, q1, eo, q2], by simp [mrank, ms, ma, q1, eo, q2]⟩)
  · skip
    refine r_if_ne (tgt := 12) dX4_rank_5 (by decide) (fun z => absurd z (by decide)) (fun _ => ?_)
    refine r_iconst (v := 1) dX4_rank_8 (by decide) ?_
    refine r_goto (tgt := 27) dX4_rank_9 (by decide) ?_
    refine r_callVi (nn := 1) (As := [.int 1]) (st := []) dX4_rank_27 (tX4_refused hb st h0 1) gX4_rank_X4_refused rfl (by decide +kernel) ⟨Nat.le_of_ble_eq_true rfl, Nat.le_of_ble_eq_true rfl⟩ ⟨rfl, rfl⟩ (ov_obj hb _ _) rfl rfl (Nat.le_of_ble_eq_true rfl) ⟨Nat.le_of_ble_eq_true rfl, Nat.le_of_ble_eq_true rfl⟩ rfl (fun r hh hp => ?_)
    obtain ⟨hr9, rfl⟩ := hp
    rw [show (if (1 : Int32) = 0 then (0 : Int32) else 1) = 1 from by decide] at hr9
    subst hr9
    refine r_if_eq (tgt := 35) dX4_rank_30 (by decide) (fun z => absurd z (by decide)) (fun _ => ?_)
    refine r_iconst (v := 0) dX4_rank_33 (by decide) ?_
    exact kret _ _ _ _ _ _ (Nat.le_refl _) (Nat.le_refl _) dX4_rank_34 rfl (⟨by simp [mrank, ms, ma, q1], by simp [mrank, ms, ma, q1]⟩)

