abbrev rmL_slot : Room := { frames := 8, cells := 12, slots := 500, locals := 133 }
theorem clL_slot_13 : Cond.classLink RL 13 "java/lang/IndexOutOfBoundsException" ∈ wsL_slot := by decide +kernel
theorem clL_slot_20 : Cond.classLink RL 20 "java/lang/IllegalStateException" ∈ wsL_slot := by decide +kernel
set_option maxHeartbeats 4000000 in
set_option maxRecDepth 100000 in
theorem tL_slot {E : kE} {a cap : Nat → Nat} {h0 : kH} {st dt : kM} {nF nC nE w : Nat} (hg : dgeo E a cap nF nC nE h0) (R : dR st dt nF nC nE w) {po : Nat} {f : Nat → Int64} (hpo : h0 po = some (.inl (kJ E, 1, .inr (.inl f)))) (x y : Int32) : kXi E yL_slot wsL_slot rmL_slot 12 500 [.ref (a 15), .int x, .int y, .ref po] (dw E a cap nF nC nE dt h0) (fun _ _ => False) (LPost E a h0 po (mslot st x y)) := by
  have hpn : h0 po ≠ none := by rw [hpo]; simp
  refine kXi_ofH (rt := .int) (own := RL) (cc := cL_slot) (maxL := 5) (hh := [(0, 10, 13, 13), (0, 10, 17, 20)]) (by decide) rfl rfl (Nat.le_of_ble_eq_true rfl) ?_
  intro X htb kret
  refine r_lo (lo' := [(0, .ref (a 15)), (1, .int x), (2, .int y), (3, .ref po)]) [0, 1, 2, 3] rfl ?_
  refine r_aload_n dL_slot_0 3 rfl ?_
  refine r_iconst (v := 0) dL_slot_1 (by decide) ?_
  refine r_aload_n dL_slot_2 0 rfl ?_
  refine r_iload_n dL_slot_3 1 rfl ?_
  refine r_iload_n dL_slot_4 2 rfl ?_
  refine r_callXVi (nn := 2) (As := [.int x, .int y]) (st := [.int 0, .ref po]) dL_slot_5 (tX3_slot dt nF nC nE w hg R.dv x y) gL_slot_X3_slot rfl (by decide +kernel) ⟨Nat.le_of_ble_eq_true rfl, Nat.le_of_ble_eq_true rfl⟩ ⟨rfl, rfl⟩ (dw_obj hg) rfl rfl (Nat.le_of_ble_eq_true rfl) ⟨Nat.le_of_ble_eq_true rfl, Nat.le_of_ble_eq_true rfl⟩ rfl (fun Ec hh hp => ?_) (fun r hh hp => ?_)
  · obtain ⟨hp, rfl⟩ := hp
    rcases sx_slot R hp with ⟨rfl, hm⟩ | ⟨rfl, hm⟩
    · refine rx_catch (tgt := 13) (tableOf []) ⟨0, 10, 13, 13⟩ (tableOf [(0, 10, 17, 20)]) htb (fun z hz => absurd hz List.not_mem_nil) rfl (by decide) clL_slot_13 (by decide +kernel) rfl (fun q => ?_)
      refine r_astore (lo' := [(4, .ref q), (0, .ref (a 15)), (1, .int x), (2, .int y), (3, .ref po)]) dL_slot_13 (by decide) rfl ?_
      refine r_iconst (v := 1) dL_slot_15 (by decide) ?_
      exact kret _ _ _ _ _ _ (Nat.le_of_ble_eq_true rfl) (Nat.le_of_ble_eq_true rfl) dL_slot_16 rfl (LX hg R hm (by decide))
    · refine rx_catch (tgt := 17) (tableOf [(0, 10, 13, 13)]) ⟨0, 10, 17, 20⟩ (tableOf []) htb (fun z hz => by revert z; exact List.forall_mem_cons.mpr ⟨⟨by decide, kIO, clL_slot_13, by decide +kernel⟩, fun z hz => absurd hz List.not_mem_nil⟩) rfl (by decide) clL_slot_20 (by decide +kernel) rfl (fun q => ?_)
      refine r_astore (lo' := [(4, .ref q), (0, .ref (a 15)), (1, .int x), (2, .int y), (3, .ref po)]) dL_slot_17 (by decide) rfl ?_
      refine r_iconst (v := 2) dL_slot_19 (by decide) ?_
      exact kret _ _ _ _ _ _ (Nat.le_of_ble_eq_true rfl) (Nat.le_of_ble_eq_true rfl) dL_slot_20 rfl (LX hg R hm (by decide))
  · obtain ⟨g1, g2, g3, g4, rfl, rfl⟩ := hp
    refine r_i2l dL_slot_8 ?_
    refine r_last dL_slot_9 (dw_at hg hpo) (vp_in_nI (by decide) (by decide)) ?_
    rw [dw_kup hg hpn]
    refine r_goto (tgt := 21) dL_slot_10 (by decide) ?_
    refine r_iconst (v := 0) dL_slot_21 (by decide) ?_
    exact kret _ _ _ _ _ _ (Nat.le_of_ble_eq_true rfl) (Nat.le_of_ble_eq_true rfl) dL_slot_22 rfl (LK rfl hg (sk_slot R g1 g2 g3 g4))
abbrev rmL_shown : Room := { frames := 7, cells := 12, slots := 500, locals := 112 }
theorem clL_shown_13 : Cond.classLink RL 13 "java/lang/IndexOutOfBoundsException" ∈ wsL_shown := by decide +kernel
theorem clL_shown_15 : Cond.classLink RL 15 "java/lang/IllegalArgumentException" ∈ wsL_shown := by decide +kernel
set_option maxHeartbeats 4000000 in
set_option maxRecDepth 100000 in
theorem tL_shown {E : kE} {a cap : Nat → Nat} {h0 : kH} {st dt : kM} {nF nC nE w : Nat} (hg : dgeo E a cap nF nC nE h0) (R : dR st dt nF nC nE w) {po : Nat} {f : Nat → Int64} (hpo : h0 po = some (.inl (kJ E, 1, .inr (.inl f)))) (x y : Int32) : kXi E yL_shown wsL_shown rmL_shown 12 500 [.ref (a 15), .int x, .int y, .ref po] (dw E a cap nF nC nE dt h0) (fun _ _ => False) (LPost E a h0 po (mshown st x y)) := by
  have hpn : h0 po ≠ none := by rw [hpo]; simp
  refine kXi_ofH (rt := .int) (own := RL) (cc := cL_shown) (maxL := 5) (hh := [(0, 10, 13, 13), (0, 10, 17, 15)]) (by decide) rfl rfl (Nat.le_of_ble_eq_true rfl) ?_
  intro X htb kret
  refine r_lo (lo' := [(0, .ref (a 15)), (1, .int x), (2, .int y), (3, .ref po)]) [0, 1, 2, 3] rfl ?_
  refine r_aload_n dL_shown_0 3 rfl ?_
  refine r_iconst (v := 0) dL_shown_1 (by decide) ?_
  refine r_aload_n dL_shown_2 0 rfl ?_
  refine r_iload_n dL_shown_3 1 rfl ?_
  refine r_iload_n dL_shown_4 2 rfl ?_
  refine r_callXVi (nn := 2) (As := [.int x, .int y]) (st := [.int 0, .ref po]) dL_shown_5 (tX3_shown dt nF nC nE w hg R.dv x y) gL_shown_X3_shown rfl (by decide +kernel) ⟨Nat.le_of_ble_eq_true rfl, Nat.le_of_ble_eq_true rfl⟩ ⟨rfl, rfl⟩ (dw_obj hg) rfl rfl (Nat.le_of_ble_eq_true rfl) ⟨Nat.le_of_ble_eq_true rfl, Nat.le_of_ble_eq_true rfl⟩ rfl (fun Ec hh hp => ?_) (fun r hh hp => ?_)
  · obtain ⟨hp, rfl⟩ := hp
    rcases sx_shown R hp with ⟨rfl, hm⟩ | ⟨rfl, hm⟩
    · refine rx_catch (tgt := 13) (tableOf []) ⟨0, 10, 13, 13⟩ (tableOf [(0, 10, 17, 15)]) htb (fun z hz => absurd hz List.not_mem_nil) rfl (by decide) clL_shown_13 (by decide +kernel) rfl (fun q => ?_)
      refine r_astore (lo' := [(4, .ref q), (0, .ref (a 15)), (1, .int x), (2, .int y), (3, .ref po)]) dL_shown_13 (by decide) rfl ?_
      refine r_iconst (v := 1) dL_shown_15 (by decide) ?_
      exact kret _ _ _ _ _ _ (Nat.le_of_ble_eq_true rfl) (Nat.le_of_ble_eq_true rfl) dL_shown_16 rfl (LX hg R hm (by decide))
    · refine rx_catch (tgt := 17) (tableOf [(0, 10, 13, 13)]) ⟨0, 10, 17, 15⟩ (tableOf []) htb (fun z hz => by revert z; exact List.forall_mem_cons.mpr ⟨⟨by decide, kIO, clL_shown_13, by decide +kernel⟩, fun z hz => absurd hz List.not_mem_nil⟩) rfl (by decide) clL_shown_15 (by decide +kernel) rfl (fun q => ?_)
      refine r_astore (lo' := [(4, .ref q), (0, .ref (a 15)), (1, .int x), (2, .int y), (3, .ref po)]) dL_shown_17 (by decide) rfl ?_
      refine r_iconst (v := 2) dL_shown_19 (by decide) ?_
      exact kret _ _ _ _ _ _ (Nat.le_of_ble_eq_true rfl) (Nat.le_of_ble_eq_true rfl) dL_shown_20 rfl (LX hg R hm (by decide))
  · obtain ⟨g1, g2, rfl, rfl⟩ := hp
    refine r_i2l dL_shown_8 ?_
    refine r_last dL_shown_9 (dw_at hg hpo) (vp_in_nI (by decide) (by decide)) ?_
    rw [dw_kup hg hpn]
    refine r_goto (tgt := 21) dL_shown_10 (by decide) ?_
    refine r_iconst (v := 0) dL_shown_21 (by decide) ?_
    exact kret _ _ _ _ _ _ (Nat.le_of_ble_eq_true rfl) (Nat.le_of_ble_eq_true rfl) dL_shown_22 rfl (LK0 hg R (sk_shown R g1 g2))
abbrev rmL_points : Room := { frames := 8, cells := 12, slots := 500, locals := 134 }
theorem clL_points_13 : Cond.classLink RL 13 "java/lang/IndexOutOfBoundsException" ∈ wsL_points := by decide +kernel
set_option maxHeartbeats 4000000 in
set_option maxRecDepth 100000 in
theorem tL_points {E : kE} {a cap : Nat → Nat} {h0 : kH} {st dt : kM} {nF nC nE w : Nat} (hg : dgeo E a cap nF nC nE h0) (R : dR st dt nF nC nE w) {po : Nat} {f : Nat → Int64} (hpo : h0 po = some (.inl (kJ E, 1, .inr (.inl f)))) (x y : Int32) : kXi E yL_points wsL_points rmL_points 12 500 [.ref (a 15), .int x, .int y, .ref po] (dw E a cap nF nC nE dt h0) (fun _ _ => False) (LPost E a h0 po (mpoints st nE x y 3000)) := by
  have hpn : h0 po ≠ none := by rw [hpo]; simp
  refine kXi_ofH (rt := .int) (own := RL) (cc := cL_points) (maxL := 5) (hh := [(0, 10, 13, 13)]) (by decide) rfl rfl (Nat.le_of_ble_eq_true rfl) ?_
  intro X htb kret
  refine r_lo (lo' := [(0, .ref (a 15)), (1, .int x), (2, .int y), (3, .ref po)]) [0, 1, 2, 3] rfl ?_
  refine r_aload_n dL_points_0 3 rfl ?_
  refine r_iconst (v := 0) dL_points_1 (by decide) ?_
  refine r_aload_n dL_points_2 0 rfl ?_
  refine r_iload_n dL_points_3 1 rfl ?_
  refine r_iload_n dL_points_4 2 rfl ?_
  refine r_callXVi (nn := 2) (As := [.int x, .int y]) (st := [.int 0, .ref po]) dL_points_5 (tX3_points dt nF nC nE w hg R.dv x y) gL_points_X3_points rfl (by decide +kernel) ⟨Nat.le_of_ble_eq_true rfl, Nat.le_of_ble_eq_true rfl⟩ ⟨rfl, rfl⟩ (dw_obj hg) rfl rfl (Nat.le_of_ble_eq_true rfl) ⟨Nat.le_of_ble_eq_true rfl, Nat.le_of_ble_eq_true rfl⟩ rfl (fun Ec hh hp => ?_) (fun r hh hp => ?_)
  · obtain ⟨hp, rfl⟩ := hp
    rcases sx_points R hp with ⟨rfl, hm⟩
    · refine rx_catch (tgt := 13) (tableOf []) ⟨0, 10, 13, 13⟩ (tableOf []) htb (fun z hz => absurd hz List.not_mem_nil) rfl (by decide) clL_points_13 (by decide +kernel) rfl (fun q => ?_)
      refine r_astore (lo' := [(4, .ref q), (0, .ref (a 15)), (1, .int x), (2, .int y), (3, .ref po)]) dL_points_13 (by decide) rfl ?_
      refine r_iconst (v := 1) dL_points_15 (by decide) ?_
      exact kret _ _ _ _ _ _ (Nat.le_of_ble_eq_true rfl) (Nat.le_of_ble_eq_true rfl) dL_points_16 rfl (LX hg R hm (by decide))
  · obtain ⟨o, ho, rfl, g1, rfl, rfl⟩ := hp
    refine r_i2l dL_points_8 ?_
    refine r_last dL_points_9 (dw_at hg hpo) (vp_in_nI (by decide) (by decide)) ?_
    rw [dw_kup hg hpn]
    refine r_goto (tgt := 17) dL_points_10 (by decide) ?_
    refine r_iconst (v := 0) dL_points_17 (by decide) ?_
    exact kret _ _ _ _ _ _ (Nat.le_of_ble_eq_true rfl) (Nat.le_of_ble_eq_true rfl) dL_points_18 rfl (LK0 hg R (sk_points R ho g1))
abbrev rmL_overlay : Room := { frames := 8, cells := 12, slots := 500, locals := 134 }
theorem clL_overlay_13 : Cond.classLink RL 13 "java/lang/IndexOutOfBoundsException" ∈ wsL_overlay := by decide +kernel
set_option maxHeartbeats 4000000 in
set_option maxRecDepth 100000 in
theorem tL_overlay {E : kE} {a cap : Nat → Nat} {h0 : kH} {st dt : kM} {nF nC nE w : Nat} (hg : dgeo E a cap nF nC nE h0) (R : dR st dt nF nC nE w) {po : Nat} {f : Nat → Int64} (hpo : h0 po = some (.inl (kJ E, 1, .inr (.inl f)))) (x y : Int32) : kXi E yL_overlay wsL_overlay rmL_overlay 12 500 [.ref (a 15), .int x, .int y, .ref po] (dw E a cap nF nC nE dt h0) (fun _ _ => False) (LPost E a h0 po (mpoints st nE x y (st 3 0))) := by
  have hpn : h0 po ≠ none := by rw [hpo]; simp
  refine kXi_ofH (rt := .int) (own := RL) (cc := cL_overlay) (maxL := 5) (hh := [(0, 10, 13, 13)]) (by decide) rfl rfl (Nat.le_of_ble_eq_true rfl) ?_
  intro X htb kret
  refine r_lo (lo' := [(0, .ref (a 15)), (1, .int x), (2, .int y), (3, .ref po)]) [0, 1, 2, 3] rfl ?_
  refine r_aload_n dL_overlay_0 3 rfl ?_
  refine r_iconst (v := 0) dL_overlay_1 (by decide) ?_
  refine r_aload_n dL_overlay_2 0 rfl ?_
  refine r_iload_n dL_overlay_3 1 rfl ?_
  refine r_iload_n dL_overlay_4 2 rfl ?_
  refine r_callXVi (nn := 2) (As := [.int x, .int y]) (st := [.int 0, .ref po]) dL_overlay_5 (tX3_overlay dt nF nC nE w hg R.dv x y) gL_overlay_X3_overlay rfl (by decide +kernel) ⟨Nat.le_of_ble_eq_true rfl, Nat.le_of_ble_eq_true rfl⟩ ⟨rfl, rfl⟩ (dw_obj hg) rfl rfl (Nat.le_of_ble_eq_true rfl) ⟨Nat.le_of_ble_eq_true rfl, Nat.le_of_ble_eq_true rfl⟩ rfl (fun Ec hh hp => ?_) (fun r hh hp => ?_)
  · obtain ⟨hp, rfl⟩ := hp
    rcases sx_points R hp with ⟨rfl, hm⟩
    · refine rx_catch (tgt := 13) (tableOf []) ⟨0, 10, 13, 13⟩ (tableOf []) htb (fun z hz => absurd hz List.not_mem_nil) rfl (by decide) clL_overlay_13 (by decide +kernel) rfl (fun q => ?_)
      refine r_astore (lo' := [(4, .ref q), (0, .ref (a 15)), (1, .int x), (2, .int y), (3, .ref po)]) dL_overlay_13 (by decide) rfl ?_
      refine r_iconst (v := 1) dL_overlay_15 (by decide) ?_
      exact kret _ _ _ _ _ _ (Nat.le_of_ble_eq_true rfl) (Nat.le_of_ble_eq_true rfl) dL_overlay_16 rfl (LX hg R hm (by decide))
  · obtain ⟨o, ho, rfl, g1, rfl, rfl⟩ := hp
    refine r_i2l dL_overlay_8 ?_
    refine r_last dL_overlay_9 (dw_at hg hpo) (vp_in_nI (by decide) (by decide)) ?_
    rw [dw_kup hg hpn]
    refine r_goto (tgt := 17) dL_overlay_10 (by decide) ?_
    refine r_iconst (v := 0) dL_overlay_17 (by decide) ?_
    exact kret _ _ _ _ _ _ (Nat.le_of_ble_eq_true rfl) (Nat.le_of_ble_eq_true rfl) dL_overlay_18 rfl (LK0 hg R (sk_overlay R ho g1))
abbrev rmL_fightOf : Room := { frames := 8, cells := 12, slots := 500, locals := 134 }
theorem clL_fightOf_13 : Cond.classLink RL 13 "java/lang/IndexOutOfBoundsException" ∈ wsL_fightOf := by decide +kernel
theorem clL_fightOf_15 : Cond.classLink RL 15 "java/lang/IllegalArgumentException" ∈ wsL_fightOf := by decide +kernel
set_option maxHeartbeats 4000000 in
set_option maxRecDepth 100000 in
theorem tL_fightOf {E : kE} {a cap : Nat → Nat} {h0 : kH} {st dt : kM} {nF nC nE w : Nat} (hg : dgeo E a cap nF nC nE h0) (R : dR st dt nF nC nE w) {po : Nat} {f : Nat → Int64} (hpo : h0 po = some (.inl (kJ E, 1, .inr (.inl f)))) (x y : Int32) : kXi E yL_fightOf wsL_fightOf rmL_fightOf 12 500 [.ref (a 15), .int x, .int y, .ref po] (dw E a cap nF nC nE dt h0) (fun _ _ => False) (LPost E a h0 po (mfightOf st w x y)) := by
  have hpn : h0 po ≠ none := by rw [hpo]; simp
  refine kXi_ofH (rt := .int) (own := RL) (cc := cL_fightOf) (maxL := 5) (hh := [(0, 10, 13, 13), (0, 10, 17, 15)]) (by decide) rfl rfl (Nat.le_of_ble_eq_true rfl) ?_
  intro X htb kret
  refine r_lo (lo' := [(0, .ref (a 15)), (1, .int x), (2, .int y), (3, .ref po)]) [0, 1, 2, 3] rfl ?_
  refine r_aload_n dL_fightOf_0 3 rfl ?_
  refine r_iconst (v := 0) dL_fightOf_1 (by decide) ?_
  refine r_aload_n dL_fightOf_2 0 rfl ?_
  refine r_iload_n dL_fightOf_3 1 rfl ?_
  refine r_iload_n dL_fightOf_4 2 rfl ?_
  refine r_callXVi (nn := 2) (As := [.int x, .int y]) (st := [.int 0, .ref po]) dL_fightOf_5 (tX3_fightOf dt nF nC nE w hg R.dv x y) gL_fightOf_X3_fightOf rfl (by decide +kernel) ⟨Nat.le_of_ble_eq_true rfl, Nat.le_of_ble_eq_true rfl⟩ ⟨rfl, rfl⟩ (dw_obj hg) rfl rfl (Nat.le_of_ble_eq_true rfl) ⟨Nat.le_of_ble_eq_true rfl, Nat.le_of_ble_eq_true rfl⟩ rfl (fun Ec hh hp => ?_) (fun r hh hp => ?_)
  · obtain ⟨hp, rfl⟩ := hp
    rcases sx_fightOf R hp with ⟨rfl, hm⟩ | ⟨rfl, hm⟩
    · refine rx_catch (tgt := 13) (tableOf []) ⟨0, 10, 13, 13⟩ (tableOf [(0, 10, 17, 15)]) htb (fun z hz => absurd hz List.not_mem_nil) rfl (by decide) clL_fightOf_13 (by decide +kernel) rfl (fun q => ?_)
      refine r_astore (lo' := [(4, .ref q), (0, .ref (a 15)), (1, .int x), (2, .int y), (3, .ref po)]) dL_fightOf_13 (by decide) rfl ?_
      refine r_iconst (v := 1) dL_fightOf_15 (by decide) ?_
      exact kret _ _ _ _ _ _ (Nat.le_of_ble_eq_true rfl) (Nat.le_of_ble_eq_true rfl) dL_fightOf_16 rfl (LX hg R hm (by decide))
    · refine rx_catch (tgt := 17) (tableOf [(0, 10, 13, 13)]) ⟨0, 10, 17, 15⟩ (tableOf []) htb (fun z hz => by revert z; exact List.forall_mem_cons.mpr ⟨⟨by decide, kIO, clL_fightOf_13, by decide +kernel⟩, fun z hz => absurd hz List.not_mem_nil⟩) rfl (by decide) clL_fightOf_15 (by decide +kernel) rfl (fun q => ?_)
      refine r_astore (lo' := [(4, .ref q), (0, .ref (a 15)), (1, .int x), (2, .int y), (3, .ref po)]) dL_fightOf_17 (by decide) rfl ?_
      refine r_iconst (v := 2) dL_fightOf_19 (by decide) ?_
      exact kret _ _ _ _ _ _ (Nat.le_of_ble_eq_true rfl) (Nat.le_of_ble_eq_true rfl) dL_fightOf_20 rfl (LX hg R hm (by decide))
  · obtain ⟨o, ho, rfl, g1, rfl, rfl⟩ := hp
    refine r_i2l dL_fightOf_8 ?_
    refine r_last dL_fightOf_9 (dw_at hg hpo) (vp_in_nI (by decide) (by decide)) ?_
    rw [dw_kup hg hpn]
    refine r_goto (tgt := 21) dL_fightOf_10 (by decide) ?_
    refine r_iconst (v := 0) dL_fightOf_21 (by decide) ?_
    exact kret _ _ _ _ _ _ (Nat.le_of_ble_eq_true rfl) (Nat.le_of_ble_eq_true rfl) dL_fightOf_22 rfl (LK0 hg R (sk_fightOf R ho g1))
abbrev rmL_cameraOf : Room := { frames := 7, cells := 12, slots := 500, locals := 113 }
theorem clL_cameraOf_13 : Cond.classLink RL 13 "java/lang/IndexOutOfBoundsException" ∈ wsL_cameraOf := by decide +kernel
theorem clL_cameraOf_15 : Cond.classLink RL 15 "java/lang/IllegalArgumentException" ∈ wsL_cameraOf := by decide +kernel
set_option maxHeartbeats 4000000 in
set_option maxRecDepth 100000 in
theorem tL_cameraOf {E : kE} {a cap : Nat → Nat} {h0 : kH} {st dt : kM} {nF nC nE w : Nat} (hg : dgeo E a cap nF nC nE h0) (R : dR st dt nF nC nE w) {po : Nat} {f : Nat → Int64} (hpo : h0 po = some (.inl (kJ E, 1, .inr (.inl f)))) (x y : Int32) : kXi E yL_cameraOf wsL_cameraOf rmL_cameraOf 12 500 [.ref (a 15), .int x, .int y, .ref po] (dw E a cap nF nC nE dt h0) (fun _ _ => False) (LPost E a h0 po (mcameraOf st x y)) := by
  have hpn : h0 po ≠ none := by rw [hpo]; simp
  refine kXi_ofH (rt := .int) (own := RL) (cc := cL_cameraOf) (maxL := 5) (hh := [(0, 10, 13, 13), (0, 10, 17, 15)]) (by decide) rfl rfl (Nat.le_of_ble_eq_true rfl) ?_
  intro X htb kret
  refine r_lo (lo' := [(0, .ref (a 15)), (1, .int x), (2, .int y), (3, .ref po)]) [0, 1, 2, 3] rfl ?_
  refine r_aload_n dL_cameraOf_0 3 rfl ?_
  refine r_iconst (v := 0) dL_cameraOf_1 (by decide) ?_
  refine r_aload_n dL_cameraOf_2 0 rfl ?_
  refine r_iload_n dL_cameraOf_3 1 rfl ?_
  refine r_iload_n dL_cameraOf_4 2 rfl ?_
  refine r_callXVi (nn := 2) (As := [.int x, .int y]) (st := [.int 0, .ref po]) dL_cameraOf_5 (tX3_cameraOf dt nF nC nE w hg R.dv x y) gL_cameraOf_X3_cameraOf rfl (by decide +kernel) ⟨Nat.le_of_ble_eq_true rfl, Nat.le_of_ble_eq_true rfl⟩ ⟨rfl, rfl⟩ (dw_obj hg) rfl rfl (Nat.le_of_ble_eq_true rfl) ⟨Nat.le_of_ble_eq_true rfl, Nat.le_of_ble_eq_true rfl⟩ rfl (fun Ec hh hp => ?_) (fun r hh hp => ?_)
  · obtain ⟨hp, rfl⟩ := hp
    rcases sx_cameraOf R hp with ⟨rfl, hm⟩ | ⟨rfl, hm⟩
    · refine rx_catch (tgt := 13) (tableOf []) ⟨0, 10, 13, 13⟩ (tableOf [(0, 10, 17, 15)]) htb (fun z hz => absurd hz List.not_mem_nil) rfl (by decide) clL_cameraOf_13 (by decide +kernel) rfl (fun q => ?_)
      refine r_astore (lo' := [(4, .ref q), (0, .ref (a 15)), (1, .int x), (2, .int y), (3, .ref po)]) dL_cameraOf_13 (by decide) rfl ?_
      refine r_iconst (v := 1) dL_cameraOf_15 (by decide) ?_
      exact kret _ _ _ _ _ _ (Nat.le_of_ble_eq_true rfl) (Nat.le_of_ble_eq_true rfl) dL_cameraOf_16 rfl (LX hg R hm (by decide))
    · refine rx_catch (tgt := 17) (tableOf [(0, 10, 13, 13)]) ⟨0, 10, 17, 15⟩ (tableOf []) htb (fun z hz => by revert z; exact List.forall_mem_cons.mpr ⟨⟨by decide, kIO, clL_cameraOf_13, by decide +kernel⟩, fun z hz => absurd hz List.not_mem_nil⟩) rfl (by decide) clL_cameraOf_15 (by decide +kernel) rfl (fun q => ?_)
      refine r_astore (lo' := [(4, .ref q), (0, .ref (a 15)), (1, .int x), (2, .int y), (3, .ref po)]) dL_cameraOf_17 (by decide) rfl ?_
      refine r_iconst (v := 2) dL_cameraOf_19 (by decide) ?_
      exact kret _ _ _ _ _ _ (Nat.le_of_ble_eq_true rfl) (Nat.le_of_ble_eq_true rfl) dL_cameraOf_20 rfl (LX hg R hm (by decide))
  · obtain ⟨o, ho, rfl, g1, rfl, rfl⟩ := hp
    refine r_i2l dL_cameraOf_8 ?_
    refine r_last dL_cameraOf_9 (dw_at hg hpo) (vp_in_nI (by decide) (by decide)) ?_
    rw [dw_kup hg hpn]
    refine r_goto (tgt := 21) dL_cameraOf_10 (by decide) ?_
    refine r_iconst (v := 0) dL_cameraOf_21 (by decide) ?_
    exact kret _ _ _ _ _ _ (Nat.le_of_ble_eq_true rfl) (Nat.le_of_ble_eq_true rfl) dL_cameraOf_22 rfl (LK0 hg R (sk_cameraOf R ho g1))
abbrev rmL_counted : Room := { frames := 8, cells := 12, slots := 500, locals := 131 }
theorem clL_counted_13 : Cond.classLink RL 13 "java/lang/IndexOutOfBoundsException" ∈ wsL_counted := by decide +kernel
set_option maxHeartbeats 4000000 in
set_option maxRecDepth 100000 in
theorem tL_counted {E : kE} {a cap : Nat → Nat} {h0 : kH} {st dt : kM} {nF nC nE w : Nat} (hg : dgeo E a cap nF nC nE h0) (R : dR st dt nF nC nE w) {po : Nat} {f : Nat → Int64} (hpo : h0 po = some (.inl (kJ E, 1, .inr (.inl f)))) (x : Int32) : kXi E yL_counted wsL_counted rmL_counted 12 500 [.ref (a 15), .int x, .ref po] (dw E a cap nF nC nE dt h0) (fun _ _ => False) (LPost E a h0 po (mcounted st w x)) := by
  have hpn : h0 po ≠ none := by rw [hpo]; simp
  refine kXi_ofH (rt := .int) (own := RL) (cc := cL_counted) (maxL := 4) (hh := [(0, 9, 12, 13)]) (by decide) rfl rfl (Nat.le_of_ble_eq_true rfl) ?_
  intro X htb kret
  refine r_lo (lo' := [(0, .ref (a 15)), (1, .int x), (2, .ref po)]) [0, 1, 2] rfl ?_
  refine r_aload_n dL_counted_0 2 rfl ?_
  refine r_iconst (v := 0) dL_counted_1 (by decide) ?_
  refine r_aload_n dL_counted_2 0 rfl ?_
  refine r_iload_n dL_counted_3 1 rfl ?_
  refine r_callXVi (nn := 1) (As := [.int x]) (st := [.int 0, .ref po]) dL_counted_4 (tX3_counted dt nF nC nE w hg R.dv x) gL_counted_X3_counted rfl (by decide +kernel) ⟨Nat.le_of_ble_eq_true rfl, Nat.le_of_ble_eq_true rfl⟩ ⟨rfl, rfl⟩ (dw_obj hg) rfl rfl (Nat.le_of_ble_eq_true rfl) ⟨Nat.le_of_ble_eq_true rfl, Nat.le_of_ble_eq_true rfl⟩ rfl (fun Ec hh hp => ?_) (fun r hh hp => ?_)
  · obtain ⟨hp, rfl⟩ := hp
    rcases sx_counted R hp with ⟨rfl, hm⟩
    · refine rx_catch (tgt := 12) (tableOf []) ⟨0, 9, 12, 13⟩ (tableOf []) htb (fun z hz => absurd hz List.not_mem_nil) rfl (by decide) clL_counted_13 (by decide +kernel) rfl (fun q => ?_)
      refine r_astore_n (lo' := [(3, .ref q), (0, .ref (a 15)), (1, .int x), (2, .ref po)]) dL_counted_12 (by decide) rfl ?_
      refine r_iconst (v := 1) dL_counted_13 (by decide) ?_
      exact kret _ _ _ _ _ _ (Nat.le_of_ble_eq_true rfl) (Nat.le_of_ble_eq_true rfl) dL_counted_14 rfl (LX hg R hm (by decide))
  · obtain ⟨g1, rfl, rfl⟩ := hp
    refine r_i2l dL_counted_7 ?_
    refine r_last dL_counted_8 (dw_at hg hpo) (vp_in_nI (by decide) (by decide)) ?_
    rw [dw_kup hg hpn]
    refine r_goto (tgt := 15) dL_counted_9 (by decide) ?_
    refine r_iconst (v := 0) dL_counted_15 (by decide) ?_
    exact kret _ _ _ _ _ _ (Nat.le_of_ble_eq_true rfl) (Nat.le_of_ble_eq_true rfl) dL_counted_16 rfl (LK0 hg R (⟨(sk_counted R g1).1, (sk_counted R g1).2.1⟩))
abbrev rmL_countedAnew : Room := { frames := 8, cells := 12, slots := 500, locals := 133 }
theorem clL_countedAnew_13 : Cond.classLink RL 13 "java/lang/IndexOutOfBoundsException" ∈ wsL_countedAnew := by decide +kernel
set_option maxHeartbeats 4000000 in
set_option maxRecDepth 100000 in
theorem tL_countedAnew {E : kE} {a cap : Nat → Nat} {h0 : kH} {st dt : kM} {nF nC nE w : Nat} (hg : dgeo E a cap nF nC nE h0) (R : dR st dt nF nC nE w) {po : Nat} {f : Nat → Int64} (hpo : h0 po = some (.inl (kJ E, 1, .inr (.inl f)))) (x : Int32) : kXi E yL_countedAnew wsL_countedAnew rmL_countedAnew 12 500 [.ref (a 15), .int x, .ref po] (dw E a cap nF nC nE dt h0) (fun _ _ => False) (LPost E a h0 po (mcounted st w x)) := by
  have hpn : h0 po ≠ none := by rw [hpo]; simp
  refine kXi_ofH (rt := .int) (own := RL) (cc := cL_countedAnew) (maxL := 4) (hh := [(0, 9, 12, 13)]) (by decide) rfl rfl (Nat.le_of_ble_eq_true rfl) ?_
  intro X htb kret
  refine r_lo (lo' := [(0, .ref (a 15)), (1, .int x), (2, .ref po)]) [0, 1, 2] rfl ?_
  refine r_aload_n dL_countedAnew_0 2 rfl ?_
  refine r_iconst (v := 0) dL_countedAnew_1 (by decide) ?_
  refine r_aload_n dL_countedAnew_2 0 rfl ?_
  refine r_iload_n dL_countedAnew_3 1 rfl ?_
  refine r_callXVi (nn := 1) (As := [.int x]) (st := [.int 0, .ref po]) dL_countedAnew_4 (tX3_countedAnew dt nF nC nE w hg R.dv x) gL_countedAnew_X3_countedAnew rfl (by decide +kernel) ⟨Nat.le_of_ble_eq_true rfl, Nat.le_of_ble_eq_true rfl⟩ ⟨rfl, rfl⟩ (dw_obj hg) rfl rfl (Nat.le_of_ble_eq_true rfl) ⟨Nat.le_of_ble_eq_true rfl, Nat.le_of_ble_eq_true rfl⟩ rfl (fun Ec hh hp => ?_) (fun r hh hp => ?_)
  · obtain ⟨hp, rfl⟩ := hp
    rcases sx_counted R hp with ⟨rfl, hm⟩
    · refine rx_catch (tgt := 12) (tableOf []) ⟨0, 9, 12, 13⟩ (tableOf []) htb (fun z hz => absurd hz List.not_mem_nil) rfl (by decide) clL_countedAnew_13 (by decide +kernel) rfl (fun q => ?_)
      refine r_astore_n (lo' := [(3, .ref q), (0, .ref (a 15)), (1, .int x), (2, .ref po)]) dL_countedAnew_12 (by decide) rfl ?_
      refine r_iconst (v := 1) dL_countedAnew_13 (by decide) ?_
      exact kret _ _ _ _ _ _ (Nat.le_of_ble_eq_true rfl) (Nat.le_of_ble_eq_true rfl) dL_countedAnew_14 rfl (LX hg R hm (by decide))
  · obtain ⟨g1, rfl, rfl⟩ := hp
    refine r_i2l dL_countedAnew_7 ?_
    refine r_last dL_countedAnew_8 (dw_at hg hpo) (vp_in_nI (by decide) (by decide)) ?_
    rw [dw_kup hg hpn]
    refine r_goto (tgt := 15) dL_countedAnew_9 (by decide) ?_
    refine r_iconst (v := 0) dL_countedAnew_15 (by decide) ?_
    exact kret _ _ _ _ _ _ (Nat.le_of_ble_eq_true rfl) (Nat.le_of_ble_eq_true rfl) dL_countedAnew_16 rfl (LK0 hg R (⟨(sk_counted R g1).1, (sk_counted R g1).2.2⟩))
abbrev rmL_owed : Room := { frames := 8, cells := 12, slots := 500, locals := 131 }
theorem clL_owed_13 : Cond.classLink RL 13 "java/lang/IndexOutOfBoundsException" ∈ wsL_owed := by decide +kernel
set_option maxHeartbeats 4000000 in
set_option maxRecDepth 100000 in
theorem tL_owed {E : kE} {a cap : Nat → Nat} {h0 : kH} {st dt : kM} {nF nC nE w : Nat} (hg : dgeo E a cap nF nC nE h0) (R : dR st dt nF nC nE w) {po : Nat} {f : Nat → Int64} (hpo : h0 po = some (.inl (kJ E, 1, .inr (.inl f)))) (x : Int32) : kXi E yL_owed wsL_owed rmL_owed 12 500 [.ref (a 15), .int x, .ref po] (dw E a cap nF nC nE dt h0) (fun _ _ => False) (LPost E a h0 po (mowedP st w x)) := by
  have hpn : h0 po ≠ none := by rw [hpo]; simp
  refine kXi_ofH (rt := .int) (own := RL) (cc := cL_owed) (maxL := 4) (hh := [(0, 9, 12, 13)]) (by decide) rfl rfl (Nat.le_of_ble_eq_true rfl) ?_
  intro X htb kret
  refine r_lo (lo' := [(0, .ref (a 15)), (1, .int x), (2, .ref po)]) [0, 1, 2] rfl ?_
  refine r_aload_n dL_owed_0 2 rfl ?_
  refine r_iconst (v := 0) dL_owed_1 (by decide) ?_
  refine r_aload_n dL_owed_2 0 rfl ?_
  refine r_iload_n dL_owed_3 1 rfl ?_
  refine r_callXVi (nn := 1) (As := [.int x]) (st := [.int 0, .ref po]) dL_owed_4 (tX3_owed dt nF nC nE w hg R.dv x) gL_owed_X3_owed rfl (by decide +kernel) ⟨Nat.le_of_ble_eq_true rfl, Nat.le_of_ble_eq_true rfl⟩ ⟨rfl, rfl⟩ (dw_obj hg) rfl rfl (Nat.le_of_ble_eq_true rfl) ⟨Nat.le_of_ble_eq_true rfl, Nat.le_of_ble_eq_true rfl⟩ rfl (fun Ec hh hp => ?_) (fun r hh hp => ?_)
  · obtain ⟨hp, rfl⟩ := hp
    rcases sx_owed R hp with ⟨rfl, hm⟩
    · refine rx_catch (tgt := 12) (tableOf []) ⟨0, 9, 12, 13⟩ (tableOf []) htb (fun z hz => absurd hz List.not_mem_nil) rfl (by decide) clL_owed_13 (by decide +kernel) rfl (fun q => ?_)
      refine r_astore_n (lo' := [(3, .ref q), (0, .ref (a 15)), (1, .int x), (2, .ref po)]) dL_owed_12 (by decide) rfl ?_
      refine r_iconst (v := 1) dL_owed_13 (by decide) ?_
      exact kret _ _ _ _ _ _ (Nat.le_of_ble_eq_true rfl) (Nat.le_of_ble_eq_true rfl) dL_owed_14 rfl (LX hg R hm (by decide))
  · obtain ⟨g1, ⟨j, hj, rfl, rfl⟩, rfl⟩ := hp
    refine r_i2l dL_owed_7 ?_
    refine r_last dL_owed_8 (dw_at hg hpo) (vp_in_nI (by decide) (by decide)) ?_
    rw [dw_kup hg hpn]
    refine r_goto (tgt := 15) dL_owed_9 (by decide) ?_
    refine r_iconst (v := 0) dL_owed_15 (by decide) ?_
    exact kret _ _ _ _ _ _ (Nat.le_of_ble_eq_true rfl) (Nat.le_of_ble_eq_true rfl) dL_owed_16 rfl (LK0 hg R (sk_owed R hj g1))
abbrev rmL_leader : Room := { frames := 7, cells := 12, slots := 500, locals := 112 }
theorem clL_leader_13 : Cond.classLink RL 13 "java/lang/IndexOutOfBoundsException" ∈ wsL_leader := by decide +kernel
set_option maxHeartbeats 4000000 in
set_option maxRecDepth 100000 in
theorem tL_leader {E : kE} {a cap : Nat → Nat} {h0 : kH} {st dt : kM} {nF nC nE w : Nat} (hg : dgeo E a cap nF nC nE h0) (R : dR st dt nF nC nE w) {po : Nat} {f : Nat → Int64} (hpo : h0 po = some (.inl (kJ E, 1, .inr (.inl f)))) (x : Int32) : kXi E yL_leader wsL_leader rmL_leader 12 500 [.ref (a 15), .int x, .ref po] (dw E a cap nF nC nE dt h0) (fun _ _ => False) (LPost E a h0 po (mleader st nF x)) := by
  have hpn : h0 po ≠ none := by rw [hpo]; simp
  refine kXi_ofH (rt := .int) (own := RL) (cc := cL_leader) (maxL := 4) (hh := [(0, 9, 12, 13)]) (by decide) rfl rfl (Nat.le_of_ble_eq_true rfl) ?_
  intro X htb kret
  refine r_lo (lo' := [(0, .ref (a 15)), (1, .int x), (2, .ref po)]) [0, 1, 2] rfl ?_
  refine r_aload_n dL_leader_0 2 rfl ?_
  refine r_iconst (v := 0) dL_leader_1 (by decide) ?_
  refine r_aload_n dL_leader_2 0 rfl ?_
  refine r_iload_n dL_leader_3 1 rfl ?_
  refine r_callXVi (nn := 1) (As := [.int x]) (st := [.int 0, .ref po]) dL_leader_4 (tX3_leader dt nF nC nE w hg R.dv x) gL_leader_X3_leader rfl (by decide +kernel) ⟨Nat.le_of_ble_eq_true rfl, Nat.le_of_ble_eq_true rfl⟩ ⟨rfl, rfl⟩ (dw_obj hg) rfl rfl (Nat.le_of_ble_eq_true rfl) ⟨Nat.le_of_ble_eq_true rfl, Nat.le_of_ble_eq_true rfl⟩ rfl (fun Ec hh hp => ?_) (fun r hh hp => ?_)
  · obtain ⟨hp, rfl⟩ := hp
    rcases sx_leader R hp with ⟨rfl, hm⟩
    · refine rx_catch (tgt := 12) (tableOf []) ⟨0, 9, 12, 13⟩ (tableOf []) htb (fun z hz => absurd hz List.not_mem_nil) rfl (by decide) clL_leader_13 (by decide +kernel) rfl (fun q => ?_)
      refine r_astore_n (lo' := [(3, .ref q), (0, .ref (a 15)), (1, .int x), (2, .ref po)]) dL_leader_12 (by decide) rfl ?_
      refine r_iconst (v := 1) dL_leader_13 (by decide) ?_
      exact kret _ _ _ _ _ _ (Nat.le_of_ble_eq_true rfl) (Nat.le_of_ble_eq_true rfl) dL_leader_14 rfl (LX hg R hm (by decide))
  · obtain ⟨g1, ⟨j, hj, h1, h2, rfl⟩, rfl⟩ := hp
    refine r_i2l dL_leader_7 ?_
    refine r_last dL_leader_8 (dw_at hg hpo) (vp_in_nI (by decide) (by decide)) ?_
    rw [dw_kup hg hpn]
    refine r_goto (tgt := 15) dL_leader_9 (by decide) ?_
    refine r_iconst (v := 0) dL_leader_15 (by decide) ?_
    exact kret _ _ _ _ _ _ (Nat.le_of_ble_eq_true rfl) (Nat.le_of_ble_eq_true rfl) dL_leader_16 rfl (LK0 hg R (sk_leader R g1 hj h1 h2))
