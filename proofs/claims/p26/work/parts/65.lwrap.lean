/-! the law's wrappers -/
abbrev rmL_rank : Room := { frames := 8, cells := 4, slots := 24, locals := 135 }
theorem clL_rank_13 : Cond.classLink RL 13 "java/lang/IndexOutOfBoundsException" ∈ wsL_rank := by decide +kernel
theorem clL_rank_16 : Cond.classLink RL 16 "java/lang/IllegalArgumentException" ∈ wsL_rank := by decide +kernel
set_option maxHeartbeats 4000000 in
set_option maxRecDepth 100000 in
theorem tL_rank {E : kE} {a cap : Nat → Nat} {h0 : kH} {dt : kM} {nF nC nE w : Nat} (hg : dgeo E a cap nF nC nE h0) (hd : dwf dt nF nC nE w) (x y : Int32) : kXi E yL_rank wsL_rank rmL_rank 4 24 [.ref (a 15), .int x, .int y] (dw E a cap nF nC nE dt h0) (fun _ _ => False) (OPost E a h0 (dw E a cap nF nC nE dt h0) (oRank dt nF nC nE w x y)) := by
  refine kXi_ofH (rt := .int) (own := RL) (cc := cL_rank) (maxL := 4) (hh := [(0, 6, 7, 13), (0, 6, 11, 16)]) (by decide) rfl rfl (Nat.le_of_ble_eq_true rfl) ?_
  intro X htb kret
  refine r_lo (lo' := [(0, .ref (a 15)), (1, .int x), (2, .int y)]) [0, 1, 2] rfl ?_
  refine r_aload_n dL_rank_0 0 rfl ?_
  refine r_iload_n dL_rank_1 1 rfl ?_
  refine r_iload_n dL_rank_2 2 rfl ?_
  refine r_callXVi (nn := 2) (As := [.int x, .int y]) (st := []) dL_rank_3 (tX3_rank dt nF nC nE w hg hd x y) gL_rank_X3_rank rfl (by decide +kernel) ⟨Nat.le_of_ble_eq_true rfl, Nat.le_of_ble_eq_true rfl⟩ ⟨rfl, rfl⟩ (dw_obj hg) rfl rfl (Nat.le_of_ble_eq_true rfl) ⟨Nat.le_of_ble_eq_true rfl, Nat.le_of_ble_eq_true rfl⟩ rfl (fun Ec hh hp => ?_) (fun r hh hp => ?_)
  · obtain ⟨hp, rfl⟩ := hp
    rcases ox_rank hd hp with ⟨rfl, hm⟩ | ⟨rfl, hm⟩
    · refine rx_catch (tgt := 7) (tableOf []) ⟨0, 6, 7, 13⟩ (tableOf [(0, 6, 11, 16)]) htb (fun z hz => absurd hz List.not_mem_nil) rfl (by decide) clL_rank_13 (by decide +kernel) rfl (fun q9 => ?_)
      refine r_astore_n (lo' := [(3, .ref q9), (0, .ref (a 15)), (1, .int x), (2, .int y)]) dL_rank_7 (by decide) rfl ?_
      refine r_ldc (v := (-2000000001)) dL_rank_8 (by decide +kernel) ?_
      exact kret _ _ _ _ _ _ (Nat.le_of_ble_eq_true rfl) (Nat.le_of_ble_eq_true rfl) dL_rank_10 rfl (OP_e hm)
    · refine rx_catch (tgt := 11) (tableOf [(0, 6, 7, 13)]) ⟨0, 6, 11, 16⟩ (tableOf []) htb (fun z hz => by revert z; exact List.forall_mem_cons.mpr ⟨⟨by decide, kIO, clL_rank_13, by decide +kernel⟩, fun z hz => absurd hz List.not_mem_nil⟩) rfl (by decide) clL_rank_16 (by decide +kernel) rfl (fun q9 => ?_)
      refine r_astore_n (lo' := [(3, .ref q9), (0, .ref (a 15)), (1, .int x), (2, .int y)]) dL_rank_11 (by decide) rfl ?_
      refine r_ldc (v := (-2000000002)) dL_rank_12 (by decide +kernel) ?_
      exact kret _ _ _ _ _ _ (Nat.le_of_ble_eq_true rfl) (Nat.le_of_ble_eq_true rfl) dL_rank_14 rfl (OP_e hm)
  · obtain ⟨g0, g1, rfl, rfl⟩ := hp
    exact kret _ _ _ _ _ _ (Nat.le_of_ble_eq_true rfl) (Nat.le_of_ble_eq_true rfl) dL_rank_6 rfl (OP_k (ok_rank g0 g1) rfl hg)
abbrev rmL_fight : Room := { frames := 9, cells := 12, slots := 500, locals := 419 }
theorem clL_fight_13 : Cond.classLink RL 13 "java/lang/IndexOutOfBoundsException" ∈ wsL_fight := by decide +kernel
theorem clL_fight_16 : Cond.classLink RL 16 "java/lang/IllegalArgumentException" ∈ wsL_fight := by decide +kernel
theorem clL_fight_22 : Cond.classLink RL 22 "java/lang/IllegalStateException" ∈ wsL_fight := by decide +kernel
set_option maxHeartbeats 4000000 in
set_option maxRecDepth 100000 in
theorem tL_fight {E : kE} {a cap : Nat → Nat} {h0 : kH} {dt : kM} {nF nC nE w : Nat} (hg : dgeo E a cap nF nC nE h0) (hd : dwf dt nF nC nE w) (x y : Int32) : kXi E yL_fight wsL_fight rmL_fight 12 500 [.ref (a 15), .int x, .int y] (dw E a cap nF nC nE dt h0) (fun _ _ => False) (OPost E a h0 (dw E a cap nF nC nE dt h0) (oFight dt nF nC nE w x y)) := by
  refine kXi_ofH (rt := .int) (own := RL) (cc := cL_fight) (maxL := 4) (hh := [(0, 6, 7, 13), (0, 6, 11, 16), (0, 6, 15, 22)]) (by decide) rfl rfl (Nat.le_of_ble_eq_true rfl) ?_
  intro X htb kret
  refine r_lo (lo' := [(0, .ref (a 15)), (1, .int x), (2, .int y)]) [0, 1, 2] rfl ?_
  refine r_aload_n dL_fight_0 0 rfl ?_
  refine r_iload_n dL_fight_1 1 rfl ?_
  refine r_iload_n dL_fight_2 2 rfl ?_
  refine r_callXVi (nn := 2) (As := [.int x, .int y]) (st := []) dL_fight_3 (tX3_fight dt nF nC nE w hg hd x y) gL_fight_X3_fight rfl (by decide +kernel) ⟨Nat.le_of_ble_eq_true rfl, Nat.le_of_ble_eq_true rfl⟩ ⟨rfl, rfl⟩ (dw_obj hg) rfl rfl (Nat.le_of_ble_eq_true rfl) ⟨Nat.le_of_ble_eq_true rfl, Nat.le_of_ble_eq_true rfl⟩ rfl (fun Ec hh hp => ?_) (fun r hh hp => ?_)
  · obtain ⟨hp, rfl⟩ := hp
    rcases ox_fight hd hp with ⟨rfl, hm⟩ | ⟨rfl, hm⟩ | ⟨rfl, hm⟩
    · refine rx_catch (tgt := 7) (tableOf []) ⟨0, 6, 7, 13⟩ (tableOf [(0, 6, 11, 16), (0, 6, 15, 22)]) htb (fun z hz => absurd hz List.not_mem_nil) rfl (by decide) clL_fight_13 (by decide +kernel) rfl (fun q9 => ?_)
      refine r_astore_n (lo' := [(3, .ref q9), (0, .ref (a 15)), (1, .int x), (2, .int y)]) dL_fight_7 (by decide) rfl ?_
      refine r_ldc (v := (-2000000001)) dL_fight_8 (by decide +kernel) ?_
      exact kret _ _ _ _ _ _ (Nat.le_of_ble_eq_true rfl) (Nat.le_of_ble_eq_true rfl) dL_fight_10 rfl (OP_e hm)
    · refine rx_catch (tgt := 11) (tableOf [(0, 6, 7, 13)]) ⟨0, 6, 11, 16⟩ (tableOf [(0, 6, 15, 22)]) htb (fun z hz => by revert z; exact List.forall_mem_cons.mpr ⟨⟨by decide, kIO, clL_fight_13, by decide +kernel⟩, fun z hz => absurd hz List.not_mem_nil⟩) rfl (by decide) clL_fight_16 (by decide +kernel) rfl (fun q9 => ?_)
      refine r_astore_n (lo' := [(3, .ref q9), (0, .ref (a 15)), (1, .int x), (2, .int y)]) dL_fight_11 (by decide) rfl ?_
      refine r_ldc (v := (-2000000002)) dL_fight_12 (by decide +kernel) ?_
      exact kret _ _ _ _ _ _ (Nat.le_of_ble_eq_true rfl) (Nat.le_of_ble_eq_true rfl) dL_fight_14 rfl (OP_e hm)
    · refine rx_catch (tgt := 15) (tableOf [(0, 6, 7, 13), (0, 6, 11, 16)]) ⟨0, 6, 15, 22⟩ (tableOf []) htb (fun z hz => by revert z; exact List.forall_mem_cons.mpr ⟨⟨by decide, kIO, clL_fight_13, by decide +kernel⟩, List.forall_mem_cons.mpr ⟨⟨by decide, kIA, clL_fight_16, by decide +kernel⟩, fun z hz => absurd hz List.not_mem_nil⟩⟩) rfl (by decide) clL_fight_22 (by decide +kernel) rfl (fun q9 => ?_)
      refine r_astore_n (lo' := [(3, .ref q9), (0, .ref (a 15)), (1, .int x), (2, .int y)]) dL_fight_15 (by decide) rfl ?_
      refine r_ldc (v := (-2000000003)) dL_fight_16 (by decide +kernel) ?_
      exact kret _ _ _ _ _ _ (Nat.le_of_ble_eq_true rfl) (Nat.le_of_ble_eq_true rfl) dL_fight_18 rfl (OP_e hm)
  · obtain ⟨g0, g1, g2, g3, rfl, a', cap', hg', hag, rfl⟩ := hp
    exact kret _ _ _ _ _ _ (Nat.le_of_ble_eq_true rfl) (Nat.le_of_ble_eq_true rfl) dL_fight_6 rfl (OP_k (ok_fight g0 g1 g2 g3) (hag 15 (by decide) (by omega)) hg')
abbrev rmL_end : Room := { frames := 8, cells := 4, slots := 24, locals := 135 }
theorem clL_end_13 : Cond.classLink RL 13 "java/lang/IndexOutOfBoundsException" ∈ wsL_end := by decide +kernel
theorem clL_end_22 : Cond.classLink RL 22 "java/lang/IllegalStateException" ∈ wsL_end := by decide +kernel
set_option maxHeartbeats 4000000 in
set_option maxRecDepth 100000 in
theorem tL_end {E : kE} {a cap : Nat → Nat} {h0 : kH} {dt : kM} {nF nC nE w : Nat} (hg : dgeo E a cap nF nC nE h0) (hd : dwf dt nF nC nE w) (x : Int32) : kXi E yL_end wsL_end rmL_end 4 24 [.ref (a 15), .int x] (dw E a cap nF nC nE dt h0) (fun _ _ => False) (OPost E a h0 (dw E a cap nF nC nE dt h0) (oEnd dt nF nC nE w x)) := by
  refine kXi_ofH (rt := .int) (own := RL) (cc := cL_end) (maxL := 3) (hh := [(0, 5, 6, 13), (0, 5, 10, 22)]) (by decide) rfl rfl (Nat.le_of_ble_eq_true rfl) ?_
  intro X htb kret
  refine r_lo (lo' := [(0, .ref (a 15)), (1, .int x)]) [0, 1] rfl ?_
  refine r_aload_n dL_end_0 0 rfl ?_
  refine r_iload_n dL_end_1 1 rfl ?_
  refine r_callXVi (nn := 1) (As := [.int x]) (st := []) dL_end_2 (tX3_end dt nF nC nE w hg hd x) gL_end_X3_end rfl (by decide +kernel) ⟨Nat.le_of_ble_eq_true rfl, Nat.le_of_ble_eq_true rfl⟩ ⟨rfl, rfl⟩ (dw_obj hg) rfl rfl (Nat.le_of_ble_eq_true rfl) ⟨Nat.le_of_ble_eq_true rfl, Nat.le_of_ble_eq_true rfl⟩ rfl (fun Ec hh hp => ?_) (fun r hh hp => ?_)
  · obtain ⟨hp, rfl⟩ := hp
    rcases ox_end hd hp with ⟨rfl, hm⟩ | ⟨rfl, hm⟩
    · refine rx_catch (tgt := 6) (tableOf []) ⟨0, 5, 6, 13⟩ (tableOf [(0, 5, 10, 22)]) htb (fun z hz => absurd hz List.not_mem_nil) rfl (by decide) clL_end_13 (by decide +kernel) rfl (fun q9 => ?_)
      refine r_astore_n (lo' := [(2, .ref q9), (0, .ref (a 15)), (1, .int x)]) dL_end_6 (by decide) rfl ?_
      refine r_ldc (v := (-2000000001)) dL_end_7 (by decide +kernel) ?_
      exact kret _ _ _ _ _ _ (Nat.le_of_ble_eq_true rfl) (Nat.le_of_ble_eq_true rfl) dL_end_9 rfl (OP_e hm)
    · refine rx_catch (tgt := 10) (tableOf [(0, 5, 6, 13)]) ⟨0, 5, 10, 22⟩ (tableOf []) htb (fun z hz => by revert z; exact List.forall_mem_cons.mpr ⟨⟨by decide, kIO, clL_end_13, by decide +kernel⟩, fun z hz => absurd hz List.not_mem_nil⟩) rfl (by decide) clL_end_22 (by decide +kernel) rfl (fun q9 => ?_)
      refine r_astore_n (lo' := [(2, .ref q9), (0, .ref (a 15)), (1, .int x)]) dL_end_10 (by decide) rfl ?_
      refine r_ldc (v := (-2000000003)) dL_end_11 (by decide +kernel) ?_
      exact kret _ _ _ _ _ _ (Nat.le_of_ble_eq_true rfl) (Nat.le_of_ble_eq_true rfl) dL_end_13 rfl (OP_e hm)
  · obtain ⟨o, ho, rfl, g1, rfl, rfl⟩ := hp
    exact kret _ _ _ _ _ _ (Nat.le_of_ble_eq_true rfl) (Nat.le_of_ble_eq_true rfl) dL_end_5 rfl (OP_k (ok_end hd ho g1) rfl hg)
abbrev rmL_replay : Room := { frames := 9, cells := 12, slots := 500, locals := 419 }
theorem clL_replay_13 : Cond.classLink RL 13 "java/lang/IndexOutOfBoundsException" ∈ wsL_replay := by decide +kernel
theorem clL_replay_22 : Cond.classLink RL 22 "java/lang/IllegalStateException" ∈ wsL_replay := by decide +kernel
set_option maxHeartbeats 4000000 in
set_option maxRecDepth 100000 in
theorem tL_replay {E : kE} {a cap : Nat → Nat} {h0 : kH} {dt : kM} {nF nC nE w : Nat} (hg : dgeo E a cap nF nC nE h0) (hd : dwf dt nF nC nE w) (x : Int32) : kXi E yL_replay wsL_replay rmL_replay 12 500 [.ref (a 15), .int x] (dw E a cap nF nC nE dt h0) (fun _ _ => False) (OPost E a h0 (dw E a cap nF nC nE dt h0) (oReplay dt nF nC nE w x)) := by
  refine kXi_ofH (rt := .int) (own := RL) (cc := cL_replay) (maxL := 3) (hh := [(0, 5, 6, 13), (0, 5, 10, 22)]) (by decide) rfl rfl (Nat.le_of_ble_eq_true rfl) ?_
  intro X htb kret
  refine r_lo (lo' := [(0, .ref (a 15)), (1, .int x)]) [0, 1] rfl ?_
  refine r_aload_n dL_replay_0 0 rfl ?_
  refine r_iload_n dL_replay_1 1 rfl ?_
  refine r_callXVi (nn := 1) (As := [.int x]) (st := []) dL_replay_2 (tX3_replay dt nF nC nE w hg hd x) gL_replay_X3_replay rfl (by decide +kernel) ⟨Nat.le_of_ble_eq_true rfl, Nat.le_of_ble_eq_true rfl⟩ ⟨rfl, rfl⟩ (dw_obj hg) rfl rfl (Nat.le_of_ble_eq_true rfl) ⟨Nat.le_of_ble_eq_true rfl, Nat.le_of_ble_eq_true rfl⟩ rfl (fun Ec hh hp => ?_) (fun r hh hp => ?_)
  · obtain ⟨hp, rfl⟩ := hp
    rcases ox_replay hd hp with ⟨rfl, hm⟩ | ⟨rfl, hm⟩
    · refine rx_catch (tgt := 6) (tableOf []) ⟨0, 5, 6, 13⟩ (tableOf [(0, 5, 10, 22)]) htb (fun z hz => absurd hz List.not_mem_nil) rfl (by decide) clL_replay_13 (by decide +kernel) rfl (fun q9 => ?_)
      refine r_astore_n (lo' := [(2, .ref q9), (0, .ref (a 15)), (1, .int x)]) dL_replay_6 (by decide) rfl ?_
      refine r_ldc (v := (-2000000001)) dL_replay_7 (by decide +kernel) ?_
      exact kret _ _ _ _ _ _ (Nat.le_of_ble_eq_true rfl) (Nat.le_of_ble_eq_true rfl) dL_replay_9 rfl (OP_e hm)
    · refine rx_catch (tgt := 10) (tableOf [(0, 5, 6, 13)]) ⟨0, 5, 10, 22⟩ (tableOf []) htb (fun z hz => by revert z; exact List.forall_mem_cons.mpr ⟨⟨by decide, kIO, clL_replay_13, by decide +kernel⟩, fun z hz => absurd hz List.not_mem_nil⟩) rfl (by decide) clL_replay_22 (by decide +kernel) rfl (fun q9 => ?_)
      refine r_astore_n (lo' := [(2, .ref q9), (0, .ref (a 15)), (1, .int x)]) dL_replay_10 (by decide) rfl ?_
      refine r_ldc (v := (-2000000003)) dL_replay_11 (by decide +kernel) ?_
      exact kret _ _ _ _ _ _ (Nat.le_of_ble_eq_true rfl) (Nat.le_of_ble_eq_true rfl) dL_replay_13 rfl (OP_e hm)
  · obtain ⟨o, ho, rfl, g1, g2, rfl, a', cap', hg', hag, rfl⟩ := hp
    exact kret _ _ _ _ _ _ (Nat.le_of_ble_eq_true rfl) (Nat.le_of_ble_eq_true rfl) dL_replay_5 rfl (OP_k (ok_replay hd ho g1 g2) (hag 15 (by decide) (by omega)) hg')
abbrev rmL_camera : Room := { frames := 8, cells := 12, slots := 500, locals := 396 }
theorem clL_camera_16 : Cond.classLink RL 16 "java/lang/IllegalArgumentException" ∈ wsL_camera := by decide +kernel
theorem clL_camera_22 : Cond.classLink RL 22 "java/lang/IllegalStateException" ∈ wsL_camera := by decide +kernel
set_option maxHeartbeats 4000000 in
set_option maxRecDepth 100000 in
theorem tL_camera {E : kE} {a cap : Nat → Nat} {h0 : kH} {dt : kM} {nF nC nE w : Nat} (hg : dgeo E a cap nF nC nE h0) (hd : dwf dt nF nC nE w) (x y : Int32) : kXi E yL_camera wsL_camera rmL_camera 12 500 [.ref (a 15), .int x, .int y] (dw E a cap nF nC nE dt h0) (fun _ _ => False) (OPost E a h0 (dw E a cap nF nC nE dt h0) (oCamera dt nF nC nE w x y)) := by
  refine kXi_ofH (rt := .int) (own := RL) (cc := cL_camera) (maxL := 4) (hh := [(0, 6, 7, 16), (0, 6, 11, 22)]) (by decide) rfl rfl (Nat.le_of_ble_eq_true rfl) ?_
  intro X htb kret
  refine r_lo (lo' := [(0, .ref (a 15)), (1, .int x), (2, .int y)]) [0, 1, 2] rfl ?_
  refine r_aload_n dL_camera_0 0 rfl ?_
  refine r_iload_n dL_camera_1 1 rfl ?_
  refine r_iload_n dL_camera_2 2 rfl ?_
  refine r_callXVi (nn := 2) (As := [.int x, .int y]) (st := []) dL_camera_3 (tX3_camera dt nF nC nE w hg hd x y) gL_camera_X3_camera rfl (by decide +kernel) ⟨Nat.le_of_ble_eq_true rfl, Nat.le_of_ble_eq_true rfl⟩ ⟨rfl, rfl⟩ (dw_obj hg) rfl rfl (Nat.le_of_ble_eq_true rfl) ⟨Nat.le_of_ble_eq_true rfl, Nat.le_of_ble_eq_true rfl⟩ rfl (fun Ec hh hp => ?_) (fun r hh hp => ?_)
  · obtain ⟨hp, rfl⟩ := hp
    rcases ox_camera hd hp with ⟨rfl, hm⟩ | ⟨rfl, hm⟩
    · refine rx_catch (tgt := 7) (tableOf []) ⟨0, 6, 7, 16⟩ (tableOf [(0, 6, 11, 22)]) htb (fun z hz => absurd hz List.not_mem_nil) rfl (by decide) clL_camera_16 (by decide +kernel) rfl (fun q9 => ?_)
      refine r_astore_n (lo' := [(3, .ref q9), (0, .ref (a 15)), (1, .int x), (2, .int y)]) dL_camera_7 (by decide) rfl ?_
      refine r_ldc (v := (-2000000002)) dL_camera_8 (by decide +kernel) ?_
      exact kret _ _ _ _ _ _ (Nat.le_of_ble_eq_true rfl) (Nat.le_of_ble_eq_true rfl) dL_camera_10 rfl (OP_e hm)
    · refine rx_catch (tgt := 11) (tableOf [(0, 6, 7, 16)]) ⟨0, 6, 11, 22⟩ (tableOf []) htb (fun z hz => by revert z; exact List.forall_mem_cons.mpr ⟨⟨by decide, kIA, clL_camera_16, by decide +kernel⟩, fun z hz => absurd hz List.not_mem_nil⟩) rfl (by decide) clL_camera_22 (by decide +kernel) rfl (fun q9 => ?_)
      refine r_astore_n (lo' := [(3, .ref q9), (0, .ref (a 15)), (1, .int x), (2, .int y)]) dL_camera_11 (by decide) rfl ?_
      refine r_ldc (v := (-2000000003)) dL_camera_12 (by decide +kernel) ?_
      exact kret _ _ _ _ _ _ (Nat.le_of_ble_eq_true rfl) (Nat.le_of_ble_eq_true rfl) dL_camera_14 rfl (OP_e hm)
  · obtain ⟨g0, g1, g2, rfl, a', cap', hg', hag, rfl⟩ := hp
    exact kret _ _ _ _ _ _ (Nat.le_of_ble_eq_true rfl) (Nat.le_of_ble_eq_true rfl) dL_camera_6 rfl (OP_k (ok_camera g0 g1 g2) (hag 15 (by decide) (by omega)) hg')
abbrev rmL_delay : Room := { frames := 8, cells := 4, slots := 24, locals := 134 }
theorem clL_delay_16 : Cond.classLink RL 16 "java/lang/IllegalArgumentException" ∈ wsL_delay := by decide +kernel
set_option maxHeartbeats 4000000 in
set_option maxRecDepth 100000 in
theorem tL_delay {E : kE} {a cap : Nat → Nat} {h0 : kH} {dt : kM} {nF nC nE w : Nat} (hg : dgeo E a cap nF nC nE h0) (hd : dwf dt nF nC nE w) (x : Int32) : kXi E yL_delay wsL_delay rmL_delay 4 24 [.ref (a 15), .int x] (dw E a cap nF nC nE dt h0) (fun _ _ => False) (OPost E a h0 (dw E a cap nF nC nE dt h0) (oDelay dt nF nC nE w x)) := by
  refine kXi_ofH (rt := .int) (own := RL) (cc := cL_delay) (maxL := 3) (hh := [(0, 5, 6, 16)]) (by decide) rfl rfl (Nat.le_of_ble_eq_true rfl) ?_
  intro X htb kret
  refine r_lo (lo' := [(0, .ref (a 15)), (1, .int x)]) [0, 1] rfl ?_
  refine r_aload_n dL_delay_0 0 rfl ?_
  refine r_iload_n dL_delay_1 1 rfl ?_
  refine r_callXVi (nn := 1) (As := [.int x]) (st := []) dL_delay_2 (tX3_delay dt nF nC nE w hg hd x) gL_delay_X3_delay rfl (by decide +kernel) ⟨Nat.le_of_ble_eq_true rfl, Nat.le_of_ble_eq_true rfl⟩ ⟨rfl, rfl⟩ (dw_obj hg) rfl rfl (Nat.le_of_ble_eq_true rfl) ⟨Nat.le_of_ble_eq_true rfl, Nat.le_of_ble_eq_true rfl⟩ rfl (fun Ec hh hp => ?_) (fun r hh hp => ?_)
  · obtain ⟨hp, rfl⟩ := hp
    obtain ⟨rfl, hm⟩ := ox_delay hd hp
    refine rx_catch (tgt := 6) (tableOf []) ⟨0, 5, 6, 16⟩ (tableOf []) htb (fun z hz => absurd hz List.not_mem_nil) rfl (by decide) clL_delay_16 (by decide +kernel) rfl (fun q9 => ?_)
    refine r_astore_n (lo' := [(2, .ref q9), (0, .ref (a 15)), (1, .int x)]) dL_delay_6 (by decide) rfl ?_
    refine r_ldc (v := (-2000000002)) dL_delay_7 (by decide +kernel) ?_
    exact kret _ _ _ _ _ _ (Nat.le_of_ble_eq_true rfl) (Nat.le_of_ble_eq_true rfl) dL_delay_9 rfl (OP_e hm)
  · obtain ⟨g0, rfl, rfl⟩ := hp
    exact kret _ _ _ _ _ _ (Nat.le_of_ble_eq_true rfl) (Nat.le_of_ble_eq_true rfl) dL_delay_5 rfl (OP_k (ok_delay g0) rfl hg)
abbrev rmL_pass : Room := { frames := 8, cells := 4, slots := 24, locals := 152 }
theorem clL_pass_16 : Cond.classLink RL 16 "java/lang/IllegalArgumentException" ∈ wsL_pass := by decide +kernel
theorem clL_pass_22 : Cond.classLink RL 22 "java/lang/IllegalStateException" ∈ wsL_pass := by decide +kernel
set_option maxHeartbeats 4000000 in
set_option maxRecDepth 100000 in
theorem tL_pass {E : kE} {a cap : Nat → Nat} {h0 : kH} {dt : kM} {nF nC nE w : Nat} (hg : dgeo E a cap nF nC nE h0) (hd : dwf dt nF nC nE w) (x : Int32) : kXi E yL_pass wsL_pass rmL_pass 4 24 [.ref (a 15), .int x] (dw E a cap nF nC nE dt h0) (fun _ _ => False) (OPost E a h0 (dw E a cap nF nC nE dt h0) (oPass dt nF nC nE w x)) := by
  refine kXi_ofH (rt := .int) (own := RL) (cc := cL_pass) (maxL := 3) (hh := [(0, 5, 6, 16), (0, 5, 10, 22)]) (by decide) rfl rfl (Nat.le_of_ble_eq_true rfl) ?_
  intro X htb kret
  refine r_lo (lo' := [(0, .ref (a 15)), (1, .int x)]) [0, 1] rfl ?_
  refine r_aload_n dL_pass_0 0 rfl ?_
  refine r_iload_n dL_pass_1 1 rfl ?_
  refine r_callXVi (nn := 1) (As := [.int x]) (st := []) dL_pass_2 (tX3_pass dt nF nC nE w hg hd x) gL_pass_X3_pass rfl (by decide +kernel) ⟨Nat.le_of_ble_eq_true rfl, Nat.le_of_ble_eq_true rfl⟩ ⟨rfl, rfl⟩ (dw_obj hg) rfl rfl (Nat.le_of_ble_eq_true rfl) ⟨Nat.le_of_ble_eq_true rfl, Nat.le_of_ble_eq_true rfl⟩ rfl (fun Ec hh hp => ?_) (fun r hh hp => ?_)
  · obtain ⟨hp, rfl⟩ := hp
    rcases ox_pass hd hp with ⟨rfl, hm⟩ | ⟨rfl, hm⟩
    · refine rx_catch (tgt := 6) (tableOf []) ⟨0, 5, 6, 16⟩ (tableOf [(0, 5, 10, 22)]) htb (fun z hz => absurd hz List.not_mem_nil) rfl (by decide) clL_pass_16 (by decide +kernel) rfl (fun q9 => ?_)
      refine r_astore_n (lo' := [(2, .ref q9), (0, .ref (a 15)), (1, .int x)]) dL_pass_6 (by decide) rfl ?_
      refine r_ldc (v := (-2000000002)) dL_pass_7 (by decide +kernel) ?_
      exact kret _ _ _ _ _ _ (Nat.le_of_ble_eq_true rfl) (Nat.le_of_ble_eq_true rfl) dL_pass_9 rfl (OP_e hm)
    · refine rx_catch (tgt := 10) (tableOf [(0, 5, 6, 16)]) ⟨0, 5, 10, 22⟩ (tableOf []) htb (fun z hz => by revert z; exact List.forall_mem_cons.mpr ⟨⟨by decide, kIA, clL_pass_16, by decide +kernel⟩, fun z hz => absurd hz List.not_mem_nil⟩) rfl (by decide) clL_pass_22 (by decide +kernel) rfl (fun q9 => ?_)
      refine r_astore_n (lo' := [(2, .ref q9), (0, .ref (a 15)), (1, .int x)]) dL_pass_10 (by decide) rfl ?_
      refine r_ldc (v := (-2000000003)) dL_pass_11 (by decide +kernel) ?_
      exact kret _ _ _ _ _ _ (Nat.le_of_ble_eq_true rfl) (Nat.le_of_ble_eq_true rfl) dL_pass_13 rfl (OP_e hm)
  · obtain ⟨g0, g1, m, hm, hwm, rfl, rfl, rfl⟩ := hp
    have z := ok_pass (dt := dt) (nF := nF) (nC := nC) (nE := nE) (w := w) g0 g1
    rw [nI_clamp (show m < 2 ^ 31 by omega)] at z
    exact kret _ _ _ _ _ _ (Nat.le_of_ble_eq_true rfl) (Nat.le_of_ble_eq_true rfl) dL_pass_5 rfl (OP_k z rfl hg)
abbrev rmL_blow : Room := { frames := 8, cells := 12, slots := 500, locals := 398 }
theorem clL_blow_13 : Cond.classLink RL 13 "java/lang/IndexOutOfBoundsException" ∈ wsL_blow := by decide +kernel
theorem clL_blow_16 : Cond.classLink RL 16 "java/lang/IllegalArgumentException" ∈ wsL_blow := by decide +kernel
theorem clL_blow_22 : Cond.classLink RL 22 "java/lang/IllegalStateException" ∈ wsL_blow := by decide +kernel
set_option maxHeartbeats 4000000 in
set_option maxRecDepth 100000 in
theorem tL_blow {E : kE} {a cap : Nat → Nat} {h0 : kH} {dt : kM} {nF nC nE w : Nat} (hg : dgeo E a cap nF nC nE h0) (hd : dwf dt nF nC nE w) (x y z : Int32) : kXi E yL_blow wsL_blow rmL_blow 12 500 [.ref (a 15), .int x, .int y, .int z] (dw E a cap nF nC nE dt h0) (fun _ _ => False) (OPost E a h0 (dw E a cap nF nC nE dt h0) (oBlow dt nF nC nE w x y z)) := by
  refine kXi_ofH (rt := .int) (own := RL) (cc := cL_blow) (maxL := 5) (hh := [(0, 7, 8, 13), (0, 7, 13, 16), (0, 7, 18, 22)]) (by decide) rfl rfl (Nat.le_of_ble_eq_true rfl) ?_
  intro X htb kret
  refine r_lo (lo' := [(0, .ref (a 15)), (1, .int x), (2, .int y), (3, .int z)]) [0, 1, 2, 3] rfl ?_
  refine r_aload_n dL_blow_0 0 rfl ?_
  refine r_iload_n dL_blow_1 1 rfl ?_
  refine r_iload_n dL_blow_2 2 rfl ?_
  refine r_iload_n dL_blow_3 3 rfl ?_
  refine r_callXVi (nn := 3) (As := [.int x, .int y, .int z]) (st := []) dL_blow_4 (tX3_blow dt nF nC nE w hg hd x y z) gL_blow_X3_blow rfl (by decide +kernel) ⟨Nat.le_of_ble_eq_true rfl, Nat.le_of_ble_eq_true rfl⟩ ⟨rfl, rfl⟩ (dw_obj hg) rfl rfl (Nat.le_of_ble_eq_true rfl) ⟨Nat.le_of_ble_eq_true rfl, Nat.le_of_ble_eq_true rfl⟩ rfl (fun Ec hh hp => ?_) (fun r hh hp => ?_)
  · obtain ⟨hp, rfl⟩ := hp
    rcases ox_blow hd hp with ⟨rfl, hm⟩ | ⟨rfl, hm⟩ | ⟨rfl, hm⟩
    · refine rx_catch (tgt := 8) (tableOf []) ⟨0, 7, 8, 13⟩ (tableOf [(0, 7, 13, 16), (0, 7, 18, 22)]) htb (fun z hz => absurd hz List.not_mem_nil) rfl (by decide) clL_blow_13 (by decide +kernel) rfl (fun q9 => ?_)
      refine r_astore (lo' := [(4, .ref q9), (0, .ref (a 15)), (1, .int x), (2, .int y), (3, .int z)]) dL_blow_8 (by decide) rfl ?_
      refine r_ldc (v := (-2000000001)) dL_blow_10 (by decide +kernel) ?_
      exact kret _ _ _ _ _ _ (Nat.le_of_ble_eq_true rfl) (Nat.le_of_ble_eq_true rfl) dL_blow_12 rfl (OP_e hm)
    · refine rx_catch (tgt := 13) (tableOf [(0, 7, 8, 13)]) ⟨0, 7, 13, 16⟩ (tableOf [(0, 7, 18, 22)]) htb (fun z hz => by revert z; exact List.forall_mem_cons.mpr ⟨⟨by decide, kIO, clL_blow_13, by decide +kernel⟩, fun z hz => absurd hz List.not_mem_nil⟩) rfl (by decide) clL_blow_16 (by decide +kernel) rfl (fun q9 => ?_)
      refine r_astore (lo' := [(4, .ref q9), (0, .ref (a 15)), (1, .int x), (2, .int y), (3, .int z)]) dL_blow_13 (by decide) rfl ?_
      refine r_ldc (v := (-2000000002)) dL_blow_15 (by decide +kernel) ?_
      exact kret _ _ _ _ _ _ (Nat.le_of_ble_eq_true rfl) (Nat.le_of_ble_eq_true rfl) dL_blow_17 rfl (OP_e hm)
    · refine rx_catch (tgt := 18) (tableOf [(0, 7, 8, 13), (0, 7, 13, 16)]) ⟨0, 7, 18, 22⟩ (tableOf []) htb (fun z hz => by revert z; exact List.forall_mem_cons.mpr ⟨⟨by decide, kIO, clL_blow_13, by decide +kernel⟩, List.forall_mem_cons.mpr ⟨⟨by decide, kIA, clL_blow_16, by decide +kernel⟩, fun z hz => absurd hz List.not_mem_nil⟩⟩) rfl (by decide) clL_blow_22 (by decide +kernel) rfl (fun q9 => ?_)
      refine r_astore (lo' := [(4, .ref q9), (0, .ref (a 15)), (1, .int x), (2, .int y), (3, .int z)]) dL_blow_18 (by decide) rfl ?_
      refine r_ldc (v := (-2000000003)) dL_blow_20 (by decide +kernel) ?_
      exact kret _ _ _ _ _ _ (Nat.le_of_ble_eq_true rfl) (Nat.le_of_ble_eq_true rfl) dL_blow_22 rfl (OP_e hm)
  · obtain ⟨o, ho, rfl, g1, g2, g3, g4, g5, rfl, a', cap', hg', hag, rfl⟩ := hp
    exact kret _ _ _ _ _ _ (Nat.le_of_ble_eq_true rfl) (Nat.le_of_ble_eq_true rfl) dL_blow_7 rfl (OP_k (ok_blow hd ho g1 g2 g3 g4 g5) (hag 15 (by decide) (by omega)) hg')
abbrev rmL_strike : Room := { frames := 8, cells := 4, slots := 24, locals := 133 }
theorem clL_strike_13 : Cond.classLink RL 13 "java/lang/IndexOutOfBoundsException" ∈ wsL_strike := by decide +kernel
theorem clL_strike_22 : Cond.classLink RL 22 "java/lang/IllegalStateException" ∈ wsL_strike := by decide +kernel
set_option maxHeartbeats 4000000 in
set_option maxRecDepth 100000 in
theorem tL_strike {E : kE} {a cap : Nat → Nat} {h0 : kH} {dt : kM} {nF nC nE w : Nat} (hg : dgeo E a cap nF nC nE h0) (hd : dwf dt nF nC nE w) (x : Int32) : kXi E yL_strike wsL_strike rmL_strike 4 24 [.ref (a 15), .int x] (dw E a cap nF nC nE dt h0) (fun _ _ => False) (OPost E a h0 (dw E a cap nF nC nE dt h0) (oStrike dt nF nC nE w x)) := by
  refine kXi_ofH (rt := .int) (own := RL) (cc := cL_strike) (maxL := 3) (hh := [(0, 5, 6, 13), (0, 5, 10, 22)]) (by decide) rfl rfl (Nat.le_of_ble_eq_true rfl) ?_
  intro X htb kret
  refine r_lo (lo' := [(0, .ref (a 15)), (1, .int x)]) [0, 1] rfl ?_
  refine r_aload_n dL_strike_0 0 rfl ?_
  refine r_iload_n dL_strike_1 1 rfl ?_
  refine r_callXVi (nn := 1) (As := [.int x]) (st := []) dL_strike_2 (tX3_strike dt nF nC nE w hg hd x) gL_strike_X3_strike rfl (by decide +kernel) ⟨Nat.le_of_ble_eq_true rfl, Nat.le_of_ble_eq_true rfl⟩ ⟨rfl, rfl⟩ (dw_obj hg) rfl rfl (Nat.le_of_ble_eq_true rfl) ⟨Nat.le_of_ble_eq_true rfl, Nat.le_of_ble_eq_true rfl⟩ rfl (fun Ec hh hp => ?_) (fun r hh hp => ?_)
  · obtain ⟨hp, rfl⟩ := hp
    rcases ox_strike hd hp with ⟨rfl, hm⟩ | ⟨rfl, hm⟩
    · refine rx_catch (tgt := 6) (tableOf []) ⟨0, 5, 6, 13⟩ (tableOf [(0, 5, 10, 22)]) htb (fun z hz => absurd hz List.not_mem_nil) rfl (by decide) clL_strike_13 (by decide +kernel) rfl (fun q9 => ?_)
      refine r_astore_n (lo' := [(2, .ref q9), (0, .ref (a 15)), (1, .int x)]) dL_strike_6 (by decide) rfl ?_
      refine r_ldc (v := (-2000000001)) dL_strike_7 (by decide +kernel) ?_
      exact kret _ _ _ _ _ _ (Nat.le_of_ble_eq_true rfl) (Nat.le_of_ble_eq_true rfl) dL_strike_9 rfl (OP_e hm)
    · refine rx_catch (tgt := 10) (tableOf [(0, 5, 6, 13)]) ⟨0, 5, 10, 22⟩ (tableOf []) htb (fun z hz => by revert z; exact List.forall_mem_cons.mpr ⟨⟨by decide, kIO, clL_strike_13, by decide +kernel⟩, fun z hz => absurd hz List.not_mem_nil⟩) rfl (by decide) clL_strike_22 (by decide +kernel) rfl (fun q9 => ?_)
      refine r_astore_n (lo' := [(2, .ref q9), (0, .ref (a 15)), (1, .int x)]) dL_strike_10 (by decide) rfl ?_
      refine r_ldc (v := (-2000000003)) dL_strike_11 (by decide +kernel) ?_
      exact kret _ _ _ _ _ _ (Nat.le_of_ble_eq_true rfl) (Nat.le_of_ble_eq_true rfl) dL_strike_13 rfl (OP_e hm)
  · obtain ⟨o, ho, rfl, g1, rfl, rfl⟩ := hp
    exact kret _ _ _ _ _ _ (Nat.le_of_ble_eq_true rfl) (Nat.le_of_ble_eq_true rfl) dL_strike_5 rfl (OP_k (ok_strike hd ho g1) rfl hg)
abbrev rmL_mend : Room := { frames := 8, cells := 4, slots := 24, locals := 136 }
theorem clL_mend_13 : Cond.classLink RL 13 "java/lang/IndexOutOfBoundsException" ∈ wsL_mend := by decide +kernel
theorem clL_mend_16 : Cond.classLink RL 16 "java/lang/IllegalArgumentException" ∈ wsL_mend := by decide +kernel
theorem clL_mend_22 : Cond.classLink RL 22 "java/lang/IllegalStateException" ∈ wsL_mend := by decide +kernel
set_option maxHeartbeats 4000000 in
set_option maxRecDepth 100000 in
theorem tL_mend {E : kE} {a cap : Nat → Nat} {h0 : kH} {dt : kM} {nF nC nE w : Nat} (hg : dgeo E a cap nF nC nE h0) (hd : dwf dt nF nC nE w) (x y : Int32) : kXi E yL_mend wsL_mend rmL_mend 4 24 [.ref (a 15), .int x, .int y] (dw E a cap nF nC nE dt h0) (fun _ _ => False) (OPost E a h0 (dw E a cap nF nC nE dt h0) (oMend dt nF nC nE w x y)) := by
  refine kXi_ofH (rt := .int) (own := RL) (cc := cL_mend) (maxL := 4) (hh := [(0, 6, 7, 13), (0, 6, 11, 16), (0, 6, 15, 22)]) (by decide) rfl rfl (Nat.le_of_ble_eq_true rfl) ?_
  intro X htb kret
  refine r_lo (lo' := [(0, .ref (a 15)), (1, .int x), (2, .int y)]) [0, 1, 2] rfl ?_
  refine r_aload_n dL_mend_0 0 rfl ?_
  refine r_iload_n dL_mend_1 1 rfl ?_
  refine r_iload_n dL_mend_2 2 rfl ?_
  refine r_callXVi (nn := 2) (As := [.int x, .int y]) (st := []) dL_mend_3 (tX3_mend dt nF nC nE w hg hd x y) gL_mend_X3_mend rfl (by decide +kernel) ⟨Nat.le_of_ble_eq_true rfl, Nat.le_of_ble_eq_true rfl⟩ ⟨rfl, rfl⟩ (dw_obj hg) rfl rfl (Nat.le_of_ble_eq_true rfl) ⟨Nat.le_of_ble_eq_true rfl, Nat.le_of_ble_eq_true rfl⟩ rfl (fun Ec hh hp => ?_) (fun r hh hp => ?_)
  · obtain ⟨hp, rfl⟩ := hp
    rcases ox_mend hd hp with ⟨rfl, hm⟩ | ⟨rfl, hm⟩ | ⟨rfl, hm⟩
    · refine rx_catch (tgt := 7) (tableOf []) ⟨0, 6, 7, 13⟩ (tableOf [(0, 6, 11, 16), (0, 6, 15, 22)]) htb (fun z hz => absurd hz List.not_mem_nil) rfl (by decide) clL_mend_13 (by decide +kernel) rfl (fun q9 => ?_)
      refine r_astore_n (lo' := [(3, .ref q9), (0, .ref (a 15)), (1, .int x), (2, .int y)]) dL_mend_7 (by decide) rfl ?_
      refine r_ldc (v := (-2000000001)) dL_mend_8 (by decide +kernel) ?_
      exact kret _ _ _ _ _ _ (Nat.le_of_ble_eq_true rfl) (Nat.le_of_ble_eq_true rfl) dL_mend_10 rfl (OP_e hm)
    · refine rx_catch (tgt := 11) (tableOf [(0, 6, 7, 13)]) ⟨0, 6, 11, 16⟩ (tableOf [(0, 6, 15, 22)]) htb (fun z hz => by revert z; exact List.forall_mem_cons.mpr ⟨⟨by decide, kIO, clL_mend_13, by decide +kernel⟩, fun z hz => absurd hz List.not_mem_nil⟩) rfl (by decide) clL_mend_16 (by decide +kernel) rfl (fun q9 => ?_)
      refine r_astore_n (lo' := [(3, .ref q9), (0, .ref (a 15)), (1, .int x), (2, .int y)]) dL_mend_11 (by decide) rfl ?_
      refine r_ldc (v := (-2000000002)) dL_mend_12 (by decide +kernel) ?_
      exact kret _ _ _ _ _ _ (Nat.le_of_ble_eq_true rfl) (Nat.le_of_ble_eq_true rfl) dL_mend_14 rfl (OP_e hm)
    · refine rx_catch (tgt := 15) (tableOf [(0, 6, 7, 13), (0, 6, 11, 16)]) ⟨0, 6, 15, 22⟩ (tableOf []) htb (fun z hz => by revert z; exact List.forall_mem_cons.mpr ⟨⟨by decide, kIO, clL_mend_13, by decide +kernel⟩, List.forall_mem_cons.mpr ⟨⟨by decide, kIA, clL_mend_16, by decide +kernel⟩, fun z hz => absurd hz List.not_mem_nil⟩⟩) rfl (by decide) clL_mend_22 (by decide +kernel) rfl (fun q9 => ?_)
      refine r_astore_n (lo' := [(3, .ref q9), (0, .ref (a 15)), (1, .int x), (2, .int y)]) dL_mend_15 (by decide) rfl ?_
      refine r_ldc (v := (-2000000003)) dL_mend_16 (by decide +kernel) ?_
      exact kret _ _ _ _ _ _ (Nat.le_of_ble_eq_true rfl) (Nat.le_of_ble_eq_true rfl) dL_mend_18 rfl (OP_e hm)
  · obtain ⟨o, ho, rfl, g1, g2, rfl, rfl⟩ := hp
    exact kret _ _ _ _ _ _ (Nat.le_of_ble_eq_true rfl) (Nat.le_of_ble_eq_true rfl) dL_mend_6 rfl (OP_k (ok_mend hd ho g1 g2) rfl hg)
abbrev rmL_promise : Room := { frames := 8, cells := 4, slots := 24, locals := 135 }
theorem clL_promise_13 : Cond.classLink RL 13 "java/lang/IndexOutOfBoundsException" ∈ wsL_promise := by decide +kernel
theorem clL_promise_16 : Cond.classLink RL 16 "java/lang/IllegalArgumentException" ∈ wsL_promise := by decide +kernel
set_option maxHeartbeats 4000000 in
set_option maxRecDepth 100000 in
theorem tL_promise {E : kE} {a cap : Nat → Nat} {h0 : kH} {dt : kM} {nF nC nE w : Nat} (hg : dgeo E a cap nF nC nE h0) (hd : dwf dt nF nC nE w) (x y : Int32) : kXi E yL_promise wsL_promise rmL_promise 4 24 [.ref (a 15), .int x, .int y] (dw E a cap nF nC nE dt h0) (fun _ _ => False) (OPost E a h0 (dw E a cap nF nC nE dt h0) (oPromise dt nF nC nE w x y)) := by
  refine kXi_ofH (rt := .int) (own := RL) (cc := cL_promise) (maxL := 4) (hh := [(0, 6, 7, 13), (0, 6, 11, 16)]) (by decide) rfl rfl (Nat.le_of_ble_eq_true rfl) ?_
  intro X htb kret
  refine r_lo (lo' := [(0, .ref (a 15)), (1, .int x), (2, .int y)]) [0, 1, 2] rfl ?_
  refine r_aload_n dL_promise_0 0 rfl ?_
  refine r_iload_n dL_promise_1 1 rfl ?_
  refine r_iload_n dL_promise_2 2 rfl ?_
  refine r_callXVi (nn := 2) (As := [.int x, .int y]) (st := []) dL_promise_3 (tX3_promise dt nF nC nE w hg hd x y) gL_promise_X3_promise rfl (by decide +kernel) ⟨Nat.le_of_ble_eq_true rfl, Nat.le_of_ble_eq_true rfl⟩ ⟨rfl, rfl⟩ (dw_obj hg) rfl rfl (Nat.le_of_ble_eq_true rfl) ⟨Nat.le_of_ble_eq_true rfl, Nat.le_of_ble_eq_true rfl⟩ rfl (fun Ec hh hp => ?_) (fun r hh hp => ?_)
  · obtain ⟨hp, rfl⟩ := hp
    rcases ox_promise hd hp with ⟨rfl, hm⟩ | ⟨rfl, hm⟩
    · refine rx_catch (tgt := 7) (tableOf []) ⟨0, 6, 7, 13⟩ (tableOf [(0, 6, 11, 16)]) htb (fun z hz => absurd hz List.not_mem_nil) rfl (by decide) clL_promise_13 (by decide +kernel) rfl (fun q9 => ?_)
      refine r_astore_n (lo' := [(3, .ref q9), (0, .ref (a 15)), (1, .int x), (2, .int y)]) dL_promise_7 (by decide) rfl ?_
      refine r_ldc (v := (-2000000001)) dL_promise_8 (by decide +kernel) ?_
      exact kret _ _ _ _ _ _ (Nat.le_of_ble_eq_true rfl) (Nat.le_of_ble_eq_true rfl) dL_promise_10 rfl (OP_e hm)
    · refine rx_catch (tgt := 11) (tableOf [(0, 6, 7, 13)]) ⟨0, 6, 11, 16⟩ (tableOf []) htb (fun z hz => by revert z; exact List.forall_mem_cons.mpr ⟨⟨by decide, kIO, clL_promise_13, by decide +kernel⟩, fun z hz => absurd hz List.not_mem_nil⟩) rfl (by decide) clL_promise_16 (by decide +kernel) rfl (fun q9 => ?_)
      refine r_astore_n (lo' := [(3, .ref q9), (0, .ref (a 15)), (1, .int x), (2, .int y)]) dL_promise_11 (by decide) rfl ?_
      refine r_ldc (v := (-2000000002)) dL_promise_12 (by decide +kernel) ?_
      exact kret _ _ _ _ _ _ (Nat.le_of_ble_eq_true rfl) (Nat.le_of_ble_eq_true rfl) dL_promise_14 rfl (OP_e hm)
  · obtain ⟨g0, g1, rfl, rfl⟩ := hp
    exact kret _ _ _ _ _ _ (Nat.le_of_ble_eq_true rfl) (Nat.le_of_ble_eq_true rfl) dL_promise_6 rfl (OP_k (ok_promise g0 g1) rfl hg)
abbrev rmL_slot : Room := { frames := 8, cells := 4, slots := 24, locals := 133 }
theorem clL_slot_13 : Cond.classLink RL 13 "java/lang/IndexOutOfBoundsException" ∈ wsL_slot := by decide +kernel
theorem clL_slot_22 : Cond.classLink RL 22 "java/lang/IllegalStateException" ∈ wsL_slot := by decide +kernel
set_option maxHeartbeats 4000000 in
set_option maxRecDepth 100000 in
theorem tL_slot {E : kE} {a cap : Nat → Nat} {h0 : kH} {dt : kM} {nF nC nE w : Nat} (hg : dgeo E a cap nF nC nE h0) (hd : dwf dt nF nC nE w) (x y : Int32) : kXi E yL_slot wsL_slot rmL_slot 4 24 [.ref (a 15), .int x, .int y] (dw E a cap nF nC nE dt h0) (fun _ _ => False) (OPost E a h0 (dw E a cap nF nC nE dt h0) (oSlot dt nF nC nE w x y)) := by
  refine kXi_ofH (rt := .int) (own := RL) (cc := cL_slot) (maxL := 4) (hh := [(0, 6, 7, 13), (0, 6, 11, 22)]) (by decide) rfl rfl (Nat.le_of_ble_eq_true rfl) ?_
  intro X htb kret
  refine r_lo (lo' := [(0, .ref (a 15)), (1, .int x), (2, .int y)]) [0, 1, 2] rfl ?_
  refine r_aload_n dL_slot_0 0 rfl ?_
  refine r_iload_n dL_slot_1 1 rfl ?_
  refine r_iload_n dL_slot_2 2 rfl ?_
  refine r_callXVi (nn := 2) (As := [.int x, .int y]) (st := []) dL_slot_3 (tX3_slot dt nF nC nE w hg hd x y) gL_slot_X3_slot rfl (by decide +kernel) ⟨Nat.le_of_ble_eq_true rfl, Nat.le_of_ble_eq_true rfl⟩ ⟨rfl, rfl⟩ (dw_obj hg) rfl rfl (Nat.le_of_ble_eq_true rfl) ⟨Nat.le_of_ble_eq_true rfl, Nat.le_of_ble_eq_true rfl⟩ rfl (fun Ec hh hp => ?_) (fun r hh hp => ?_)
  · obtain ⟨hp, rfl⟩ := hp
    rcases ox_slot hd hp with ⟨rfl, hm⟩ | ⟨rfl, hm⟩
    · refine rx_catch (tgt := 7) (tableOf []) ⟨0, 6, 7, 13⟩ (tableOf [(0, 6, 11, 22)]) htb (fun z hz => absurd hz List.not_mem_nil) rfl (by decide) clL_slot_13 (by decide +kernel) rfl (fun q9 => ?_)
      refine r_astore_n (lo' := [(3, .ref q9), (0, .ref (a 15)), (1, .int x), (2, .int y)]) dL_slot_7 (by decide) rfl ?_
      refine r_ldc (v := (-2000000001)) dL_slot_8 (by decide +kernel) ?_
      exact kret _ _ _ _ _ _ (Nat.le_of_ble_eq_true rfl) (Nat.le_of_ble_eq_true rfl) dL_slot_10 rfl (OP_e hm)
    · refine rx_catch (tgt := 11) (tableOf [(0, 6, 7, 13)]) ⟨0, 6, 11, 22⟩ (tableOf []) htb (fun z hz => by revert z; exact List.forall_mem_cons.mpr ⟨⟨by decide, kIO, clL_slot_13, by decide +kernel⟩, fun z hz => absurd hz List.not_mem_nil⟩) rfl (by decide) clL_slot_22 (by decide +kernel) rfl (fun q9 => ?_)
      refine r_astore_n (lo' := [(3, .ref q9), (0, .ref (a 15)), (1, .int x), (2, .int y)]) dL_slot_11 (by decide) rfl ?_
      refine r_ldc (v := (-2000000003)) dL_slot_12 (by decide +kernel) ?_
      exact kret _ _ _ _ _ _ (Nat.le_of_ble_eq_true rfl) (Nat.le_of_ble_eq_true rfl) dL_slot_14 rfl (OP_e hm)
  · obtain ⟨g0, g1, g2, g3, rfl, rfl⟩ := hp
    exact kret _ _ _ _ _ _ (Nat.le_of_ble_eq_true rfl) (Nat.le_of_ble_eq_true rfl) dL_slot_6 rfl (OP_k (ok_slot g0 g1 g2 g3) rfl hg)
