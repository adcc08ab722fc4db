/-! the law's wrappers that ask -/
abbrev rmL_shown : Room := { frames := 7, cells := 1, slots := 6, locals := 112 }
theorem clL_shown_13 : Cond.classLink RL 13 "java/lang/IndexOutOfBoundsException" ∈ wsL_shown := by decide +kernel
theorem clL_shown_16 : Cond.classLink RL 16 "java/lang/IllegalArgumentException" ∈ wsL_shown := by decide +kernel
set_option maxHeartbeats 4000000 in
set_option maxRecDepth 100000 in
theorem tR_shown {E : kE} {q : Nat} {dt : kM} {nF nC nE w : Nat} {H : kH} (D : Dk E q dt nF nC nE w H) (x y : Int32) : kXi E yL_shown wsL_shown rmL_shown 1 6 [.ref q, .int x, .int y] H (fun _ _ => False) (fun r h' => r = vShown dt nF nC nE w x y ∧ h' = H) := by
  obtain ⟨a, cap, h0, rfl, hg, hd, rfl⟩ := D
  refine kXi_ofH (rt := .int) (own := RL) (cc := cL_shown) (maxL := 4) (hh := [(0, 6, 7, 13), (0, 6, 11, 16)]) (by decide) rfl rfl (Nat.le_of_ble_eq_true rfl) ?_
  intro X htb kret
  refine r_lo (lo' := [(0, .ref (a 15)), (1, .int x), (2, .int y)]) [0, 1, 2] rfl ?_
  refine r_aload_n dL_shown_0 0 rfl ?_
  refine r_iload_n dL_shown_1 1 rfl ?_
  refine r_iload_n dL_shown_2 2 rfl ?_
  refine r_callXVi (nn := 2) (As := [.int x, .int y]) (st := []) dL_shown_3 (tX3_shown dt nF nC nE w hg hd x y) gL_shown_X3_shown rfl (by decide +kernel) ⟨Nat.le_of_ble_eq_true rfl, Nat.le_of_ble_eq_true rfl⟩ ⟨rfl, rfl⟩ (dw_obj hg) rfl rfl (Nat.le_of_ble_eq_true rfl) ⟨Nat.le_of_ble_eq_true rfl, Nat.le_of_ble_eq_true rfl⟩ rfl (fun Ec hh hp => ?_) (fun r hh hp => ?_)
  · obtain ⟨hp, rfl⟩ := hp
    rcases ox_shown hd hp with ⟨rfl, hm⟩ | ⟨rfl, hm⟩
    · refine rx_catch (tgt := 7) (tableOf []) ⟨0, 6, 7, 13⟩ (tableOf [(0, 6, 11, 16)]) htb (fun z hz => absurd hz List.not_mem_nil) rfl (by decide) clL_shown_13 (by decide +kernel) rfl (fun q9 => ?_)
      refine r_astore_n (lo' := [(3, .ref q9), (0, .ref (a 15)), (1, .int x), (2, .int y)]) dL_shown_7 (by decide) rfl ?_
      refine r_ldc (v := (-2000000001)) dL_shown_8 (by decide +kernel) ?_
      exact kret _ _ _ _ _ _ (Nat.le_of_ble_eq_true rfl) (Nat.le_of_ble_eq_true rfl) dL_shown_10 rfl (⟨hm.symm, rfl⟩)
    · refine rx_catch (tgt := 11) (tableOf [(0, 6, 7, 13)]) ⟨0, 6, 11, 16⟩ (tableOf []) htb (fun z hz => by revert z; exact List.forall_mem_cons.mpr ⟨⟨by decide, kIO, clL_shown_13, by decide +kernel⟩, fun z hz => absurd hz List.not_mem_nil⟩) rfl (by decide) clL_shown_16 (by decide +kernel) rfl (fun q9 => ?_)
      refine r_astore_n (lo' := [(3, .ref q9), (0, .ref (a 15)), (1, .int x), (2, .int y)]) dL_shown_11 (by decide) rfl ?_
      refine r_ldc (v := (-2000000002)) dL_shown_12 (by decide +kernel) ?_
      exact kret _ _ _ _ _ _ (Nat.le_of_ble_eq_true rfl) (Nat.le_of_ble_eq_true rfl) dL_shown_14 rfl (⟨hm.symm, rfl⟩)
  · obtain ⟨g0, g1, rfl, rfl⟩ := hp
    exact kret _ _ _ _ _ _ (Nat.le_of_ble_eq_true rfl) (Nat.le_of_ble_eq_true rfl) dL_shown_6 rfl (⟨(ok_shown g0 g1).symm, rfl⟩)
abbrev rmL_points : Room := { frames := 8, cells := 2, slots := 12, locals := 134 }
theorem clL_points_13 : Cond.classLink RL 13 "java/lang/IndexOutOfBoundsException" ∈ wsL_points := by decide +kernel
set_option maxHeartbeats 4000000 in
set_option maxRecDepth 100000 in
theorem tR_points {E : kE} {q : Nat} {dt : kM} {nF nC nE w : Nat} {H : kH} (D : Dk E q dt nF nC nE w H) (x y : Int32) : kXi E yL_points wsL_points rmL_points 2 12 [.ref q, .int x, .int y] H (fun _ _ => False) (fun r h' => r = vPoints dt nF nC nE w x y ∧ h' = H) := by
  obtain ⟨a, cap, h0, rfl, hg, hd, rfl⟩ := D
  refine kXi_ofH (rt := .int) (own := RL) (cc := cL_points) (maxL := 4) (hh := [(0, 6, 7, 13)]) (by decide) rfl rfl (Nat.le_of_ble_eq_true rfl) ?_
  intro X htb kret
  refine r_lo (lo' := [(0, .ref (a 15)), (1, .int x), (2, .int y)]) [0, 1, 2] rfl ?_
  refine r_aload_n dL_points_0 0 rfl ?_
  refine r_iload_n dL_points_1 1 rfl ?_
  refine r_iload_n dL_points_2 2 rfl ?_
  refine r_callXVi (nn := 2) (As := [.int x, .int y]) (st := []) dL_points_3 (tX3_points dt nF nC nE w hg hd x y) gL_points_X3_points rfl (by decide +kernel) ⟨Nat.le_of_ble_eq_true rfl, Nat.le_of_ble_eq_true rfl⟩ ⟨rfl, rfl⟩ (dw_obj hg) rfl rfl (Nat.le_of_ble_eq_true rfl) ⟨Nat.le_of_ble_eq_true rfl, Nat.le_of_ble_eq_true rfl⟩ rfl (fun Ec hh hp => ?_) (fun r hh hp => ?_)
  · obtain ⟨hp, rfl⟩ := hp
    obtain ⟨rfl, hm⟩ := ox_points hd hp
    refine rx_catch (tgt := 7) (tableOf []) ⟨0, 6, 7, 13⟩ (tableOf []) htb (fun z hz => absurd hz List.not_mem_nil) rfl (by decide) clL_points_13 (by decide +kernel) rfl (fun q9 => ?_)
    refine r_astore_n (lo' := [(3, .ref q9), (0, .ref (a 15)), (1, .int x), (2, .int y)]) dL_points_7 (by decide) rfl ?_
    refine r_ldc (v := (-2000000001)) dL_points_8 (by decide +kernel) ?_
    exact kret _ _ _ _ _ _ (Nat.le_of_ble_eq_true rfl) (Nat.le_of_ble_eq_true rfl) dL_points_10 rfl (⟨hm.symm, rfl⟩)
  · obtain ⟨o, ho, rfl, g1, rfl, rfl⟩ := hp
    exact kret _ _ _ _ _ _ (Nat.le_of_ble_eq_true rfl) (Nat.le_of_ble_eq_true rfl) dL_points_6 rfl (⟨(ok_points hd ho g1).symm, rfl⟩)
abbrev rmL_overlay : Room := { frames := 8, cells := 2, slots := 12, locals := 134 }
theorem clL_overlay_13 : Cond.classLink RL 13 "java/lang/IndexOutOfBoundsException" ∈ wsL_overlay := by decide +kernel
set_option maxHeartbeats 4000000 in
set_option maxRecDepth 100000 in
theorem tR_overlay {E : kE} {q : Nat} {dt : kM} {nF nC nE w : Nat} {H : kH} (D : Dk E q dt nF nC nE w H) (x y : Int32) : kXi E yL_overlay wsL_overlay rmL_overlay 2 12 [.ref q, .int x, .int y] H (fun _ _ => False) (fun r h' => r = vOverlay dt nF nC nE w x y ∧ h' = H) := by
  obtain ⟨a, cap, h0, rfl, hg, hd, rfl⟩ := D
  refine kXi_ofH (rt := .int) (own := RL) (cc := cL_overlay) (maxL := 4) (hh := [(0, 6, 7, 13)]) (by decide) rfl rfl (Nat.le_of_ble_eq_true rfl) ?_
  intro X htb kret
  refine r_lo (lo' := [(0, .ref (a 15)), (1, .int x), (2, .int y)]) [0, 1, 2] rfl ?_
  refine r_aload_n dL_overlay_0 0 rfl ?_
  refine r_iload_n dL_overlay_1 1 rfl ?_
  refine r_iload_n dL_overlay_2 2 rfl ?_
  refine r_callXVi (nn := 2) (As := [.int x, .int y]) (st := []) dL_overlay_3 (tX3_overlay dt nF nC nE w hg hd x y) gL_overlay_X3_overlay rfl (by decide +kernel) ⟨Nat.le_of_ble_eq_true rfl, Nat.le_of_ble_eq_true rfl⟩ ⟨rfl, rfl⟩ (dw_obj hg) rfl rfl (Nat.le_of_ble_eq_true rfl) ⟨Nat.le_of_ble_eq_true rfl, Nat.le_of_ble_eq_true rfl⟩ rfl (fun Ec hh hp => ?_) (fun r hh hp => ?_)
  · obtain ⟨hp, rfl⟩ := hp
    obtain ⟨rfl, hm⟩ := ox_overlay hd hp
    refine rx_catch (tgt := 7) (tableOf []) ⟨0, 6, 7, 13⟩ (tableOf []) htb (fun z hz => absurd hz List.not_mem_nil) rfl (by decide) clL_overlay_13 (by decide +kernel) rfl (fun q9 => ?_)
    refine r_astore_n (lo' := [(3, .ref q9), (0, .ref (a 15)), (1, .int x), (2, .int y)]) dL_overlay_7 (by decide) rfl ?_
    refine r_ldc (v := (-2000000001)) dL_overlay_8 (by decide +kernel) ?_
    exact kret _ _ _ _ _ _ (Nat.le_of_ble_eq_true rfl) (Nat.le_of_ble_eq_true rfl) dL_overlay_10 rfl (⟨hm.symm, rfl⟩)
  · obtain ⟨o, ho, rfl, g1, rfl, rfl⟩ := hp
    exact kret _ _ _ _ _ _ (Nat.le_of_ble_eq_true rfl) (Nat.le_of_ble_eq_true rfl) dL_overlay_6 rfl (⟨(ok_overlay hd ho g1).symm, rfl⟩)
abbrev rmL_fightOf : Room := { frames := 8, cells := 2, slots := 12, locals := 134 }
theorem clL_fightOf_13 : Cond.classLink RL 13 "java/lang/IndexOutOfBoundsException" ∈ wsL_fightOf := by decide +kernel
theorem clL_fightOf_16 : Cond.classLink RL 16 "java/lang/IllegalArgumentException" ∈ wsL_fightOf := by decide +kernel
set_option maxHeartbeats 4000000 in
set_option maxRecDepth 100000 in
theorem tR_fightOf {E : kE} {q : Nat} {dt : kM} {nF nC nE w : Nat} {H : kH} (D : Dk E q dt nF nC nE w H) (x y : Int32) : kXi E yL_fightOf wsL_fightOf rmL_fightOf 2 12 [.ref q, .int x, .int y] H (fun _ _ => False) (fun r h' => r = vFightOf dt nF nC nE w x y ∧ h' = H) := by
  obtain ⟨a, cap, h0, rfl, hg, hd, rfl⟩ := D
  refine kXi_ofH (rt := .int) (own := RL) (cc := cL_fightOf) (maxL := 4) (hh := [(0, 6, 7, 13), (0, 6, 11, 16)]) (by decide) rfl rfl (Nat.le_of_ble_eq_true rfl) ?_
  intro X htb kret
  refine r_lo (lo' := [(0, .ref (a 15)), (1, .int x), (2, .int y)]) [0, 1, 2] rfl ?_
  refine r_aload_n dL_fightOf_0 0 rfl ?_
  refine r_iload_n dL_fightOf_1 1 rfl ?_
  refine r_iload_n dL_fightOf_2 2 rfl ?_
  refine r_callXVi (nn := 2) (As := [.int x, .int y]) (st := []) dL_fightOf_3 (tX3_fightOf dt nF nC nE w hg hd x y) gL_fightOf_X3_fightOf rfl (by decide +kernel) ⟨Nat.le_of_ble_eq_true rfl, Nat.le_of_ble_eq_true rfl⟩ ⟨rfl, rfl⟩ (dw_obj hg) rfl rfl (Nat.le_of_ble_eq_true rfl) ⟨Nat.le_of_ble_eq_true rfl, Nat.le_of_ble_eq_true rfl⟩ rfl (fun Ec hh hp => ?_) (fun r hh hp => ?_)
  · obtain ⟨hp, rfl⟩ := hp
    rcases ox_fightOf hd hp with ⟨rfl, hm⟩ | ⟨rfl, hm⟩
    · refine rx_catch (tgt := 7) (tableOf []) ⟨0, 6, 7, 13⟩ (tableOf [(0, 6, 11, 16)]) htb (fun z hz => absurd hz List.not_mem_nil) rfl (by decide) clL_fightOf_13 (by decide +kernel) rfl (fun q9 => ?_)
      refine r_astore_n (lo' := [(3, .ref q9), (0, .ref (a 15)), (1, .int x), (2, .int y)]) dL_fightOf_7 (by decide) rfl ?_
      refine r_ldc (v := (-2000000001)) dL_fightOf_8 (by decide +kernel) ?_
      exact kret _ _ _ _ _ _ (Nat.le_of_ble_eq_true rfl) (Nat.le_of_ble_eq_true rfl) dL_fightOf_10 rfl (⟨hm.symm, rfl⟩)
    · refine rx_catch (tgt := 11) (tableOf [(0, 6, 7, 13)]) ⟨0, 6, 11, 16⟩ (tableOf []) htb (fun z hz => by revert z; exact List.forall_mem_cons.mpr ⟨⟨by decide, kIO, clL_fightOf_13, by decide +kernel⟩, fun z hz => absurd hz List.not_mem_nil⟩) rfl (by decide) clL_fightOf_16 (by decide +kernel) rfl (fun q9 => ?_)
      refine r_astore_n (lo' := [(3, .ref q9), (0, .ref (a 15)), (1, .int x), (2, .int y)]) dL_fightOf_11 (by decide) rfl ?_
      refine r_ldc (v := (-2000000002)) dL_fightOf_12 (by decide +kernel) ?_
      exact kret _ _ _ _ _ _ (Nat.le_of_ble_eq_true rfl) (Nat.le_of_ble_eq_true rfl) dL_fightOf_14 rfl (⟨hm.symm, rfl⟩)
  · obtain ⟨o, ho, rfl, g1, rfl, rfl⟩ := hp
    exact kret _ _ _ _ _ _ (Nat.le_of_ble_eq_true rfl) (Nat.le_of_ble_eq_true rfl) dL_fightOf_6 rfl (⟨(ok_fightOf hd ho g1).symm, rfl⟩)
abbrev rmL_cameraOf : Room := { frames := 7, cells := 1, slots := 6, locals := 113 }
theorem clL_cameraOf_13 : Cond.classLink RL 13 "java/lang/IndexOutOfBoundsException" ∈ wsL_cameraOf := by decide +kernel
theorem clL_cameraOf_16 : Cond.classLink RL 16 "java/lang/IllegalArgumentException" ∈ wsL_cameraOf := by decide +kernel
set_option maxHeartbeats 4000000 in
set_option maxRecDepth 100000 in
theorem tR_cameraOf {E : kE} {q : Nat} {dt : kM} {nF nC nE w : Nat} {H : kH} (D : Dk E q dt nF nC nE w H) (x y : Int32) : kXi E yL_cameraOf wsL_cameraOf rmL_cameraOf 1 6 [.ref q, .int x, .int y] H (fun _ _ => False) (fun r h' => r = vCameraOf dt nF nC nE w x y ∧ h' = H) := by
  obtain ⟨a, cap, h0, rfl, hg, hd, rfl⟩ := D
  refine kXi_ofH (rt := .int) (own := RL) (cc := cL_cameraOf) (maxL := 4) (hh := [(0, 6, 7, 13), (0, 6, 11, 16)]) (by decide) rfl rfl (Nat.le_of_ble_eq_true rfl) ?_
  intro X htb kret
  refine r_lo (lo' := [(0, .ref (a 15)), (1, .int x), (2, .int y)]) [0, 1, 2] rfl ?_
  refine r_aload_n dL_cameraOf_0 0 rfl ?_
  refine r_iload_n dL_cameraOf_1 1 rfl ?_
  refine r_iload_n dL_cameraOf_2 2 rfl ?_
  refine r_callXVi (nn := 2) (As := [.int x, .int y]) (st := []) dL_cameraOf_3 (tX3_cameraOf dt nF nC nE w hg hd x y) gL_cameraOf_X3_cameraOf rfl (by decide +kernel) ⟨Nat.le_of_ble_eq_true rfl, Nat.le_of_ble_eq_true rfl⟩ ⟨rfl, rfl⟩ (dw_obj hg) rfl rfl (Nat.le_of_ble_eq_true rfl) ⟨Nat.le_of_ble_eq_true rfl, Nat.le_of_ble_eq_true rfl⟩ rfl (fun Ec hh hp => ?_) (fun r hh hp => ?_)
  · obtain ⟨hp, rfl⟩ := hp
    rcases ox_cameraOf hd hp with ⟨rfl, hm⟩ | ⟨rfl, hm⟩
    · refine rx_catch (tgt := 7) (tableOf []) ⟨0, 6, 7, 13⟩ (tableOf [(0, 6, 11, 16)]) htb (fun z hz => absurd hz List.not_mem_nil) rfl (by decide) clL_cameraOf_13 (by decide +kernel) rfl (fun q9 => ?_)
      refine r_astore_n (lo' := [(3, .ref q9), (0, .ref (a 15)), (1, .int x), (2, .int y)]) dL_cameraOf_7 (by decide) rfl ?_
      refine r_ldc (v := (-2000000001)) dL_cameraOf_8 (by decide +kernel) ?_
      exact kret _ _ _ _ _ _ (Nat.le_of_ble_eq_true rfl) (Nat.le_of_ble_eq_true rfl) dL_cameraOf_10 rfl (⟨hm.symm, rfl⟩)
    · refine rx_catch (tgt := 11) (tableOf [(0, 6, 7, 13)]) ⟨0, 6, 11, 16⟩ (tableOf []) htb (fun z hz => by revert z; exact List.forall_mem_cons.mpr ⟨⟨by decide, kIO, clL_cameraOf_13, by decide +kernel⟩, fun z hz => absurd hz List.not_mem_nil⟩) rfl (by decide) clL_cameraOf_16 (by decide +kernel) rfl (fun q9 => ?_)
      refine r_astore_n (lo' := [(3, .ref q9), (0, .ref (a 15)), (1, .int x), (2, .int y)]) dL_cameraOf_11 (by decide) rfl ?_
      refine r_ldc (v := (-2000000002)) dL_cameraOf_12 (by decide +kernel) ?_
      exact kret _ _ _ _ _ _ (Nat.le_of_ble_eq_true rfl) (Nat.le_of_ble_eq_true rfl) dL_cameraOf_14 rfl (⟨hm.symm, rfl⟩)
  · obtain ⟨o, ho, rfl, g1, rfl, rfl⟩ := hp
    exact kret _ _ _ _ _ _ (Nat.le_of_ble_eq_true rfl) (Nat.le_of_ble_eq_true rfl) dL_cameraOf_6 rfl (⟨(ok_cameraOf hd ho g1).symm, rfl⟩)
abbrev rmL_counted : Room := { frames := 8, cells := 1, slots := 6, locals := 131 }
theorem clL_counted_13 : Cond.classLink RL 13 "java/lang/IndexOutOfBoundsException" ∈ wsL_counted := by decide +kernel
set_option maxHeartbeats 4000000 in
set_option maxRecDepth 100000 in
theorem tR_counted {E : kE} {q : Nat} {dt : kM} {nF nC nE w : Nat} {H : kH} (D : Dk E q dt nF nC nE w H) (x : Int32) : kXi E yL_counted wsL_counted rmL_counted 1 6 [.ref q, .int x] H (fun _ _ => False) (fun r h' => r = vCounted dt nF nC nE w x ∧ h' = H) := by
  obtain ⟨a, cap, h0, rfl, hg, hd, rfl⟩ := D
  refine kXi_ofH (rt := .int) (own := RL) (cc := cL_counted) (maxL := 3) (hh := [(0, 5, 6, 13)]) (by decide) rfl rfl (Nat.le_of_ble_eq_true rfl) ?_
  intro X htb kret
  refine r_lo (lo' := [(0, .ref (a 15)), (1, .int x)]) [0, 1] rfl ?_
  refine r_aload_n dL_counted_0 0 rfl ?_
  refine r_iload_n dL_counted_1 1 rfl ?_
  refine r_callXVi (nn := 1) (As := [.int x]) (st := []) dL_counted_2 (tX3_counted dt nF nC nE w hg hd x) gL_counted_X3_counted rfl (by decide +kernel) ⟨Nat.le_of_ble_eq_true rfl, Nat.le_of_ble_eq_true rfl⟩ ⟨rfl, rfl⟩ (dw_obj hg) rfl rfl (Nat.le_of_ble_eq_true rfl) ⟨Nat.le_of_ble_eq_true rfl, Nat.le_of_ble_eq_true rfl⟩ rfl (fun Ec hh hp => ?_) (fun r hh hp => ?_)
  · obtain ⟨hp, rfl⟩ := hp
    obtain ⟨rfl, hm⟩ := ox_counted hd hp
    refine rx_catch (tgt := 6) (tableOf []) ⟨0, 5, 6, 13⟩ (tableOf []) htb (fun z hz => absurd hz List.not_mem_nil) rfl (by decide) clL_counted_13 (by decide +kernel) rfl (fun q9 => ?_)
    refine r_astore_n (lo' := [(2, .ref q9), (0, .ref (a 15)), (1, .int x)]) dL_counted_6 (by decide) rfl ?_
    refine r_ldc (v := (-2000000001)) dL_counted_7 (by decide +kernel) ?_
    exact kret _ _ _ _ _ _ (Nat.le_of_ble_eq_true rfl) (Nat.le_of_ble_eq_true rfl) dL_counted_9 rfl (⟨hm.symm, rfl⟩)
  · obtain ⟨g0, rfl, rfl⟩ := hp
    exact kret _ _ _ _ _ _ (Nat.le_of_ble_eq_true rfl) (Nat.le_of_ble_eq_true rfl) dL_counted_5 rfl (⟨(ok_counted g0).symm, rfl⟩)
abbrev rmL_anew : Room := { frames := 8, cells := 1, slots := 6, locals := 133 }
theorem clL_anew_13 : Cond.classLink RL 13 "java/lang/IndexOutOfBoundsException" ∈ wsL_anew := by decide +kernel
set_option maxHeartbeats 4000000 in
set_option maxRecDepth 100000 in
theorem tR_anew {E : kE} {q : Nat} {dt : kM} {nF nC nE w : Nat} {H : kH} (D : Dk E q dt nF nC nE w H) (x : Int32) : kXi E yL_anew wsL_anew rmL_anew 1 6 [.ref q, .int x] H (fun _ _ => False) (fun r h' => r = vAnew dt nF nC nE w x ∧ h' = H) := by
  obtain ⟨a, cap, h0, rfl, hg, hd, rfl⟩ := D
  refine kXi_ofH (rt := .int) (own := RL) (cc := cL_anew) (maxL := 3) (hh := [(0, 5, 6, 13)]) (by decide) rfl rfl (Nat.le_of_ble_eq_true rfl) ?_
  intro X htb kret
  refine r_lo (lo' := [(0, .ref (a 15)), (1, .int x)]) [0, 1] rfl ?_
  refine r_aload_n dL_anew_0 0 rfl ?_
  refine r_iload_n dL_anew_1 1 rfl ?_
  refine r_callXVi (nn := 1) (As := [.int x]) (st := []) dL_anew_2 (tX3_countedAnew dt nF nC nE w hg hd x) gL_anew_X3_countedAnew rfl (by decide +kernel) ⟨Nat.le_of_ble_eq_true rfl, Nat.le_of_ble_eq_true rfl⟩ ⟨rfl, rfl⟩ (dw_obj hg) rfl rfl (Nat.le_of_ble_eq_true rfl) ⟨Nat.le_of_ble_eq_true rfl, Nat.le_of_ble_eq_true rfl⟩ rfl (fun Ec hh hp => ?_) (fun r hh hp => ?_)
  · obtain ⟨hp, rfl⟩ := hp
    obtain ⟨rfl, hm⟩ := ox_anew hd hp
    refine rx_catch (tgt := 6) (tableOf []) ⟨0, 5, 6, 13⟩ (tableOf []) htb (fun z hz => absurd hz List.not_mem_nil) rfl (by decide) clL_anew_13 (by decide +kernel) rfl (fun q9 => ?_)
    refine r_astore_n (lo' := [(2, .ref q9), (0, .ref (a 15)), (1, .int x)]) dL_anew_6 (by decide) rfl ?_
    refine r_ldc (v := (-2000000001)) dL_anew_7 (by decide +kernel) ?_
    exact kret _ _ _ _ _ _ (Nat.le_of_ble_eq_true rfl) (Nat.le_of_ble_eq_true rfl) dL_anew_9 rfl (⟨hm.symm, rfl⟩)
  · obtain ⟨g0, rfl, rfl⟩ := hp
    exact kret _ _ _ _ _ _ (Nat.le_of_ble_eq_true rfl) (Nat.le_of_ble_eq_true rfl) dL_anew_5 rfl (⟨(ok_anew g0).symm, rfl⟩)
abbrev rmL_owed : Room := { frames := 8, cells := 1, slots := 6, locals := 131 }
theorem clL_owed_13 : Cond.classLink RL 13 "java/lang/IndexOutOfBoundsException" ∈ wsL_owed := by decide +kernel
set_option maxHeartbeats 4000000 in
set_option maxRecDepth 100000 in
theorem tR_owed {E : kE} {q : Nat} {dt : kM} {nF nC nE w : Nat} {H : kH} (D : Dk E q dt nF nC nE w H) (x : Int32) : kXi E yL_owed wsL_owed rmL_owed 1 6 [.ref q, .int x] H (fun _ _ => False) (fun r h' => r = vOwed dt nF nC nE w x ∧ h' = H) := by
  obtain ⟨a, cap, h0, rfl, hg, hd, rfl⟩ := D
  refine kXi_ofH (rt := .int) (own := RL) (cc := cL_owed) (maxL := 3) (hh := [(0, 5, 6, 13)]) (by decide) rfl rfl (Nat.le_of_ble_eq_true rfl) ?_
  intro X htb kret
  refine r_lo (lo' := [(0, .ref (a 15)), (1, .int x)]) [0, 1] rfl ?_
  refine r_aload_n dL_owed_0 0 rfl ?_
  refine r_iload_n dL_owed_1 1 rfl ?_
  refine r_callXVi (nn := 1) (As := [.int x]) (st := []) dL_owed_2 (tX3_owed dt nF nC nE w hg hd x) gL_owed_X3_owed rfl (by decide +kernel) ⟨Nat.le_of_ble_eq_true rfl, Nat.le_of_ble_eq_true rfl⟩ ⟨rfl, rfl⟩ (dw_obj hg) rfl rfl (Nat.le_of_ble_eq_true rfl) ⟨Nat.le_of_ble_eq_true rfl, Nat.le_of_ble_eq_true rfl⟩ rfl (fun Ec hh hp => ?_) (fun r hh hp => ?_)
  · obtain ⟨hp, rfl⟩ := hp
    obtain ⟨rfl, hm⟩ := ox_owed hd hp
    refine rx_catch (tgt := 6) (tableOf []) ⟨0, 5, 6, 13⟩ (tableOf []) htb (fun z hz => absurd hz List.not_mem_nil) rfl (by decide) clL_owed_13 (by decide +kernel) rfl (fun q9 => ?_)
    refine r_astore_n (lo' := [(2, .ref q9), (0, .ref (a 15)), (1, .int x)]) dL_owed_6 (by decide) rfl ?_
    refine r_ldc (v := (-2000000001)) dL_owed_7 (by decide +kernel) ?_
    exact kret _ _ _ _ _ _ (Nat.le_of_ble_eq_true rfl) (Nat.le_of_ble_eq_true rfl) dL_owed_9 rfl (⟨hm.symm, rfl⟩)
  · obtain ⟨g0, ⟨j, hj, rfl, rfl⟩, rfl⟩ := hp
    exact kret _ _ _ _ _ _ (Nat.le_of_ble_eq_true rfl) (Nat.le_of_ble_eq_true rfl) dL_owed_5 rfl (⟨by rw [ok_owed g0, nI_clamp (by omega)], rfl⟩)
abbrev rmL_leader : Room := { frames := 7, cells := 1, slots := 6, locals := 112 }
theorem clL_leader_13 : Cond.classLink RL 13 "java/lang/IndexOutOfBoundsException" ∈ wsL_leader := by decide +kernel
set_option maxHeartbeats 4000000 in
set_option maxRecDepth 100000 in
theorem tR_leader {E : kE} {q : Nat} {dt : kM} {nF nC nE w : Nat} {H : kH} (D : Dk E q dt nF nC nE w H) (x : Int32) : kXi E yL_leader wsL_leader rmL_leader 1 6 [.ref q, .int x] H (fun _ _ => False) (fun r h' => PLea dt x r ∧ h' = H) := by
  obtain ⟨a, cap, h0, rfl, hg, hd, rfl⟩ := D
  refine kXi_ofH (rt := .int) (own := RL) (cc := cL_leader) (maxL := 3) (hh := [(0, 5, 6, 13)]) (by decide) rfl rfl (Nat.le_of_ble_eq_true rfl) ?_
  intro X htb kret
  refine r_lo (lo' := [(0, .ref (a 15)), (1, .int x)]) [0, 1] rfl ?_
  refine r_aload_n dL_leader_0 0 rfl ?_
  refine r_iload_n dL_leader_1 1 rfl ?_
  refine r_callXVi (nn := 1) (As := [.int x]) (st := []) dL_leader_2 (tX3_leader dt nF nC nE w hg hd x) gL_leader_X3_leader rfl (by decide +kernel) ⟨Nat.le_of_ble_eq_true rfl, Nat.le_of_ble_eq_true rfl⟩ ⟨rfl, rfl⟩ (dw_obj hg) rfl rfl (Nat.le_of_ble_eq_true rfl) ⟨Nat.le_of_ble_eq_true rfl, Nat.le_of_ble_eq_true rfl⟩ rfl (fun Ec hh hp => ?_) (fun r hh hp => ?_)
  · obtain ⟨hp, rfl⟩ := hp
    obtain ⟨rfl, hm⟩ := hp
    refine rx_catch (tgt := 6) (tableOf []) ⟨0, 5, 6, 13⟩ (tableOf []) htb (fun z hz => absurd hz List.not_mem_nil) rfl (by decide) clL_leader_13 (by decide +kernel) rfl (fun q9 => ?_)
    refine r_astore_n (lo' := [(2, .ref q9), (0, .ref (a 15)), (1, .int x)]) dL_leader_6 (by decide) rfl ?_
    refine r_ldc (v := (-2000000001)) dL_leader_7 (by decide +kernel) ?_
    exact kret _ _ _ _ _ _ (Nat.le_of_ble_eq_true rfl) (Nat.le_of_ble_eq_true rfl) dL_leader_9 rfl (⟨Or.inl ⟨hm, rfl⟩, rfl⟩)
  · obtain ⟨g0, g1, rfl⟩ := hp
    exact kret _ _ _ _ _ _ (Nat.le_of_ble_eq_true rfl) (Nat.le_of_ble_eq_true rfl) dL_leader_5 rfl (⟨Or.inr ⟨g0, g1⟩, rfl⟩)
theorem tR_frame {E : kE} {q : Nat} {dt : kM} {nF nC nE w : Nat} {H : kH} (D : Dk E q dt nF nC nE w H) : kCi E yX3_frame wsX3_frame rmX3_frame 0 0 [.ref q] H (fun r h' => r = nI w ∧ h' = H) := by
  obtain ⟨a, cap, h0, rfl, hg, hd, rfl⟩ := D
  rw [← dwf_w hd]
  exact tX3_frame dt nF nC nE hg
theorem tR_seen {E : kE} {q : Nat} {dt : kM} {nF nC nE w : Nat} {H : kH} (D : Dk E q dt nF nC nE w H) : kCi E yX3_seen wsX3_seen rmX3_seen 0 0 [.ref q] H (fun r h' => r = dt 3 0 ∧ h' = H) := by
  obtain ⟨a, cap, h0, rfl, hg, hd, rfl⟩ := D
  exact tX3_seen dt nF nC nE hg
