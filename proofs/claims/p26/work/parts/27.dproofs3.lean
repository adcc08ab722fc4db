theorem dwf_w {dt : kM} {nF nC nE w : Nat} (h : dwf dt nF nC nE w) : dt 1 0 = nI w := h.2.2.2.2.2.2.1
theorem dCams_g (dt : kM) (cam : Int32) (n : Nat) {g : Nat} (h1 : g ≠ 13) (h2 : g ≠ 14) : dCams dt cam n g = dt g := by
  induction n with
  | zero => rfl
  | succ k ih =>
    rw [dCams]
    split
    · unfold dOn
      split
      · simp [ma, h1, ih]
      · simp [ma, h1, h2, ih]
    · simp [dOff, ma, h1, h2, ih]
theorem dCams_wf {dt : kM} {cam : Int32} {n nF nC nE w : Nat} (h : dwf dt nF nC nE w) : dwf (dCams dt cam n) nF nC nE w := by
  refine dwf_c h ?_ ?_ ?_ ?_ ?_ ?_ ?_ ?_ ?_ <;> exact dCams_g dt cam n (by decide) (by decide)
theorem dBlo_g (dt : kM) (n : Nat) {g : Nat} (h1 : g ≠ 32) : dBlo dt n g = dt g := by
  induction n with
  | zero => rfl
  | succ k ih =>
    rw [dBlo]
    simp [ma, h1, ih]
theorem dBlo_wf {dt : kM} {n nF nC nE w : Nat} (h : dwf dt nF nC nE w) : dwf (dBlo dt n) nF nC nE w := by
  refine dwf_c h ?_ ?_ ?_ ?_ ?_ ?_ ?_ ?_ ?_ <;> exact dBlo_g dt n (by decide)
theorem dCan_nI {dt : kM} {nC i : Nat} (hi : i < nC) (h : nC ≤ 6) : dCan dt nC (nI i) = if dt 14 i = 0 then 1 else 0 := by
  rw [dCan, if_neg (nI_pos (by omega)), if_pos (nI_lt hi (by omega)), nI_clamp (by omega)]
theorem dCan_t {dt : kM} {nC i : Nat} (hi : i < nC) (h : nC ≤ 6) (c : ¬ dCan dt nC (nI i) = 0) : dt 14 i = 0 := by
  rw [dCan_nI hi h] at c
  by_cases q : dt 14 i = 0
  · exact q
  · rw [if_neg q] at c; exact absurd rfl c
theorem dCan_f {dt : kM} {nC i : Nat} (hi : i < nC) (h : nC ≤ 6) (c : dCan dt nC (nI i) = 0) : ¬ dt 14 i = 0 := by
  intro q
  rw [dCan_nI hi h, if_pos q] at c
  exact absurd c (by decide)
theorem dCamL_s {dt : kM} {nC i : Nat} (hi : i < nC) : dCamL dt nC (nC - i) = if dt 14 i = 0 then nI i else dCamL dt nC (nC - (i + 1)) := by
  have e : nC - i = (nC - (i + 1)) + 1 := by omega
  rw [e, dCamL, show nC - (nC - (i + 1) + 1) = i by omega]
theorem dHot_s {dt : kM} {w i : Nat} {p : Option Nat} {u : Int32} (e1 : p = (dHot dt w i).1) (e2 : u = (dHot dt w i).2) : dHot dt w (i + 1) = if dt 6 i = 0 then (if p = none then (some i, dHeat dt i) else if u < dHeat dt i then (some i, dHeat dt i) else if dHeat dt i = u then (if nI i = dAhead dt w 17 then (some i, dHeat dt i) else (p, u)) else (p, u)) else (p, u) := by
  subst e1 e2
  rfl
theorem dHot_lt {dt : kM} {w o : Nat} : ∀ n, (dHot dt w n).1 = some o → o < n := by
  intro n
  induction n with
  | zero => intro h; exact absurd h (by simp [dHot])
  | succ k ih =>
    intro h
    have z : ∀ q : Option Nat × Int32, (q = (some k, dHeat dt k) ∨ q = dHot dt w k) → q.1 = some o → o < k + 1 := by
      rintro q (rfl | rfl) hq
      · cases hq; omega
      · have := ih hq; omega
    refine z _ ?_ h
    rw [dHot_s rfl rfl]
    repeat' split
    all_goals first | exact Or.inl rfl | exact Or.inr rfl
theorem dSpo_s {dt : kM} {o i : Nat} {v u : Int32} (e1 : v = (dSpo dt o i).1) (e2 : u = (dSpo dt o i).2) : dSpo dt o (i + 1) = if dt 34 i &&& dBoth dt o = 0 then (v, u) else if u < dOwe dt i then (nI i, dOwe dt i) else (v, u) := by
  subst e1 e2
  rfl
theorem dSpo_r (dt : kM) (o : Nat) : ∀ n, (dSpo dt o n).1 = -1 ∨ ∃ j, j < n ∧ (dSpo dt o n).1 = nI j := by
  intro n
  induction n with
  | zero => exact Or.inl rfl
  | succ k ih =>
    have z : (dSpo dt o k).1 = -1 ∨ ∃ j, j < k + 1 ∧ (dSpo dt o k).1 = nI j := ih.imp id (fun ⟨j, h1, h2⟩ => ⟨j, by omega, h2⟩)
    rw [dSpo_s rfl rfl]
    split
    · exact z
    · split
      · exact Or.inr ⟨k, by omega, rfl⟩
      · exact z
theorem dSpo_vp {dt : kM} {o : Nat} (h : ¬ (dSpo dt o 6).1 = -1) : vp_in (dSpo dt o 6).1 6 := by
  obtain ⟨j, h1, h2⟩ := (dSpo_r dt o 6).resolve_left h
  rw [h2]
  exact vp_in_nI h1 (by decide)
theorem dwf_19 {dt : kM} {nF nC nE w : Nat} {v : Int32} (h : dwf dt nF nC nE w) : dwf (ma dt 19 w v) nF nC nE w := by
  obtain ⟨hF, hF20, hC, hC6, hE, hE80, hW, hW3, hpl, hof, hsp⟩ := h
  refine ⟨hF, hF20, hC, hC6, hE, hE80, hW, hW3, hpl, hof, fun k hk => ?_⟩
  have e : ma dt 19 w v 19 k = dt 19 k := by simp [ma, upd, show ¬ k = w by omega]
  rw [e]
  exact hsp k hk
theorem dShow_wf {dt : kM} {nF nC nE w o : Nat} (h : dwf dt nF nC nE w) : dwf (dShow dt w o) nF nC nE w := by
  unfold dShow
  have h1 : dwf (ma (ma dt 17 w (nI o)) 31 o (dt 31 o + 1)) nF nC nE w := dwf_c h rfl rfl rfl rfl rfl rfl rfl rfl rfl
  have h2 := dwf_19 (v := (dSpo (ma (ma dt 17 w (nI o)) 31 o (dt 31 o + 1)) o 6).1) h1
  dsimp only
  split
  · exact h2
  · exact dwf_c h2 rfl rfl rfl rfl rfl rfl rfl rfl rfl
def oA (a : Nat → Nat) (p : Option Nat) : Option Nat := p.map (fun j => a (20 + j))
theorem dPass1_n {dt : kM} {nF nC w : Nat} (hf : (dHot dt w nF).1 = none) : dPass1 dt nF nC w = msee (ms (dBlo (dCams (ma (ma (ma dt 17 w (-1)) 18 w (-1)) 19 w (-1)) (-1) nC) nF) 1 (nI (w + 1))) := by
  simp only [dPass1, hf, if_true]
theorem dPass1_c {dt : kM} {nF nC w o : Nat} (hf : (dHot dt w nF).1 = some o) (hc : dCam dt nC w = -1) : dPass1 dt nF nC w = msee (ms (dBlo (dCams (ma (ma (ma dt 17 w (-1)) 18 w (dCam dt nC w)) 19 w (-1)) (dCam dt nC w) nC) nF) 1 (nI (w + 1))) := by
  simp only [dPass1, hf, hc, reduceCtorEq, if_true, if_false]
theorem dPass1_s {dt : kM} {nF nC w o : Nat} (hf : (dHot dt w nF).1 = some o) (hc : ¬ dCam dt nC w = -1) : dPass1 dt nF nC w = msee (ms (dBlo (dCams (dShow (ma (ma (ma dt 17 w (-1)) 18 w (dCam dt nC w)) 19 w (-1)) w o) (dCam dt nC w) nC) nF) 1 (nI (w + 1))) := by
  simp only [dPass1, hf, hc, reduceCtorEq, if_false]
abbrev rmX3_cameraForAir : Room := { frames := 4, cells := 0, slots := 0, locals := 85 }
theorem hinX3_cameraForAir_3 : ∀ w ∈ u_ws RX3 TX3 15, w ∈ wsX3_cameraForAir := by decide +kernel
theorem fwX3_cameraForAir_23 : Cond.fieldLink RX3 23 "Castdesk" "cameras" "Ljava/util/ArrayList;" ∈ wsX3_cameraForAir := by decide +kernel
theorem fwX3_cameraForAir_48 : Cond.fieldLink RX3 48 "Castdesk" "shownCamera" "[I" ∈ wsX3_cameraForAir := by decide +kernel
set_option maxHeartbeats 4000000 in
set_option maxRecDepth 100000 in
theorem lX3_cameraForAir_21 {E : kE} {a cap : Nat → Nat} {h0 : kH} (dt : kM)  (nF nC nE w : Nat) (hg : dgeo E a cap nF nC nE h0) (hd : dwf dt nF nC nE w) (ah : Int32) {X : kX} (hx : dCamL dt nC nC = -1 → V E X rmX3_cameraForAir cX3_cameraForAir 3 wsX3_cameraForAir RX3 0 0 (dw E a cap nF nC nE dt h0) [(2, .int (nI nC)), (0, .ref (a 15)), (1, .int ah)] 48 []) (hx2 : ∀ j : Nat, dCamL dt nC nC = nI j → V E X rmX3_cameraForAir cX3_cameraForAir 3 wsX3_cameraForAir RX3 0 0 (dw E a cap nF nC nE dt h0) [(2, .int (nI j)), (0, .ref (a 15)), (1, .int ah)] 40 [])
    : ∀ (d i : Nat), nC < i + d → i ≤ nC → (dCamL dt nC nC = dCamL dt nC (nC - i)) → V E X rmX3_cameraForAir cX3_cameraForAir 3 wsX3_cameraForAir RX3 0 0 (dw E a cap nF nC nE dt h0) [(2, .int (nI i)), (0, .ref (a 15)), (1, .int ah)] 21 [] := by
  obtain ⟨hF, hF20, hC, hC6, hE, hE80, hW, hW3, hpl, hof, hsp⟩ := id hd
  intro d
  induction d with
  | zero =>
    intro i  h1 h2
    exact absurd h1 (by omega)
  | succ d ih =>
    intro i  h1 h2 e1
    refine r_iload_n dX3_cameraForAir_21 0 rfl ?_
    refine r_aload_n dX3_cameraForAir_22 1 rfl ?_
    refine r_get (C := RX3) (b := .ref (a 3)) dX3_cameraForAir_23 hinX3_cameraForAir_3 (dw_obj hg) rfl 3 (by decide) fwX3_cameraForAir_23 rfl rfl ?_
    refine r_callVi (nn := 0) (As := []) (st := [.int (nI i)]) dX3_cameraForAir_26 (tJx4a65c_size_8abf5 _ _ _ _ (dw_lstN hg (k := 3) (by decide) hC)) gX3_cameraForAir_Jx4a65c_size_8abf5 rfl (by decide +kernel) ⟨Nat.le_of_ble_eq_true rfl, Nat.le_of_ble_eq_true rfl⟩ ⟨rfl, rfl⟩ (dw_lstN hg (k := 3) (by decide) hC) rfl rfl (Nat.le_of_ble_eq_true rfl) ⟨Nat.le_of_ble_eq_true rfl, Nat.le_of_ble_eq_true rfl⟩ rfl (fun r hh hp => ?_)
    obtain ⟨rfl, rfl⟩ := hp
    refine rn_icmp_ge (a := i) (c := nC) (tgt := 48) dX3_cameraForAir_29 (by decide) rfl rfl (by omega) (by omega) (fun c1 => ?_) (fun c1 => ?_)
    · skip
      have hNi : nC = i := by omega
      subst hNi
      exact hx (by rw [e1, Nat.sub_self]; rfl)
    · skip
      refine r_aload_n dX3_cameraForAir_32 1 rfl ?_
      refine r_iload_n dX3_cameraForAir_33 0 rfl ?_
      refine r_callVi (nn := 1) (As := [.int (nI i)]) (st := []) dX3_cameraForAir_34 (tX3_canBeOnAir dt nF nC nE w hg hd (nI i)) gX3_cameraForAir_X3_canBeOnAir rfl (by decide +kernel) ⟨Nat.le_of_ble_eq_true rfl, Nat.le_of_ble_eq_true rfl⟩ ⟨rfl, rfl⟩ (dw_obj hg) rfl rfl (Nat.le_of_ble_eq_true rfl) ⟨Nat.le_of_ble_eq_true rfl, Nat.le_of_ble_eq_true rfl⟩ rfl (fun r hh hp => ?_)
      obtain ⟨rfl, rfl⟩ := hp
      refine r_if_eq (tgt := 42) dX3_cameraForAir_37 (by decide) (fun c2 => ?_) (fun c2 => ?_)
      · skip
        refine r_iinc (v := nI (i + 1)) (lo' := [(2, .int (nI (i + 1))), (0, .ref (a 15)), (1, .int ah)]) dX3_cameraForAir_42 0 rfl (nI_1 i) (by decide) rfl ?_
        refine r_goto (tgt := 21) dX3_cameraForAir_45 (by decide) ?_
        refine r_lo (lo' := [(2, .int (nI (i + 1))), (0, .ref (a 15)), (1, .int ah)]) [0, 1, 2] rfl ?_
        exact ih (i + 1) (by omega) (by omega) (by rw [e1, dCamL_s (by omega), if_neg (dCan_f (by omega) hC6 c2)])
      · skip
        exact hx2 i (by rw [e1, dCamL_s (by omega), if_pos (dCan_t (by omega) hC6 c2)])

set_option maxHeartbeats 4000000 in
set_option maxRecDepth 100000 in
theorem tX3_cameraForAir {E : kE} {a cap : Nat → Nat} {h0 : kH} (dt : kM)  (nF nC nE w : Nat) (hg : dgeo E a cap nF nC nE h0) (hd : dwf dt nF nC nE w) : kCi E yX3_cameraForAir wsX3_cameraForAir rmX3_cameraForAir 0 0 [.ref (a 15)] (dw E a cap nF nC nE dt h0) (fun r h' => r = dCam dt nC w ∧ h' = dw E a cap nF nC nE dt h0) := by
  obtain ⟨hF, hF20, hC, hC6, hE, hE80, hW, hW3, hpl, hof, hsp⟩ := id hd
  refine kCi_of (rt := .int) (own := RX3) (cc := cX3_cameraForAir) (maxL := 3) (by decide) rfl rfl (Nat.le_of_ble_eq_true rfl) ?_
  intro X hini kret
  refine r_lo (lo' := [(0, .ref (a 15))]) [0] rfl ?_
  refine r_aload_n dX3_cameraForAir_0 0 rfl ?_
  refine r_aload_n dX3_cameraForAir_1 0 rfl ?_
  refine r_get (C := RX3) (b := .ref (a 13)) dX3_cameraForAir_2 hinX3_cameraForAir_3 (dw_obj hg) rfl 13 (by decide) fwX3_cameraForAir_48 rfl rfl ?_
  refine r_callVi (nn := 1) (As := [.ref (a 13)]) (st := []) dX3_cameraForAir_5 (tX3_ofFrameAhead_18 dt nF nC nE w hg hd) gX3_cameraForAir_X3_ofFrameAhead rfl (by decide +kernel) ⟨Nat.le_of_ble_eq_true rfl, Nat.le_of_ble_eq_true rfl⟩ ⟨rfl, rfl⟩ (dw_obj hg) rfl rfl (Nat.le_of_ble_eq_true rfl) ⟨Nat.le_of_ble_eq_true rfl, Nat.le_of_ble_eq_true rfl⟩ rfl (fun r hh hp => ?_)
  obtain ⟨rfl, rfl⟩ := hp
  refine r_istore_n (lo' := [(1, .int (dAhead dt w 18)), (0, .ref (a 15))]) dX3_cameraForAir_8 (by decide) rfl ?_
  refine r_aload_n dX3_cameraForAir_9 1 rfl ?_
  refine r_iload_n dX3_cameraForAir_10 0 rfl ?_
  refine r_callVi (nn := 1) (As := [.int (dAhead dt w 18)]) (st := []) dX3_cameraForAir_11 (tX3_canBeOnAir dt nF nC nE w hg hd (dAhead dt w 18)) gX3_cameraForAir_X3_canBeOnAir rfl (by decide +kernel) ⟨Nat.le_of_ble_eq_true rfl, Nat.le_of_ble_eq_true rfl⟩ ⟨rfl, rfl⟩ (dw_obj hg) rfl rfl (Nat.le_of_ble_eq_true rfl) ⟨Nat.le_of_ble_eq_true rfl, Nat.le_of_ble_eq_true rfl⟩ rfl (fun r hh hp => ?_)
  obtain ⟨rfl, rfl⟩ := hp
  refine r_if_eq (tgt := 19) dX3_cameraForAir_14 (by decide) (fun c1 => ?_) (fun c1 => ?_)
  · skip
    refine r_iconst (v := 0) dX3_cameraForAir_19 (by decide) ?_
    refine r_istore_n (lo' := [(2, .int 0), (1, .int (dAhead dt w 18)), (0, .ref (a 15))]) dX3_cameraForAir_20 (by decide) rfl ?_
    refine r_lo (lo' := [(2, .int (nI 0)), (0, .ref (a 15)), (1, .int (dAhead dt w 18))]) [0, 2, 1] rfl ?_
    refine lX3_cameraForAir_21 dt nF nC nE w hg hd (dAhead dt w 18) (fun e1 => ?_) (fun j e1 => ?_) (nC + 1) 0 (by omega) (Nat.zero_le _) rfl
    · skip
      refine r_iconst (v := (-1)) dX3_cameraForAir_48 (by decide) ?_
      exact kret _ _ _ _ _ _ (Nat.le_refl _) (Nat.le_refl _) dX3_cameraForAir_49 rfl (⟨by rw [dCam, if_pos c1, e1], rfl⟩)
    · skip
      refine r_iload_n dX3_cameraForAir_40 0 rfl ?_
      exact kret _ _ _ _ _ _ (Nat.le_refl _) (Nat.le_refl _) dX3_cameraForAir_41 rfl (⟨by rw [dCam, if_pos c1, e1], rfl⟩)
  · skip
    refine r_iload_n dX3_cameraForAir_17 0 rfl ?_
    exact kret _ _ _ _ _ _ (Nat.le_refl _) (Nat.le_refl _) dX3_cameraForAir_18 rfl (⟨by rw [dCam, if_neg c1], rfl⟩)

abbrev rmX3_sponsorOwedMost : Room := { frames := 2, cells := 0, slots := 0, locals := 42 }
theorem hinX3_sponsorOwedMost_2 : ∀ w ∈ u_ws RX2 TX2 7, w ∈ wsX3_sponsorOwedMost := by decide +kernel
theorem hinX3_sponsorOwedMost_3 : ∀ w ∈ u_ws RX3 TX3 15, w ∈ wsX3_sponsorOwedMost := by decide +kernel
theorem fwX3_sponsorOwedMost_35 : Cond.fieldLink RX3 35 "Castdesk" "slotPlayers" "[I" ∈ wsX3_sponsorOwedMost := by decide +kernel
theorem fwX3_sponsorOwedMost_88 : Cond.fieldLink RX3 88 "Castdesk$Fight" "first" "I" ∈ wsX3_sponsorOwedMost := by decide +kernel
theorem fwX3_sponsorOwedMost_97 : Cond.fieldLink RX3 97 "Castdesk$Fight" "second" "I" ∈ wsX3_sponsorOwedMost := by decide +kernel
set_option maxHeartbeats 4000000 in
set_option maxRecDepth 100000 in
theorem lX3_sponsorOwedMost_22 {E : kE} {a cap : Nat → Nat} {h0 : kH} (dt : kM)  (nF nC nE w : Nat) (hg : dgeo E a cap nF nC nE h0) (hd : dwf dt nF nC nE w) (o : Nat) (ho : o < nF)  {X : kX} (hx : ∀ v u : Int32, v = (dSpo dt o 6).1 → u = (dSpo dt o 6).2 → V E X rmX3_sponsorOwedMost cX3_sponsorOwedMost 6 wsX3_sponsorOwedMost RX3 0 0 (dw E a cap nF nC nE dt h0) [(5, .int (nI 6)), (4, .int u), (3, .int v), (0, .ref (a 15)), (1, .ref (a (20 + o))), (2, .int (dBoth dt o))] 69 [])
    : ∀ (d i : Nat) (v u : Int32), 6 < i + d → i ≤ 6 → (v = (dSpo dt o i).1) → (u = (dSpo dt o i).2) → V E X rmX3_sponsorOwedMost cX3_sponsorOwedMost 6 wsX3_sponsorOwedMost RX3 0 0 (dw E a cap nF nC nE dt h0) [(5, .int (nI i)), (4, .int u), (3, .int v), (0, .ref (a 15)), (1, .ref (a (20 + o))), (2, .int (dBoth dt o))] 22 [] := by
  obtain ⟨hF, hF20, hC, hC6, hE, hE80, hW, hW3, hpl, hof, hsp⟩ := id hd
  intro d
  induction d with
  | zero =>
    intro i v u h1 h2
    exact absurd h1 (by omega)
  | succ d ih =>
    intro i v u h1 h2 e1 e2
    refine r_iload dX3_sponsorOwedMost_22 0 rfl ?_
    refine r_bipush (v := 6) dX3_sponsorOwedMost_24 (by decide) ?_
    refine rn_icmp_ge (a := i) (c := 6) (tgt := 69) dX3_sponsorOwedMost_26 (by decide) rfl rfl (by omega) (by omega) (fun c1 => ?_) (fun c1 => ?_)
    · skip
      have hNi : 6 = i := by omega
      subst hNi
      exact hx v u e1 e2
    · skip
      refine r_aload_n dX3_sponsorOwedMost_29 3 rfl ?_
      refine r_get (C := RX3) (b := .ref (a 7)) dX3_sponsorOwedMost_30 hinX3_sponsorOwedMost_3 (dw_obj hg) rfl 7 (by decide) fwX3_sponsorOwedMost_35 rfl rfl ?_
      refine r_iload dX3_sponsorOwedMost_33 0 rfl ?_
      refine d_ald (v := dt 34 i) hg 7 34 i (by decide) rfl dX3_sponsorOwedMost_35 rfl (by show _ < 6; omega) (by decide) rfl ?_
      refine r_iload_n dX3_sponsorOwedMost_36 5 rfl ?_
      refine r_iand dX3_sponsorOwedMost_37 ?_
      refine r_if_eq (tgt := 63) dX3_sponsorOwedMost_38 (by decide) (fun c2 => ?_) (fun c2 => ?_)
      · skip
        refine r_iinc (v := nI (i + 1)) (lo' := [(5, .int (nI (i + 1))), (4, .int u), (3, .int v), (0, .ref (a 15)), (1, .ref (a (20 + o))), (2, .int (dBoth dt o))]) dX3_sponsorOwedMost_63 0 rfl (nI_1 i) (by decide) rfl ?_
        refine r_goto (tgt := 22) dX3_sponsorOwedMost_66 (by decide) ?_
        refine r_lo (lo' := [(5, .int (nI (i + 1))), (4, .int u), (3, .int v), (0, .ref (a 15)), (1, .ref (a (20 + o))), (2, .int (dBoth dt o))]) [0, 1, 2, 3, 4, 5] rfl ?_
        exact ih (i + 1) v u (by omega) (by omega) (by rw [dSpo_s e1 e2, if_pos c2]) (by rw [dSpo_s e1 e2, if_pos c2])
      · skip
        refine r_aload_n dX3_sponsorOwedMost_41 3 rfl ?_
        refine r_iload dX3_sponsorOwedMost_42 0 rfl ?_
        refine r_callVi (nn := 1) (As := [.int (nI i)]) (st := []) dX3_sponsorOwedMost_44 (tX3_owedTo dt nF nC nE w hg hd i (by omega)) gX3_sponsorOwedMost_X3_owedTo rfl (by decide +kernel) ⟨Nat.le_of_ble_eq_true rfl, Nat.le_of_ble_eq_true rfl⟩ ⟨rfl, rfl⟩ (dw_obj hg) rfl rfl (Nat.le_of_ble_eq_true rfl) ⟨Nat.le_of_ble_eq_true rfl, Nat.le_of_ble_eq_true rfl⟩ rfl (fun r hh hp => ?_)
        obtain ⟨rfl, rfl⟩ := hp
        refine r_iload dX3_sponsorOwedMost_47 1 rfl ?_
        refine r_icmp_le (tgt := 63) dX3_sponsorOwedMost_49 (by decide) (fun c3 => ?_) (fun c3 => ?_)
        · skip
          refine r_iinc (v := nI (i + 1)) (lo' := [(5, .int (nI (i + 1))), (4, .int u), (3, .int v), (0, .ref (a 15)), (1, .ref (a (20 + o))), (2, .int (dBoth dt o))]) dX3_sponsorOwedMost_63 0 rfl (nI_1 i) (by decide) rfl ?_
          refine r_goto (tgt := 22) dX3_sponsorOwedMost_66 (by decide) ?_
          refine r_lo (lo' := [(5, .int (nI (i + 1))), (4, .int u), (3, .int v), (0, .ref (a 15)), (1, .ref (a (20 + o))), (2, .int (dBoth dt o))]) [0, 1, 2, 3, 4, 5] rfl ?_
          exact ih (i + 1) v u (by omega) (by omega) (by rw [dSpo_s e1 e2, if_neg c2, if_neg c3]) (by rw [dSpo_s e1 e2, if_neg c2, if_neg c3])
        · skip
          refine r_iload dX3_sponsorOwedMost_52 0 rfl ?_
          refine r_istore_n (lo' := [(3, .int (nI i)), (5, .int (nI i)), (4, .int u), (0, .ref (a 15)), (1, .ref (a (20 + o))), (2, .int (dBoth dt o))]) dX3_sponsorOwedMost_54 (by decide) rfl ?_
          refine r_aload_n dX3_sponsorOwedMost_55 3 rfl ?_
          refine r_iload dX3_sponsorOwedMost_56 1 rfl ?_
          refine r_callVi (nn := 1) (As := [.int (nI i)]) (st := []) dX3_sponsorOwedMost_58 (tX3_owedTo dt nF nC nE w hg hd i (by omega)) gX3_sponsorOwedMost_X3_owedTo rfl (by decide +kernel) ⟨Nat.le_of_ble_eq_true rfl, Nat.le_of_ble_eq_true rfl⟩ ⟨rfl, rfl⟩ (dw_obj hg) rfl rfl (Nat.le_of_ble_eq_true rfl) ⟨Nat.le_of_ble_eq_true rfl, Nat.le_of_ble_eq_true rfl⟩ rfl (fun r hh hp => ?_)
          obtain ⟨rfl, rfl⟩ := hp
          refine r_istore (lo' := [(4, .int (dOwe dt i)), (3, .int (nI i)), (5, .int (nI i)), (0, .ref (a 15)), (1, .ref (a (20 + o))), (2, .int (dBoth dt o))]) dX3_sponsorOwedMost_61 (by decide) rfl ?_
          refine r_iinc (v := nI (i + 1)) (lo' := [(5, .int (nI (i + 1))), (4, .int (dOwe dt i)), (3, .int (nI i)), (0, .ref (a 15)), (1, .ref (a (20 + o))), (2, .int (dBoth dt o))]) dX3_sponsorOwedMost_63 2 rfl (nI_1 i) (by decide) rfl ?_
          refine r_goto (tgt := 22) dX3_sponsorOwedMost_66 (by decide) ?_
          refine r_lo (lo' := [(5, .int (nI (i + 1))), (4, .int (dOwe dt i)), (3, .int (nI i)), (0, .ref (a 15)), (1, .ref (a (20 + o))), (2, .int (dBoth dt o))]) [0, 1, 2, 3, 4, 5] rfl ?_
          exact ih (i + 1) (nI i) (dOwe dt i) (by omega) (by omega) (by rw [dSpo_s e1 e2, if_neg c2, if_pos c3]) (by rw [dSpo_s e1 e2, if_neg c2, if_pos c3])

set_option maxHeartbeats 4000000 in
set_option maxRecDepth 100000 in
theorem tX3_sponsorOwedMost {E : kE} {a cap : Nat → Nat} {h0 : kH} (dt : kM)  (nF nC nE w : Nat) (hg : dgeo E a cap nF nC nE h0) (hd : dwf dt nF nC nE w) (o : Nat) (ho : o < nF) : kCi E yX3_sponsorOwedMost wsX3_sponsorOwedMost rmX3_sponsorOwedMost 0 0 [.ref (a 15), .ref (a (20 + o))] (dw E a cap nF nC nE dt h0) (fun r h' => r = (dSpo dt o 6).1 ∧ h' = dw E a cap nF nC nE dt h0) := by
  obtain ⟨hF, hF20, hC, hC6, hE, hE80, hW, hW3, hpl, hof, hsp⟩ := id hd
  refine kCi_of (rt := .int) (own := RX3) (cc := cX3_sponsorOwedMost) (maxL := 6) (by decide) rfl rfl (Nat.le_of_ble_eq_true rfl) ?_
  intro X hini kret
  refine r_lo (lo' := [(0, .ref (a 15)), (1, .ref (a (20 + o)))]) [0, 1] rfl ?_
  refine r_iconst (v := 1) dX3_sponsorOwedMost_0 (by decide) ?_
  refine r_aload_n dX3_sponsorOwedMost_1 1 rfl ?_
  refine r_get (C := RX2) (b := .int (dt 7 o)) dX3_sponsorOwedMost_2 hinX3_sponsorOwedMost_2 (dw_fgt hg (by omega)) rfl 1 (by decide) fwX3_sponsorOwedMost_88 rfl rfl ?_
  refine r_ishl dX3_sponsorOwedMost_5 ?_
  refine r_iconst (v := 1) dX3_sponsorOwedMost_6 (by decide) ?_
  refine r_aload_n dX3_sponsorOwedMost_7 1 rfl ?_
  refine r_get (C := RX2) (b := .int (dt 8 o)) dX3_sponsorOwedMost_8 hinX3_sponsorOwedMost_2 (dw_fgt hg (by omega)) rfl 2 (by decide) fwX3_sponsorOwedMost_97 rfl rfl ?_
  refine r_ishl dX3_sponsorOwedMost_11 ?_
  refine r_ior dX3_sponsorOwedMost_12 ?_
  refine r_istore_n (lo' := [(2, .int (dBoth dt o)), (0, .ref (a 15)), (1, .ref (a (20 + o)))]) dX3_sponsorOwedMost_13 (by decide) rfl ?_
  refine r_iconst (v := (-1)) dX3_sponsorOwedMost_14 (by decide) ?_
  refine r_istore_n (lo' := [(3, .int (-1)), (2, .int (dBoth dt o)), (0, .ref (a 15)), (1, .ref (a (20 + o)))]) dX3_sponsorOwedMost_15 (by decide) rfl ?_
  refine r_iconst (v := 0) dX3_sponsorOwedMost_16 (by decide) ?_
  refine r_istore (lo' := [(4, .int 0), (3, .int (-1)), (2, .int (dBoth dt o)), (0, .ref (a 15)), (1, .ref (a (20 + o)))]) dX3_sponsorOwedMost_17 (by decide) rfl ?_
  refine r_iconst (v := 0) dX3_sponsorOwedMost_19 (by decide) ?_
  refine r_istore (lo' := [(5, .int 0), (4, .int 0), (3, .int (-1)), (2, .int (dBoth dt o)), (0, .ref (a 15)), (1, .ref (a (20 + o)))]) dX3_sponsorOwedMost_20 (by decide) rfl ?_
  refine r_lo (lo' := [(5, .int (nI 0)), (4, .int 0), (3, .int (-1)), (0, .ref (a 15)), (1, .ref (a (20 + o))), (2, .int (dBoth dt o))]) [0, 1, 2, 4, 5, 3] rfl ?_
  refine lX3_sponsorOwedMost_22 dt nF nC nE w hg hd o ho (fun v u e1 e2 => ?_) 7 0 _ _ (by omega) (Nat.zero_le _) rfl rfl
  refine r_iload_n dX3_sponsorOwedMost_69 2 rfl ?_
  exact kret _ _ _ _ _ _ (Nat.le_refl _) (Nat.le_refl _) dX3_sponsorOwedMost_70 rfl (⟨e1, rfl⟩)

abbrev rmX3_letCamerasPass : Room := { frames := 3, cells := 0, slots := 0, locals := 64 }
theorem hinX3_letCamerasPass_3 : ∀ w ∈ u_ws RX3 TX3 15, w ∈ wsX3_letCamerasPass := by decide +kernel
theorem fwX3_letCamerasPass_23 : Cond.fieldLink RX3 23 "Castdesk" "cameras" "Ljava/util/ArrayList;" ∈ wsX3_letCamerasPass := by decide +kernel
set_option maxHeartbeats 4000000 in
set_option maxRecDepth 100000 in
theorem lX3_letCamerasPass_2 {E : kE} {a cap : Nat → Nat} {h0 : kH} (dt : kM)  (nF nC nE w : Nat) (hg : dgeo E a cap nF nC nE h0) (hd : dwf dt nF nC nE w) (cam : Int32)  {X : kX} (hx : V E X rmX3_letCamerasPass cX3_letCamerasPass 4 wsX3_letCamerasPass RX3 0 0 (dw E a cap nF nC nE (dCams dt cam nC) h0) [(2, .int (nI nC)), (0, .ref (a 15)), (1, .int cam)] 47 [])
    : ∀ (d i : Nat), nC < i + d → i ≤ nC → V E X rmX3_letCamerasPass cX3_letCamerasPass 4 wsX3_letCamerasPass RX3 0 0 (dw E a cap nF nC nE (dCams dt cam i) h0) [(2, .int (nI i)), (0, .ref (a 15)), (1, .int cam)] 2 [] := by
  obtain ⟨hF, hF20, hC, hC6, hE, hE80, hW, hW3, hpl, hof, hsp⟩ := id hd
  intro d
  induction d with
  | zero =>
    intro i  h1 h2
    exact absurd h1 (by omega)
  | succ d ih =>
    intro i  h1 h2 
    refine r_iload_n dX3_letCamerasPass_2 0 rfl ?_
    refine r_aload_n dX3_letCamerasPass_3 1 rfl ?_
    refine r_get (C := RX3) (b := .ref (a 3)) dX3_letCamerasPass_4 hinX3_letCamerasPass_3 (dw_obj hg) rfl 3 (by decide) fwX3_letCamerasPass_23 rfl rfl ?_
    refine r_callVi (nn := 0) (As := []) (st := [.int (nI i)]) dX3_letCamerasPass_7 (tJx4a65c_size_8abf5 _ _ _ _ (dw_lstN hg (k := 3) (by decide) (show dCams dt cam i 10 0 = nI nC by rw [dCams_g dt cam i (by decide) (by decide)]; exact hC))) gX3_letCamerasPass_Jx4a65c_size_8abf5 rfl (by decide +kernel) ⟨Nat.le_of_ble_eq_true rfl, Nat.le_of_ble_eq_true rfl⟩ ⟨rfl, rfl⟩ (dw_lstN hg (k := 3) (by decide) (show dCams dt cam i 10 0 = nI nC by rw [dCams_g dt cam i (by decide) (by decide)]; exact hC)) rfl rfl (Nat.le_of_ble_eq_true rfl) ⟨Nat.le_of_ble_eq_true rfl, Nat.le_of_ble_eq_true rfl⟩ rfl (fun r hh hp => ?_)
    obtain ⟨rfl, rfl⟩ := hp
    refine rn_icmp_ge (a := i) (c := nC) (tgt := 47) dX3_letCamerasPass_10 (by decide) rfl rfl (by omega) (by omega) (fun c1 => ?_) (fun c1 => ?_)
    · skip
      have hNi : nC = i := by omega
      subst hNi
      exact hx
    · skip
      refine r_aload_n dX3_letCamerasPass_13 1 rfl ?_
      refine r_get (C := RX3) (b := .ref (a 3)) dX3_letCamerasPass_14 hinX3_letCamerasPass_3 (dw_obj hg) rfl 3 (by decide) fwX3_letCamerasPass_23 rfl rfl ?_
      refine r_iload_n dX3_letCamerasPass_17 0 rfl ?_
      refine r_callVq (nn := 1) (As := [.int (nI i)]) (st := []) dX3_letCamerasPass_18 (tg_3 hg (show dCams dt cam i 10 0 = nI nC by rw [dCams_g dt cam i (by decide) (by decide)]; exact hC) (by omega)) gX3_letCamerasPass_Jx4a65c_get_915e3 rfl (by decide +kernel) ⟨Nat.le_of_ble_eq_true rfl, Nat.le_of_ble_eq_true rfl⟩ ⟨rfl, rfl⟩ (dw_lstN hg (k := 3) (by decide) (show dCams dt cam i 10 0 = nI nC by rw [dCams_g dt cam i (by decide) (by decide)]; exact hC)) rfl rfl (Nat.le_of_ble_eq_true rfl) ⟨Nat.le_of_ble_eq_true rfl, Nat.le_of_ble_eq_true rfl⟩ rfl (fun r hh hp => ?_)
      obtain ⟨rfl, rfl⟩ := hp
      refine r_cast (C := RX0) dX3_letCamerasPass_21 (by decide +kernel) (dw_cam hg (by omega)) rfl ?_
      refine r_astore_n (lo' := [(3, .ref (a (40 + i))), (2, .int (nI i)), (0, .ref (a 15)), (1, .int cam)]) dX3_letCamerasPass_24 (by decide) rfl ?_
      refine r_iload_n dX3_letCamerasPass_25 1 rfl ?_
      refine r_iload_n dX3_letCamerasPass_26 3 rfl ?_
      refine r_icmp_ne (tgt := 37) dX3_letCamerasPass_27 (by decide) (fun c2 => ?_) (fun c2 => ?_)
      · skip
        refine r_aload_n dX3_letCamerasPass_37 0 rfl ?_
        refine r_callVv (nn := 0) (As := []) (st := []) dX3_letCamerasPass_38 (tX0_passOff (dCams dt cam i) nF nC nE w hg (dCams_wf hd) i (by omega)) gX3_letCamerasPass_X0_passOff rfl (by decide +kernel) ⟨Nat.le_of_ble_eq_true rfl, Nat.le_of_ble_eq_true rfl⟩ ⟨rfl, rfl⟩ (dw_cam hg (by omega)) rfl rfl (Nat.le_of_ble_eq_true rfl) ⟨Nat.le_of_ble_eq_true rfl, Nat.le_of_ble_eq_true rfl⟩ rfl (fun hh hp => ?_)
        subst hp
        refine r_iinc (v := nI (i + 1)) (lo' := [(2, .int (nI (i + 1))), (3, .ref (a (40 + i))), (0, .ref (a 15)), (1, .int cam)]) dX3_letCamerasPass_41 1 rfl (nI_1 i) (by decide) rfl ?_
        refine r_goto (tgt := 2) dX3_letCamerasPass_44 (by decide) ?_
        refine r_lo (lo' := [(2, .int (nI (i + 1))), (0, .ref (a 15)), (1, .int cam)]) [0, 2, 3] rfl ?_
        rw [show (dOff (dCams dt cam i) i) = dCams dt cam (i + 1) from (by rw [dCams, if_neg c2])]
        exact ih (i + 1) (by omega) (by omega)
      · skip
        refine r_aload_n dX3_letCamerasPass_30 0 rfl ?_
        refine r_callVv (nn := 0) (As := []) (st := []) dX3_letCamerasPass_31 (tX0_passOnAir (dCams dt cam i) nF nC nE w hg (dCams_wf hd) i (by omega)) gX3_letCamerasPass_X0_passOnAir rfl (by decide +kernel) ⟨Nat.le_of_ble_eq_true rfl, Nat.le_of_ble_eq_true rfl⟩ ⟨rfl, rfl⟩ (dw_cam hg (by omega)) rfl rfl (Nat.le_of_ble_eq_true rfl) ⟨Nat.le_of_ble_eq_true rfl, Nat.le_of_ble_eq_true rfl⟩ rfl (fun hh hp => ?_)
        subst hp
        refine r_goto (tgt := 41) dX3_letCamerasPass_34 (by decide) ?_
        refine r_iinc (v := nI (i + 1)) (lo' := [(2, .int (nI (i + 1))), (3, .ref (a (40 + i))), (0, .ref (a 15)), (1, .int cam)]) dX3_letCamerasPass_41 1 rfl (nI_1 i) (by decide) rfl ?_
        refine r_goto (tgt := 2) dX3_letCamerasPass_44 (by decide) ?_
        refine r_lo (lo' := [(2, .int (nI (i + 1))), (0, .ref (a 15)), (1, .int cam)]) [0, 2, 3] rfl ?_
        rw [show (dOn (dCams dt cam i) i) = dCams dt cam (i + 1) from (by rw [dCams, if_pos c2])]
        exact ih (i + 1) (by omega) (by omega)

set_option maxHeartbeats 4000000 in
set_option maxRecDepth 100000 in
theorem tX3_letCamerasPass {E : kE} {a cap : Nat → Nat} {h0 : kH} (dt : kM)  (nF nC nE w : Nat) (hg : dgeo E a cap nF nC nE h0) (hd : dwf dt nF nC nE w) (cam : Int32) : kCv E yX3_letCamerasPass wsX3_letCamerasPass rmX3_letCamerasPass 0 0 [.ref (a 15), .int cam] (dw E a cap nF nC nE dt h0) (fun h' => h' = dw E a cap nF nC nE (dCams dt cam nC) h0) := by
  obtain ⟨hF, hF20, hC, hC6, hE, hE80, hW, hW3, hpl, hof, hsp⟩ := id hd
  refine kCv_of (own := RX3) (cc := cX3_letCamerasPass) (maxL := 4) (by decide) rfl rfl (Nat.le_of_ble_eq_true rfl) ?_
  intro X hini kret
  refine r_lo (lo' := [(0, .ref (a 15)), (1, .int cam)]) [0, 1] rfl ?_
  refine r_iconst (v := 0) dX3_letCamerasPass_0 (by decide) ?_
  refine r_istore_n (lo' := [(2, .int 0), (0, .ref (a 15)), (1, .int cam)]) dX3_letCamerasPass_1 (by decide) rfl ?_
  refine r_lo (lo' := [(2, .int 0), (0, .ref (a 15)), (1, .int cam)]) [0, 1, 2] rfl ?_
  refine lX3_letCamerasPass_2 dt nF nC nE w hg hd cam ?_ (nC + 1) 0 (by omega) (Nat.zero_le _)
  exact kret _ _ _ _ _ (Nat.le_refl _) (Nat.le_refl _) dX3_letCamerasPass_47 (rfl)

abbrev rmX3_hottestFight : Room := { frames := 3, cells := 0, slots := 0, locals := 64 }
theorem hinX3_hottestFight_2 : ∀ w ∈ u_ws RX2 TX2 7, w ∈ wsX3_hottestFight := by decide +kernel
theorem hinX3_hottestFight_3 : ∀ w ∈ u_ws RX3 TX3 15, w ∈ wsX3_hottestFight := by decide +kernel
theorem fwX3_hottestFight_19 : Cond.fieldLink RX3 19 "Castdesk" "fights" "Ljava/util/ArrayList;" ∈ wsX3_hottestFight := by decide +kernel
theorem fwX3_hottestFight_45 : Cond.fieldLink RX3 45 "Castdesk" "shownFight" "[I" ∈ wsX3_hottestFight := by decide +kernel
theorem fwX3_hottestFight_100 : Cond.fieldLink RX3 100 "Castdesk$Fight" "state" "I" ∈ wsX3_hottestFight := by decide +kernel
set_option maxHeartbeats 4000000 in
set_option maxRecDepth 100000 in
theorem lX3_hottestFight_16 {E : kE} {a cap : Nat → Nat} {h0 : kH} (dt : kM)  (nF nC nE w : Nat) (hg : dgeo E a cap nF nC nE h0) (hd : dwf dt nF nC nE w)  {X : kX} (hx : ∀ (p : Option Nat) (u : Int32), p = (dHot dt w nF).1 → u = (dHot dt w nF).2 → V E X rmX3_hottestFight cX3_hottestFight 7 wsX3_hottestFight RX3 0 0 (dw E a cap nF nC nE dt h0) [(4, .int (nI nF)), (3, .int u), (2, va_rf (oA a p)), (0, .ref (a 15)), (1, .int (dAhead dt w 17))] 92 [])
    : ∀ (d i : Nat) (p : Option Nat) (u : Int32), nF < i + d → i ≤ nF → (p = (dHot dt w i).1) → (u = (dHot dt w i).2) → V E X rmX3_hottestFight cX3_hottestFight 7 wsX3_hottestFight RX3 0 0 (dw E a cap nF nC nE dt h0) [(4, .int (nI i)), (3, .int u), (2, va_rf (oA a p)), (0, .ref (a 15)), (1, .int (dAhead dt w 17))] 16 [] := by
  obtain ⟨hF, hF20, hC, hC6, hE, hE80, hW, hW3, hpl, hof, hsp⟩ := id hd
  intro d
  induction d with
  | zero =>
    intro i p u h1 h2
    exact absurd h1 (by omega)
  | succ d ih =>
    intro i p u h1 h2 e1 e2
    refine r_iload dX3_hottestFight_16 0 rfl ?_
    refine r_aload_n dX3_hottestFight_18 3 rfl ?_
    refine r_get (C := RX3) (b := .ref (a 2)) dX3_hottestFight_19 hinX3_hottestFight_3 (dw_obj hg) rfl 2 (by decide) fwX3_hottestFight_19 rfl rfl ?_
    refine r_callVi (nn := 0) (As := []) (st := [.int (nI i)]) dX3_hottestFight_22 (tJx4a65c_size_8abf5 _ _ _ _ (dw_lstN hg (k := 2) (by decide) hF)) gX3_hottestFight_Jx4a65c_size_8abf5 rfl (by decide +kernel) ⟨Nat.le_of_ble_eq_true rfl, Nat.le_of_ble_eq_true rfl⟩ ⟨rfl, rfl⟩ (dw_lstN hg (k := 2) (by decide) hF) rfl rfl (Nat.le_of_ble_eq_true rfl) ⟨Nat.le_of_ble_eq_true rfl, Nat.le_of_ble_eq_true rfl⟩ rfl (fun r hh hp => ?_)
    obtain ⟨rfl, rfl⟩ := hp
    refine rn_icmp_ge (a := i) (c := nF) (tgt := 92) dX3_hottestFight_25 (by decide) rfl rfl (by omega) (by omega) (fun c1 => ?_) (fun c1 => ?_)
    · skip
      have hNi : nF = i := by omega
      subst hNi
      exact hx p u e1 e2
    · skip
      refine r_aload_n dX3_hottestFight_28 3 rfl ?_
      refine r_get (C := RX3) (b := .ref (a 2)) dX3_hottestFight_29 hinX3_hottestFight_3 (dw_obj hg) rfl 2 (by decide) fwX3_hottestFight_19 rfl rfl ?_
      refine r_iload dX3_hottestFight_32 0 rfl ?_
      refine r_callVq (nn := 1) (As := [.int (nI i)]) (st := []) dX3_hottestFight_34 (tg_2 hg hF (by omega)) gX3_hottestFight_Jx4a65c_get_915e3 rfl (by decide +kernel) ⟨Nat.le_of_ble_eq_true rfl, Nat.le_of_ble_eq_true rfl⟩ ⟨rfl, rfl⟩ (dw_lstN hg (k := 2) (by decide) hF) rfl rfl (Nat.le_of_ble_eq_true rfl) ⟨Nat.le_of_ble_eq_true rfl, Nat.le_of_ble_eq_true rfl⟩ rfl (fun r hh hp => ?_)
      obtain ⟨rfl, rfl⟩ := hp
      refine r_cast (C := RX2) dX3_hottestFight_37 (by decide +kernel) (dw_fgt hg (by omega)) rfl ?_
      refine r_astore (lo' := [(5, .ref (a (20 + i))), (4, .int (nI i)), (3, .int u), (2, va_rf (oA a p)), (0, .ref (a 15)), (1, .int (dAhead dt w 17))]) dX3_hottestFight_40 (by decide) rfl ?_
      refine r_aload dX3_hottestFight_42 0 rfl ?_
      refine r_get (C := RX2) (b := .int (dt 6 i)) dX3_hottestFight_44 hinX3_hottestFight_2 (dw_fgt hg (by omega)) rfl 3 (by decide) fwX3_hottestFight_100 rfl rfl ?_
      refine r_if_ne (tgt := 86) dX3_hottestFight_47 (by decide) (fun c2 => ?_) (fun c2 => ?_)
      · skip
        refine r_iinc (v := nI (i + 1)) (lo' := [(4, .int (nI (i + 1))), (5, .ref (a (20 + i))), (3, .int u), (2, va_rf (oA a p)), (0, .ref (a 15)), (1, .int (dAhead dt w 17))]) dX3_hottestFight_86 1 rfl (nI_1 i) (by decide) rfl ?_
        refine r_goto (tgt := 16) dX3_hottestFight_89 (by decide) ?_
        refine r_lo (lo' := [(4, .int (nI (i + 1))), (3, .int u), (2, va_rf (oA a p)), (0, .ref (a 15)), (1, .int (dAhead dt w 17))]) [0, 2, 3, 4, 5] rfl ?_
        exact ih (i + 1) p u (by omega) (by omega) (by rw [dHot_s e1 e2, if_neg c2]) (by rw [dHot_s e1 e2, if_neg c2])
      · skip
        refine r_aload_n dX3_hottestFight_50 4 rfl ?_
        refine r_aload dX3_hottestFight_51 0 rfl ?_
        refine r_callVi (nn := 1) (As := [.ref (a (20 + i))]) (st := []) dX3_hottestFight_53 (tX3_heatOf dt nF nC nE w hg hd i (by omega)) gX3_hottestFight_X3_heatOf rfl (by decide +kernel) ⟨Nat.le_of_ble_eq_true rfl, Nat.le_of_ble_eq_true rfl⟩ ⟨rfl, rfl⟩ (dw_obj hg) rfl rfl (Nat.le_of_ble_eq_true rfl) ⟨Nat.le_of_ble_eq_true rfl, Nat.le_of_ble_eq_true rfl⟩ rfl (fun r hh hp => ?_)
        obtain ⟨rfl, rfl⟩ := hp
        refine r_istore (lo' := [(6, .int (dHeat dt i)), (5, .ref (a (20 + i))), (4, .int (nI i)), (3, .int u), (2, va_rf (oA a p)), (0, .ref (a 15)), (1, .int (dAhead dt w 17))]) dX3_hottestFight_56 (by decide) rfl ?_
        refine r_aload_nQ dX3_hottestFight_58 4 rfl ?_
        rcases p with _ | z
        · refine r_ifnullN (tgt := 80) dX3_hottestFight_59 (by decide) ?_
          refine r_aload dX3_hottestFight_80 1 rfl ?_
          refine r_astore_n (lo' := [(2, .ref (a (20 + i))), (6, .int (dHeat dt i)), (5, .ref (a (20 + i))), (4, .int (nI i)), (3, .int u), (0, .ref (a 15)), (1, .int (dAhead dt w 17))]) dX3_hottestFight_82 (by decide) rfl ?_
          refine r_iload dX3_hottestFight_83 1 rfl ?_
          refine r_istore_n (lo' := [(3, .int (dHeat dt i)), (2, .ref (a (20 + i))), (6, .int (dHeat dt i)), (5, .ref (a (20 + i))), (4, .int (nI i)), (0, .ref (a 15)), (1, .int (dAhead dt w 17))]) dX3_hottestFight_85 (by decide) rfl ?_
          refine r_iinc (v := nI (i + 1)) (lo' := [(4, .int (nI (i + 1))), (3, .int (dHeat dt i)), (2, .ref (a (20 + i))), (6, .int (dHeat dt i)), (5, .ref (a (20 + i))), (0, .ref (a 15)), (1, .int (dAhead dt w 17))]) dX3_hottestFight_86 4 rfl (nI_1 i) (by decide) rfl ?_
          refine r_goto (tgt := 16) dX3_hottestFight_89 (by decide) ?_
          refine r_lo (lo' := [(4, .int (nI (i + 1))), (3, .int (dHeat dt i)), (2, .ref (a (20 + i))), (0, .ref (a 15)), (1, .int (dAhead dt w 17))]) [0, 1, 2, 5, 6] rfl ?_
          exact ih (i + 1) (some i) (dHeat dt i) (by omega) (by omega) (by rw [dHot_s e1 e2, if_pos c2, if_pos rfl]) (by rw [dHot_s e1 e2, if_pos c2, if_pos rfl])
        · refine r_ifnull dX3_hottestFight_59 ?_
          refine r_iload dX3_hottestFight_62 0 rfl ?_
          refine r_iload_n dX3_hottestFight_64 3 rfl ?_
          refine r_icmp_gt (tgt := 80) dX3_hottestFight_65 (by decide) (fun c3 => ?_) (fun c3 => ?_)
          · skip
            refine r_aload dX3_hottestFight_80 1 rfl ?_
            refine r_astore_n (lo' := [(2, .ref (a (20 + i))), (6, .int (dHeat dt i)), (5, .ref (a (20 + i))), (4, .int (nI i)), (3, .int u), (0, .ref (a 15)), (1, .int (dAhead dt w 17))]) dX3_hottestFight_82 (by decide) rfl ?_
            refine r_iload dX3_hottestFight_83 1 rfl ?_
            refine r_istore_n (lo' := [(3, .int (dHeat dt i)), (2, .ref (a (20 + i))), (6, .int (dHeat dt i)), (5, .ref (a (20 + i))), (4, .int (nI i)), (0, .ref (a 15)), (1, .int (dAhead dt w 17))]) dX3_hottestFight_85 (by decide) rfl ?_
            refine r_iinc (v := nI (i + 1)) (lo' := [(4, .int (nI (i + 1))), (3, .int (dHeat dt i)), (2, .ref (a (20 + i))), (6, .int (dHeat dt i)), (5, .ref (a (20 + i))), (0, .ref (a 15)), (1, .int (dAhead dt w 17))]) dX3_hottestFight_86 4 rfl (nI_1 i) (by decide) rfl ?_
            refine r_goto (tgt := 16) dX3_hottestFight_89 (by decide) ?_
            refine r_lo (lo' := [(4, .int (nI (i + 1))), (3, .int (dHeat dt i)), (2, .ref (a (20 + i))), (0, .ref (a 15)), (1, .int (dAhead dt w 17))]) [0, 1, 2, 5, 6] rfl ?_
            exact ih (i + 1) (some i) (dHeat dt i) (by omega) (by omega) (by rw [dHot_s e1 e2, if_pos c2, if_neg (Option.some_ne_none _), if_pos c3]) (by rw [dHot_s e1 e2, if_pos c2, if_neg (Option.some_ne_none _), if_pos c3])
          · skip
            refine r_iload dX3_hottestFight_68 0 rfl ?_
            refine r_iload_n dX3_hottestFight_70 3 rfl ?_
            refine r_icmp_ne (tgt := 86) dX3_hottestFight_71 (by decide) (fun c4 => ?_) (fun c4 => ?_)
            · skip
              refine r_iinc (v := nI (i + 1)) (lo' := [(4, .int (nI (i + 1))), (6, .int (dHeat dt i)), (5, .ref (a (20 + i))), (3, .int u), (2, va_rf (oA a (some z))), (0, .ref (a 15)), (1, .int (dAhead dt w 17))]) dX3_hottestFight_86 2 rfl (nI_1 i) (by decide) rfl ?_
              refine r_goto (tgt := 16) dX3_hottestFight_89 (by decide) ?_
              refine r_lo (lo' := [(4, .int (nI (i + 1))), (3, .int u), (2, va_rf (oA a (some z))), (0, .ref (a 15)), (1, .int (dAhead dt w 17))]) [0, 3, 4, 5, 6] rfl ?_
              exact ih (i + 1) (some z) u (by omega) (by omega) (by rw [dHot_s e1 e2, if_pos c2, if_neg (Option.some_ne_none _), if_neg c3, if_neg c4]) (by rw [dHot_s e1 e2, if_pos c2, if_neg (Option.some_ne_none _), if_neg c3, if_neg c4])
            · skip
              refine r_iload dX3_hottestFight_74 2 rfl ?_
              refine r_iload_n dX3_hottestFight_76 6 rfl ?_
              refine r_icmp_ne (tgt := 86) dX3_hottestFight_77 (by decide) (fun c5 => ?_) (fun c5 => ?_)
              · skip
                refine r_iinc (v := nI (i + 1)) (lo' := [(4, .int (nI (i + 1))), (6, .int (dHeat dt i)), (5, .ref (a (20 + i))), (3, .int u), (2, va_rf (oA a (some z))), (0, .ref (a 15)), (1, .int (dAhead dt w 17))]) dX3_hottestFight_86 2 rfl (nI_1 i) (by decide) rfl ?_
                refine r_goto (tgt := 16) dX3_hottestFight_89 (by decide) ?_
                refine r_lo (lo' := [(4, .int (nI (i + 1))), (3, .int u), (2, va_rf (oA a (some z))), (0, .ref (a 15)), (1, .int (dAhead dt w 17))]) [0, 3, 4, 5, 6] rfl ?_
                exact ih (i + 1) (some z) u (by omega) (by omega) (by rw [dHot_s e1 e2, if_pos c2, if_neg (Option.some_ne_none _), if_neg c3, if_pos c4, if_neg c5]) (by rw [dHot_s e1 e2, if_pos c2, if_neg (Option.some_ne_none _), if_neg c3, if_pos c4, if_neg c5])
              · skip
                refine r_aload dX3_hottestFight_80 1 rfl ?_
                refine r_astore_n (lo' := [(2, .ref (a (20 + i))), (6, .int (dHeat dt i)), (5, .ref (a (20 + i))), (4, .int (nI i)), (3, .int u), (0, .ref (a 15)), (1, .int (dAhead dt w 17))]) dX3_hottestFight_82 (by decide) rfl ?_
                refine r_iload dX3_hottestFight_83 1 rfl ?_
                refine r_istore_n (lo' := [(3, .int (dHeat dt i)), (2, .ref (a (20 + i))), (6, .int (dHeat dt i)), (5, .ref (a (20 + i))), (4, .int (nI i)), (0, .ref (a 15)), (1, .int (dAhead dt w 17))]) dX3_hottestFight_85 (by decide) rfl ?_
                refine r_iinc (v := nI (i + 1)) (lo' := [(4, .int (nI (i + 1))), (3, .int (dHeat dt i)), (2, .ref (a (20 + i))), (6, .int (dHeat dt i)), (5, .ref (a (20 + i))), (0, .ref (a 15)), (1, .int (dAhead dt w 17))]) dX3_hottestFight_86 4 rfl (nI_1 i) (by decide) rfl ?_
                refine r_goto (tgt := 16) dX3_hottestFight_89 (by decide) ?_
                refine r_lo (lo' := [(4, .int (nI (i + 1))), (3, .int (dHeat dt i)), (2, .ref (a (20 + i))), (0, .ref (a 15)), (1, .int (dAhead dt w 17))]) [0, 1, 2, 5, 6] rfl ?_
                exact ih (i + 1) (some i) (dHeat dt i) (by omega) (by omega) (by rw [dHot_s e1 e2, if_pos c2, if_neg (Option.some_ne_none _), if_neg c3, if_pos c4, if_pos c5]) (by rw [dHot_s e1 e2, if_pos c2, if_neg (Option.some_ne_none _), if_neg c3, if_pos c4, if_pos c5])

set_option maxHeartbeats 4000000 in
set_option maxRecDepth 100000 in
theorem tX3_hottestFight {E : kE} {a cap : Nat → Nat} {h0 : kH} (dt : kM)  (nF nC nE w : Nat) (hg : dgeo E a cap nF nC nE h0) (hd : dwf dt nF nC nE w) : kCq E yX3_hottestFight wsX3_hottestFight rmX3_hottestFight 0 0 [.ref (a 15)] (dw E a cap nF nC nE dt h0) (fun r h' => r = oA a (dHot dt w nF).1 ∧ h' = dw E a cap nF nC nE dt h0) := by
  obtain ⟨hF, hF20, hC, hC6, hE, hE80, hW, hW3, hpl, hof, hsp⟩ := id hd
  refine kCq_of (rt := .object "Castdesk$Fight") (own := RX3) (cc := cX3_hottestFight) (maxL := 7) (by decide) rfl rfl (Or.inl ⟨_, rfl⟩) (Nat.le_of_ble_eq_true rfl) ?_
  intro X hini kret
  refine r_lo (lo' := [(0, .ref (a 15))]) [0] rfl ?_
  refine r_aload_n dX3_hottestFight_0 0 rfl ?_
  refine r_aload_n dX3_hottestFight_1 0 rfl ?_
  refine r_get (C := RX3) (b := .ref (a 12)) dX3_hottestFight_2 hinX3_hottestFight_3 (dw_obj hg) rfl 12 (by decide) fwX3_hottestFight_45 rfl rfl ?_
  refine r_callVi (nn := 1) (As := [.ref (a 12)]) (st := []) dX3_hottestFight_5 (tX3_ofFrameAhead_17 dt nF nC nE w hg hd) gX3_hottestFight_X3_ofFrameAhead rfl (by decide +kernel) ⟨Nat.le_of_ble_eq_true rfl, Nat.le_of_ble_eq_true rfl⟩ ⟨rfl, rfl⟩ (dw_obj hg) rfl rfl (Nat.le_of_ble_eq_true rfl) ⟨Nat.le_of_ble_eq_true rfl, Nat.le_of_ble_eq_true rfl⟩ rfl (fun r hh hp => ?_)
  obtain ⟨rfl, rfl⟩ := hp
  refine r_istore_n (lo' := [(1, .int (dAhead dt w 17)), (0, .ref (a 15))]) dX3_hottestFight_8 (by decide) rfl ?_
  refine r_null dX3_hottestFight_9 ?_
  refine r_astore_nN (lo' := [(2, .null), (1, .int (dAhead dt w 17)), (0, .ref (a 15))]) dX3_hottestFight_10 (by decide) rfl ?_
  refine r_iconst (v := 0) dX3_hottestFight_11 (by decide) ?_
  refine r_istore_n (lo' := [(3, .int 0), (2, .null), (1, .int (dAhead dt w 17)), (0, .ref (a 15))]) dX3_hottestFight_12 (by decide) rfl ?_
  refine r_iconst (v := 0) dX3_hottestFight_13 (by decide) ?_
  refine r_istore (lo' := [(4, .int 0), (3, .int 0), (2, .null), (1, .int (dAhead dt w 17)), (0, .ref (a 15))]) dX3_hottestFight_14 (by decide) rfl ?_
  refine r_lo (lo' := [(4, .int (nI 0)), (3, .int 0), (2, .null), (0, .ref (a 15)), (1, .int (dAhead dt w 17))]) [0, 1, 2, 4, 3] rfl ?_
  refine lX3_hottestFight_16 dt nF nC nE w hg hd (fun p u e1 e2 => ?_) (nF + 1) 0 none 0 (by omega) (Nat.zero_le _) rfl rfl
  refine r_aload_nQ dX3_hottestFight_92 2 rfl ?_
  exact kret _ _ _ _ _ (oA a p) (Nat.le_refl _) (Nat.le_refl _) dX3_hottestFight_93 (⟨by rw [e1], rfl⟩)

abbrev rmX3_showFight : Room := { frames := 3, cells := 0, slots := 0, locals := 67 }
theorem hinX3_showFight_2 : ∀ w ∈ u_ws RX2 TX2 7, w ∈ wsX3_showFight := by decide +kernel
theorem hinX3_showFight_3 : ∀ w ∈ u_ws RX3 TX3 15, w ∈ wsX3_showFight := by decide +kernel
theorem fwX3_showFight_32 : Cond.fieldLink RX3 32 "Castdesk" "countedFrames" "[I" ∈ wsX3_showFight := by decide +kernel
theorem fwX3_showFight_45 : Cond.fieldLink RX3 45 "Castdesk" "shownFight" "[I" ∈ wsX3_showFight := by decide +kernel
theorem fwX3_showFight_51 : Cond.fieldLink RX3 51 "Castdesk" "shownSponsor" "[I" ∈ wsX3_showFight := by decide +kernel
theorem fwX3_showFight_85 : Cond.fieldLink RX3 85 "Castdesk" "now" "I" ∈ wsX3_showFight := by decide +kernel
theorem fwX3_showFight_187 : Cond.fieldLink RX3 187 "Castdesk$Fight" "framesShown" "I" ∈ wsX3_showFight := by decide +kernel
theorem fwX3_showFight_249 : Cond.fieldLink RX3 249 "Castdesk$Fight" "number" "I" ∈ wsX3_showFight := by decide +kernel
set_option maxHeartbeats 4000000 in
set_option maxRecDepth 100000 in
theorem tX3_showFight {E : kE} {a cap : Nat → Nat} {h0 : kH} (dt : kM)  (nF nC nE w : Nat) (hg : dgeo E a cap nF nC nE h0) (hd : dwf dt nF nC nE w) (o : Nat) (ho : o < nF) (hw : w < 3000) : kCv E yX3_showFight wsX3_showFight rmX3_showFight 0 0 [.ref (a 15), .ref (a (20 + o))] (dw E a cap nF nC nE dt h0) (fun h' => h' = dw E a cap nF nC nE (dShow dt w o) h0) := by
  obtain ⟨hF, hF20, hC, hC6, hE, hE80, hW, hW3, hpl, hof, hsp⟩ := id hd
  refine kCv_of (own := RX3) (cc := cX3_showFight) (maxL := 3) (by decide) rfl rfl (Nat.le_of_ble_eq_true rfl) ?_
  intro X hini kret
  refine r_lo (lo' := [(0, .ref (a 15)), (1, .ref (a (20 + o)))]) [0, 1] rfl ?_
  refine r_aload_n dX3_showFight_0 0 rfl ?_
  refine r_get (C := RX3) (b := .ref (a 12)) dX3_showFight_1 hinX3_showFight_3 (dw_obj hg) rfl 12 (by decide) fwX3_showFight_45 rfl rfl ?_
  refine r_aload_n dX3_showFight_4 0 rfl ?_
  refine r_get (C := RX3) (b := .int (nI w)) dX3_showFight_5 hinX3_showFight_3 (dw_obj hg) rfl 9 (by decide) fwX3_showFight_85 rfl (by show some (Value.int (dt 1 0)) = _; rw [show dt 1 0 = nI w from hW]) ?_
  refine r_aload_n dX3_showFight_8 1 rfl ?_
  refine r_get (C := RX2) (b := .int (nI o)) dX3_showFight_9 hinX3_showFight_2 (dw_fgt hg (by omega)) rfl 0 (by decide) fwX3_showFight_249 rfl rfl ?_
  refine d_ast hg 12 17 w (by decide) rfl dX3_showFight_12 rfl (by show _ < 3000; omega) (by decide) ?_
  refine r_aload_n dX3_showFight_13 1 rfl ?_
  refine r_dup dX3_showFight_14 rfl ?_
  refine r_get (C := RX2) (b := .int (dt 31 o)) dX3_showFight_15 hinX3_showFight_2 (dw_fgt hg (by omega)) rfl 5 (by decide) fwX3_showFight_187 rfl rfl ?_
  refine r_iconst (v := 1) dX3_showFight_18 (by decide) ?_
  refine r_iadd dX3_showFight_19 ?_
  refine d_putF hg (by omega) hinX3_showFight_2 5 31 (by decide) dX3_showFight_20 fwX3_showFight_187 rfl rfl rfl ?_
  refine r_aload_n dX3_showFight_23 0 rfl ?_
  refine r_aload_n dX3_showFight_24 1 rfl ?_
  refine r_callVi (nn := 1) (As := [.ref (a (20 + o))]) (st := []) dX3_showFight_25 (tX3_sponsorOwedMost (ma (ma dt 17 w (nI o)) 31 o ((dt 31 o) + 1)) nF nC nE w hg (dwf_c hd rfl rfl rfl rfl rfl rfl rfl rfl rfl) o ho) gX3_showFight_X3_sponsorOwedMost rfl (by decide +kernel) ⟨Nat.le_of_ble_eq_true rfl, Nat.le_of_ble_eq_true rfl⟩ ⟨rfl, rfl⟩ (dw_obj hg) rfl rfl (Nat.le_of_ble_eq_true rfl) ⟨Nat.le_of_ble_eq_true rfl, Nat.le_of_ble_eq_true rfl⟩ rfl (fun r hh hp => ?_)
  obtain ⟨rfl, rfl⟩ := hp
  refine r_istore_n (lo' := [(2, .int ((dSpo (ma (ma dt 17 w (nI o)) 31 o ((dt 31 o) + 1)) o 6).1)), (0, .ref (a 15)), (1, .ref (a (20 + o)))]) dX3_showFight_28 (by decide) rfl ?_
  refine r_aload_n dX3_showFight_29 1 rfl ?_
  refine r_get (C := RX3) (b := .ref (a 14)) dX3_showFight_30 hinX3_showFight_3 (dw_obj hg) rfl 14 (by decide) fwX3_showFight_51 rfl rfl ?_
  refine r_aload_n dX3_showFight_33 1 rfl ?_
  refine r_get (C := RX3) (b := .int (nI w)) dX3_showFight_34 hinX3_showFight_3 (dw_obj hg) rfl 9 (by decide) fwX3_showFight_85 rfl (by show some (Value.int ((ma (ma dt 17 w (nI o)) 31 o ((dt 31 o) + 1)) 1 0)) = _; rw [show (ma (ma dt 17 w (nI o)) 31 o ((dt 31 o) + 1)) 1 0 = nI w from hW]) ?_
  refine r_iload_n dX3_showFight_37 0 rfl ?_
  refine d_ast hg 14 19 w (by decide) rfl dX3_showFight_38 rfl (by show _ < 3000; omega) (by decide) ?_
  refine r_iload_n dX3_showFight_39 0 rfl ?_
  refine r_iconst (v := (-1)) dX3_showFight_40 (by decide) ?_
  refine r_icmp_eq (tgt := 54) dX3_showFight_41 (by decide) (fun c1 => ?_) (fun c1 => ?_)
  · skip
    exact kret _ _ _ _ _ (Nat.le_refl _) (Nat.le_refl _) dX3_showFight_54 (by rw [dShow, if_pos c1])
  · skip
    refine r_aload_n dX3_showFight_44 1 rfl ?_
    refine r_get (C := RX3) (b := .ref (a 6)) dX3_showFight_45 hinX3_showFight_3 (dw_obj hg) rfl 6 (by decide) fwX3_showFight_32 rfl rfl ?_
    refine r_iload_n dX3_showFight_48 0 rfl ?_
    refine r_dup2 dX3_showFight_49 rfl rfl ?_
    refine d_aldx (v := (ma (ma (ma dt 17 w (nI o)) 31 o ((dt 31 o) + 1)) 19 w ((dSpo (ma (ma dt 17 w (nI o)) 31 o ((dt 31 o) + 1)) o 6).1)) 33 ((dSpo (ma (ma dt 17 w (nI o)) 31 o ((dt 31 o) + 1)) o 6).1).toNatClampNeg) hg 6 33 (by decide) rfl dX3_showFight_50 (dSpo_vp c1) rfl ?_
    refine r_iconst (v := 1) dX3_showFight_51 (by decide) ?_
    refine r_iadd dX3_showFight_52 ?_
    refine d_astx hg 6 33 (by decide) rfl dX3_showFight_53 (dSpo_vp c1) ?_
    exact kret _ _ _ _ _ (Nat.le_refl _) (Nat.le_refl _) dX3_showFight_54 (by rw [dShow, if_neg c1])

abbrev rmX3_passOne : Room := { frames := 5, cells := 0, slots := 0, locals := 107 }
theorem hinX3_passOne_3 : ∀ w ∈ u_ws RX3 TX3 15, w ∈ wsX3_passOne := by decide +kernel
theorem fwX3_passOne_19 : Cond.fieldLink RX3 19 "Castdesk" "fights" "Ljava/util/ArrayList;" ∈ wsX3_passOne := by decide +kernel
theorem fwX3_passOne_45 : Cond.fieldLink RX3 45 "Castdesk" "shownFight" "[I" ∈ wsX3_passOne := by decide +kernel
theorem fwX3_passOne_48 : Cond.fieldLink RX3 48 "Castdesk" "shownCamera" "[I" ∈ wsX3_passOne := by decide +kernel
theorem fwX3_passOne_51 : Cond.fieldLink RX3 51 "Castdesk" "shownSponsor" "[I" ∈ wsX3_passOne := by decide +kernel
theorem fwX3_passOne_85 : Cond.fieldLink RX3 85 "Castdesk" "now" "I" ∈ wsX3_passOne := by decide +kernel
set_option maxHeartbeats 4000000 in
set_option maxRecDepth 100000 in
theorem lX3_passOne_69 {E : kE} {a cap : Nat → Nat} {h0 : kH} (dt : kM)  (nF nC nE w : Nat) (hg : dgeo E a cap nF nC nE h0) (hd : dwf dt nF nC nE w) (hw : w < 3000)  {X : kX} (hx : V E X rmX3_passOne cX3_passOne 4 wsX3_passOne RX3 0 0 (dw E a cap nF nC nE (dBlo dt nF) h0) [(3, .int (nI nF)), (0, .ref (a 15))] 100 [])
    : ∀ (d i : Nat), nF < i + d → i ≤ nF → V E X rmX3_passOne cX3_passOne 4 wsX3_passOne RX3 0 0 (dw E a cap nF nC nE (dBlo dt i) h0) [(3, .int (nI i)), (0, .ref (a 15))] 69 [] := by
  obtain ⟨hF, hF20, hC, hC6, hE, hE80, hW, hW3, hpl, hof, hsp⟩ := id hd
  intro d
  induction d with
  | zero =>
    intro i  h1 h2
    exact absurd h1 (by omega)
  | succ d ih =>
    intro i  h1 h2 
    refine r_iload_n dX3_passOne_69 0 rfl ?_
    refine r_aload_n dX3_passOne_70 1 rfl ?_
    refine r_get (C := RX3) (b := .ref (a 2)) dX3_passOne_71 hinX3_passOne_3 (dw_obj hg) rfl 2 (by decide) fwX3_passOne_19 rfl rfl ?_
    refine r_callVi (nn := 0) (As := []) (st := [.int (nI i)]) dX3_passOne_74 (tJx4a65c_size_8abf5 _ _ _ _ (dw_lstN hg (k := 2) (by decide) (show dBlo dt i 5 0 = nI nF by rw [dBlo_g dt i (by decide)]; exact hF))) gX3_passOne_Jx4a65c_size_8abf5 rfl (by decide +kernel) ⟨Nat.le_of_ble_eq_true rfl, Nat.le_of_ble_eq_true rfl⟩ ⟨rfl, rfl⟩ (dw_lstN hg (k := 2) (by decide) (show dBlo dt i 5 0 = nI nF by rw [dBlo_g dt i (by decide)]; exact hF)) rfl rfl (Nat.le_of_ble_eq_true rfl) ⟨Nat.le_of_ble_eq_true rfl, Nat.le_of_ble_eq_true rfl⟩ rfl (fun r hh hp => ?_)
    obtain ⟨rfl, rfl⟩ := hp
    refine rn_icmp_ge (a := i) (c := nF) (tgt := 100) dX3_passOne_77 (by decide) rfl rfl (by omega) (by omega) (fun c1 => ?_) (fun c1 => ?_)
    · skip
      have hNi : nF = i := by omega
      subst hNi
      exact hx
    · skip
      refine r_aload_n dX3_passOne_80 1 rfl ?_
      refine r_get (C := RX3) (b := .ref (a 2)) dX3_passOne_81 hinX3_passOne_3 (dw_obj hg) rfl 2 (by decide) fwX3_passOne_19 rfl rfl ?_
      refine r_iload_n dX3_passOne_84 0 rfl ?_
      refine r_callVq (nn := 1) (As := [.int (nI i)]) (st := []) dX3_passOne_85 (tg_2 hg (show dBlo dt i 5 0 = nI nF by rw [dBlo_g dt i (by decide)]; exact hF) (by omega)) gX3_passOne_Jx4a65c_get_915e3 rfl (by decide +kernel) ⟨Nat.le_of_ble_eq_true rfl, Nat.le_of_ble_eq_true rfl⟩ ⟨rfl, rfl⟩ (dw_lstN hg (k := 2) (by decide) (show dBlo dt i 5 0 = nI nF by rw [dBlo_g dt i (by decide)]; exact hF)) rfl rfl (Nat.le_of_ble_eq_true rfl) ⟨Nat.le_of_ble_eq_true rfl, Nat.le_of_ble_eq_true rfl⟩ rfl (fun r hh hp => ?_)
      obtain ⟨rfl, rfl⟩ := hp
      refine r_cast (C := RX2) dX3_passOne_88 (by decide +kernel) (dw_fgt hg (by omega)) rfl ?_
      refine r_callVv (nn := 0) (As := []) (st := []) dX3_passOne_91 (tX2_letFramePass (dBlo dt i) nF nC nE w hg (dBlo_wf hd) i (by omega)) gX3_passOne_X2_letFramePass rfl (by decide +kernel) ⟨Nat.le_of_ble_eq_true rfl, Nat.le_of_ble_eq_true rfl⟩ ⟨rfl, rfl⟩ (dw_fgt hg (by omega)) rfl rfl (Nat.le_of_ble_eq_true rfl) ⟨Nat.le_of_ble_eq_true rfl, Nat.le_of_ble_eq_true rfl⟩ rfl (fun hh hp => ?_)
      subst hp
      refine r_iinc (v := nI (i + 1)) (lo' := [(3, .int (nI (i + 1))), (0, .ref (a 15))]) dX3_passOne_94 0 rfl (nI_1 i) (by decide) rfl ?_
      refine r_goto (tgt := 69) dX3_passOne_97 (by decide) ?_
      refine r_lo (lo' := [(3, .int (nI (i + 1))), (0, .ref (a 15))]) [0, 1] rfl ?_
      rw [show (ma (dBlo dt i) 32 i ((dBlo dt i) 32 i <<< ((1 : Int32) &&& 31))) = dBlo dt (i + 1) from rfl]
      exact ih (i + 1) (by omega) (by omega)

set_option maxHeartbeats 4000000 in
set_option maxRecDepth 100000 in
theorem tX3_passOne {E : kE} {a cap : Nat → Nat} {h0 : kH} (dt : kM)  (nF nC nE w : Nat) (hg : dgeo E a cap nF nC nE h0) (hd : dwf dt nF nC nE w) (hw : w < 3000) : kCv E yX3_passOne wsX3_passOne rmX3_passOne 0 0 [.ref (a 15)] (dw E a cap nF nC nE dt h0) (fun h' => h' = dw E a cap nF nC nE (dPass1 dt nF nC w) h0) := by
  obtain ⟨hF, hF20, hC, hC6, hE, hE80, hW, hW3, hpl, hof, hsp⟩ := id hd
  refine kCv_of (own := RX3) (cc := cX3_passOne) (maxL := 4) (by decide) rfl rfl (Nat.le_of_ble_eq_true rfl) ?_
  intro X hini kret
  refine r_lo (lo' := [(0, .ref (a 15))]) [0] rfl ?_
  refine r_aload_n dX3_passOne_0 0 rfl ?_
  refine r_callVq (nn := 0) (As := []) (st := []) dX3_passOne_1 (tX3_hottestFight dt nF nC nE w hg hd) gX3_passOne_X3_hottestFight rfl (by decide +kernel) ⟨Nat.le_of_ble_eq_true rfl, Nat.le_of_ble_eq_true rfl⟩ ⟨rfl, rfl⟩ (dw_obj hg) rfl rfl (Nat.le_of_ble_eq_true rfl) ⟨Nat.le_of_ble_eq_true rfl, Nat.le_of_ble_eq_true rfl⟩ rfl (fun r hh hp => ?_)
  obtain ⟨rfl, rfl⟩ := hp
  rcases hf : (dHot dt w nF).1 with _ | o
  · skip
    refine r_astore_nN (lo' := [(1, .null), (0, .ref (a 15))]) dX3_passOne_4 (by decide) rfl ?_
    refine r_aload_nN dX3_passOne_5 0 rfl ?_
    refine r_ifnonnullN dX3_passOne_6 ?_
    refine r_iconst (v := (-1)) dX3_passOne_9 (by decide) ?_
    refine r_goto (tgt := 17) dX3_passOne_10 (by decide) ?_
    refine r_istore_n (lo' := [(2, .int (-1)), (1, .null), (0, .ref (a 15))]) dX3_passOne_17 (by decide) rfl ?_
    refine r_aload_n dX3_passOne_18 2 rfl ?_
    refine r_get (C := RX3) (b := .ref (a 12)) dX3_passOne_19 hinX3_passOne_3 (dw_obj hg) rfl 12 (by decide) fwX3_passOne_45 rfl rfl ?_
    refine r_aload_n dX3_passOne_22 2 rfl ?_
    refine r_get (C := RX3) (b := .int (nI w)) dX3_passOne_23 hinX3_passOne_3 (dw_obj hg) rfl 9 (by decide) fwX3_passOne_85 rfl (by show some (Value.int (dt 1 0)) = _; rw [show dt 1 0 = nI w from hW]) ?_
    refine r_iconst (v := (-1)) dX3_passOne_26 (by decide) ?_
    refine d_ast hg 12 17 w (by decide) rfl dX3_passOne_27 rfl (by show _ < 3000; omega) (by decide) ?_
    refine r_aload_n dX3_passOne_28 2 rfl ?_
    refine r_get (C := RX3) (b := .ref (a 13)) dX3_passOne_29 hinX3_passOne_3 (dw_obj hg) rfl 13 (by decide) fwX3_passOne_48 rfl rfl ?_
    refine r_aload_n dX3_passOne_32 2 rfl ?_
    refine r_get (C := RX3) (b := .int (nI w)) dX3_passOne_33 hinX3_passOne_3 (dw_obj hg) rfl 9 (by decide) fwX3_passOne_85 rfl (by show some (Value.int ((ma dt 17 w (-1)) 1 0)) = _; rw [show (ma dt 17 w (-1)) 1 0 = nI w from hW]) ?_
    refine r_iload_n dX3_passOne_36 0 rfl ?_
    refine d_ast hg 13 18 w (by decide) rfl dX3_passOne_37 rfl (by show _ < 3000; omega) (by decide) ?_
    refine r_aload_n dX3_passOne_38 2 rfl ?_
    refine r_get (C := RX3) (b := .ref (a 14)) dX3_passOne_39 hinX3_passOne_3 (dw_obj hg) rfl 14 (by decide) fwX3_passOne_51 rfl rfl ?_
    refine r_aload_n dX3_passOne_42 2 rfl ?_
    refine r_get (C := RX3) (b := .int (nI w)) dX3_passOne_43 hinX3_passOne_3 (dw_obj hg) rfl 9 (by decide) fwX3_passOne_85 rfl (by show some (Value.int ((ma (ma dt 17 w (-1)) 18 w (-1)) 1 0)) = _; rw [show (ma (ma dt 17 w (-1)) 18 w (-1)) 1 0 = nI w from hW]) ?_
    refine r_iconst (v := (-1)) dX3_passOne_46 (by decide) ?_
    refine d_ast hg 14 19 w (by decide) rfl dX3_passOne_47 rfl (by show _ < 3000; omega) (by decide) ?_
    refine r_aload_nN dX3_passOne_48 1 rfl ?_
    refine r_ifnullN (tgt := 62) dX3_passOne_49 (by decide) ?_
    refine r_aload_n dX3_passOne_62 2 rfl ?_
    refine r_iload_n dX3_passOne_63 0 rfl ?_
    refine r_callVv (nn := 1) (As := [.int (-1)]) (st := []) dX3_passOne_64 (tX3_letCamerasPass (ma (ma (ma dt 17 w (-1)) 18 w (-1)) 19 w (-1)) nF nC nE w hg (dwf_19 (dwf_c hd rfl rfl rfl rfl rfl rfl rfl rfl rfl)) (-1)) gX3_passOne_X3_letCamerasPass rfl (by decide +kernel) ⟨Nat.le_of_ble_eq_true rfl, Nat.le_of_ble_eq_true rfl⟩ ⟨rfl, rfl⟩ (dw_obj hg) rfl rfl (Nat.le_of_ble_eq_true rfl) ⟨Nat.le_of_ble_eq_true rfl, Nat.le_of_ble_eq_true rfl⟩ rfl (fun hh hp => ?_)
    subst hp
    refine r_iconst (v := 0) dX3_passOne_67 (by decide) ?_
    refine r_istore_n (lo' := [(3, .int 0), (2, .int (-1)), (1, .null), (0, .ref (a 15))]) dX3_passOne_68 (by decide) rfl ?_
    refine r_lo (lo' := [(3, .int (nI 0)), (0, .ref (a 15))]) [0, 3] rfl ?_
    refine lX3_passOne_69 (dCams (ma (ma (ma dt 17 w (-1)) 18 w (-1)) 19 w (-1)) (-1) nC) nF nC nE w hg (dCams_wf (dwf_19 (dwf_c hd rfl rfl rfl rfl rfl rfl rfl rfl rfl))) hw ?_ (nF + 1) 0 (by omega) (Nat.zero_le _)
    refine r_aload_n dX3_passOne_100 1 rfl ?_
    refine r_dup dX3_passOne_101 rfl ?_
    refine r_get (C := RX3) (b := .int (nI w)) dX3_passOne_102 hinX3_passOne_3 (dw_obj hg) rfl 9 (by decide) fwX3_passOne_85 rfl (by show some (Value.int ((dBlo (dCams (ma (ma (ma dt 17 w (-1)) 18 w (-1)) 19 w (-1)) (-1) nC) nF) 1 0)) = _; rw [show (dBlo (dCams (ma (ma (ma dt 17 w (-1)) 18 w (-1)) 19 w (-1)) (-1) nC) nF) 1 0 = nI w from (dwf_w (dBlo_wf (dCams_wf (dwf_19 (dwf_c hd rfl rfl rfl rfl rfl rfl rfl rfl rfl)))))]) ?_
    refine r_iconst (v := 1) dX3_passOne_105 (by decide) ?_
    refine r_iadd dX3_passOne_106 ?_
    refine d_put hg hinX3_passOne_3 9 1 (by decide) dX3_passOne_107 fwX3_passOne_85 rfl rfl rfl ?_
    refine r_aload_n dX3_passOne_110 1 rfl ?_
    refine r_callVv (nn := 0) (As := []) (st := []) dX3_passOne_111 (tX3_letViewersSee (ms (dBlo (dCams (ma (ma (ma dt 17 w (-1)) 18 w (-1)) 19 w (-1)) (-1) nC) nF) 1 ((nI w) + 1)) nF nC nE hg) gX3_passOne_X3_letViewersSee rfl (by decide +kernel) ⟨Nat.le_of_ble_eq_true rfl, Nat.le_of_ble_eq_true rfl⟩ ⟨rfl, rfl⟩ (dw_obj hg) rfl rfl (Nat.le_of_ble_eq_true rfl) ⟨Nat.le_of_ble_eq_true rfl, Nat.le_of_ble_eq_true rfl⟩ rfl (fun hh hp => ?_)
    subst hp
    exact kret _ _ _ _ _ (Nat.le_refl _) (Nat.le_refl _) dX3_passOne_114 (by rw [dPass1_n hf, ← nI_1])
  · skip
    have ho : o < nF := dHot_lt nF hf
    refine r_astore_n (lo' := [(1, .ref (a (20 + o))), (0, .ref (a 15))]) dX3_passOne_4 (by decide) rfl ?_
    refine r_aload_n dX3_passOne_5 0 rfl ?_
    refine r_ifnonnull (tgt := 13) dX3_passOne_6 (by decide) ?_
    refine r_aload_n dX3_passOne_13 1 rfl ?_
    refine r_callVi (nn := 0) (As := []) (st := []) dX3_passOne_14 (tX3_cameraForAir dt nF nC nE w hg hd) gX3_passOne_X3_cameraForAir rfl (by decide +kernel) ⟨Nat.le_of_ble_eq_true rfl, Nat.le_of_ble_eq_true rfl⟩ ⟨rfl, rfl⟩ (dw_obj hg) rfl rfl (Nat.le_of_ble_eq_true rfl) ⟨Nat.le_of_ble_eq_true rfl, Nat.le_of_ble_eq_true rfl⟩ rfl (fun r hh hp => ?_)
    obtain ⟨rfl, rfl⟩ := hp
    refine r_istore_n (lo' := [(2, .int (dCam dt nC w)), (1, .ref (a (20 + o))), (0, .ref (a 15))]) dX3_passOne_17 (by decide) rfl ?_
    refine r_aload_n dX3_passOne_18 2 rfl ?_
    refine r_get (C := RX3) (b := .ref (a 12)) dX3_passOne_19 hinX3_passOne_3 (dw_obj hg) rfl 12 (by decide) fwX3_passOne_45 rfl rfl ?_
    refine r_aload_n dX3_passOne_22 2 rfl ?_
    refine r_get (C := RX3) (b := .int (nI w)) dX3_passOne_23 hinX3_passOne_3 (dw_obj hg) rfl 9 (by decide) fwX3_passOne_85 rfl (by show some (Value.int (dt 1 0)) = _; rw [show dt 1 0 = nI w from hW]) ?_
    refine r_iconst (v := (-1)) dX3_passOne_26 (by decide) ?_
    refine d_ast hg 12 17 w (by decide) rfl dX3_passOne_27 rfl (by show _ < 3000; omega) (by decide) ?_
    refine r_aload_n dX3_passOne_28 2 rfl ?_
    refine r_get (C := RX3) (b := .ref (a 13)) dX3_passOne_29 hinX3_passOne_3 (dw_obj hg) rfl 13 (by decide) fwX3_passOne_48 rfl rfl ?_
    refine r_aload_n dX3_passOne_32 2 rfl ?_
    refine r_get (C := RX3) (b := .int (nI w)) dX3_passOne_33 hinX3_passOne_3 (dw_obj hg) rfl 9 (by decide) fwX3_passOne_85 rfl (by show some (Value.int ((ma dt 17 w (-1)) 1 0)) = _; rw [show (ma dt 17 w (-1)) 1 0 = nI w from hW]) ?_
    refine r_iload_n dX3_passOne_36 0 rfl ?_
    refine d_ast hg 13 18 w (by decide) rfl dX3_passOne_37 rfl (by show _ < 3000; omega) (by decide) ?_
    refine r_aload_n dX3_passOne_38 2 rfl ?_
    refine r_get (C := RX3) (b := .ref (a 14)) dX3_passOne_39 hinX3_passOne_3 (dw_obj hg) rfl 14 (by decide) fwX3_passOne_51 rfl rfl ?_
    refine r_aload_n dX3_passOne_42 2 rfl ?_
    refine r_get (C := RX3) (b := .int (nI w)) dX3_passOne_43 hinX3_passOne_3 (dw_obj hg) rfl 9 (by decide) fwX3_passOne_85 rfl (by show some (Value.int ((ma (ma dt 17 w (-1)) 18 w (dCam dt nC w)) 1 0)) = _; rw [show (ma (ma dt 17 w (-1)) 18 w (dCam dt nC w)) 1 0 = nI w from hW]) ?_
    refine r_iconst (v := (-1)) dX3_passOne_46 (by decide) ?_
    refine d_ast hg 14 19 w (by decide) rfl dX3_passOne_47 rfl (by show _ < 3000; omega) (by decide) ?_
    refine r_aload_n dX3_passOne_48 1 rfl ?_
    refine r_ifnull dX3_passOne_49 ?_
    refine r_iload_n dX3_passOne_52 0 rfl ?_
    refine r_iconst (v := (-1)) dX3_passOne_53 (by decide) ?_
    refine r_icmp_eq (tgt := 62) dX3_passOne_54 (by decide) (fun c1 => ?_) (fun c1 => ?_)
    · skip
      refine r_aload_n dX3_passOne_62 2 rfl ?_
      refine r_iload_n dX3_passOne_63 0 rfl ?_
      refine r_callVv (nn := 1) (As := [.int (dCam dt nC w)]) (st := []) dX3_passOne_64 (tX3_letCamerasPass (ma (ma (ma dt 17 w (-1)) 18 w (dCam dt nC w)) 19 w (-1)) nF nC nE w hg (dwf_19 (dwf_c hd rfl rfl rfl rfl rfl rfl rfl rfl rfl)) (dCam dt nC w)) gX3_passOne_X3_letCamerasPass rfl (by decide +kernel) ⟨Nat.le_of_ble_eq_true rfl, Nat.le_of_ble_eq_true rfl⟩ ⟨rfl, rfl⟩ (dw_obj hg) rfl rfl (Nat.le_of_ble_eq_true rfl) ⟨Nat.le_of_ble_eq_true rfl, Nat.le_of_ble_eq_true rfl⟩ rfl (fun hh hp => ?_)
      subst hp
      refine r_iconst (v := 0) dX3_passOne_67 (by decide) ?_
      refine r_istore_n (lo' := [(3, .int 0), (2, .int (dCam dt nC w)), (1, .ref (a (20 + o))), (0, .ref (a 15))]) dX3_passOne_68 (by decide) rfl ?_
      refine r_lo (lo' := [(3, .int (nI 0)), (0, .ref (a 15))]) [0, 3] rfl ?_
      refine lX3_passOne_69 (dCams (ma (ma (ma dt 17 w (-1)) 18 w (dCam dt nC w)) 19 w (-1)) (dCam dt nC w) nC) nF nC nE w hg (dCams_wf (dwf_19 (dwf_c hd rfl rfl rfl rfl rfl rfl rfl rfl rfl))) hw ?_ (nF + 1) 0 (by omega) (Nat.zero_le _)
      refine r_aload_n dX3_passOne_100 1 rfl ?_
      refine r_dup dX3_passOne_101 rfl ?_
      refine r_get (C := RX3) (b := .int (nI w)) dX3_passOne_102 hinX3_passOne_3 (dw_obj hg) rfl 9 (by decide) fwX3_passOne_85 rfl (by show some (Value.int ((dBlo (dCams (ma (ma (ma dt 17 w (-1)) 18 w (dCam dt nC w)) 19 w (-1)) (dCam dt nC w) nC) nF) 1 0)) = _; rw [show (dBlo (dCams (ma (ma (ma dt 17 w (-1)) 18 w (dCam dt nC w)) 19 w (-1)) (dCam dt nC w) nC) nF) 1 0 = nI w from (dwf_w (dBlo_wf (dCams_wf (dwf_19 (dwf_c hd rfl rfl rfl rfl rfl rfl rfl rfl rfl)))))]) ?_
      refine r_iconst (v := 1) dX3_passOne_105 (by decide) ?_
      refine r_iadd dX3_passOne_106 ?_
      refine d_put hg hinX3_passOne_3 9 1 (by decide) dX3_passOne_107 fwX3_passOne_85 rfl rfl rfl ?_
      refine r_aload_n dX3_passOne_110 1 rfl ?_
      refine r_callVv (nn := 0) (As := []) (st := []) dX3_passOne_111 (tX3_letViewersSee (ms (dBlo (dCams (ma (ma (ma dt 17 w (-1)) 18 w (dCam dt nC w)) 19 w (-1)) (dCam dt nC w) nC) nF) 1 ((nI w) + 1)) nF nC nE hg) gX3_passOne_X3_letViewersSee rfl (by decide +kernel) ⟨Nat.le_of_ble_eq_true rfl, Nat.le_of_ble_eq_true rfl⟩ ⟨rfl, rfl⟩ (dw_obj hg) rfl rfl (Nat.le_of_ble_eq_true rfl) ⟨Nat.le_of_ble_eq_true rfl, Nat.le_of_ble_eq_true rfl⟩ rfl (fun hh hp => ?_)
      subst hp
      exact kret _ _ _ _ _ (Nat.le_refl _) (Nat.le_refl _) dX3_passOne_114 (by rw [dPass1_c hf c1, ← nI_1])
    · skip
      refine r_aload_n dX3_passOne_57 2 rfl ?_
      refine r_aload_n dX3_passOne_58 1 rfl ?_
      refine r_callVv (nn := 1) (As := [.ref (a (20 + o))]) (st := []) dX3_passOne_59 (tX3_showFight (ma (ma (ma dt 17 w (-1)) 18 w (dCam dt nC w)) 19 w (-1)) nF nC nE w hg (dwf_19 (dwf_c hd rfl rfl rfl rfl rfl rfl rfl rfl rfl)) o ho hw) gX3_passOne_X3_showFight rfl (by decide +kernel) ⟨Nat.le_of_ble_eq_true rfl, Nat.le_of_ble_eq_true rfl⟩ ⟨rfl, rfl⟩ (dw_obj hg) rfl rfl (Nat.le_of_ble_eq_true rfl) ⟨Nat.le_of_ble_eq_true rfl, Nat.le_of_ble_eq_true rfl⟩ rfl (fun hh hp => ?_)
      subst hp
      refine r_aload_n dX3_passOne_62 2 rfl ?_
      refine r_iload_n dX3_passOne_63 0 rfl ?_
      refine r_callVv (nn := 1) (As := [.int (dCam dt nC w)]) (st := []) dX3_passOne_64 (tX3_letCamerasPass (dShow (ma (ma (ma dt 17 w (-1)) 18 w (dCam dt nC w)) 19 w (-1)) w o) nF nC nE w hg (dShow_wf (dwf_19 (dwf_c hd rfl rfl rfl rfl rfl rfl rfl rfl rfl))) (dCam dt nC w)) gX3_passOne_X3_letCamerasPass rfl (by decide +kernel) ⟨Nat.le_of_ble_eq_true rfl, Nat.le_of_ble_eq_true rfl⟩ ⟨rfl, rfl⟩ (dw_obj hg) rfl rfl (Nat.le_of_ble_eq_true rfl) ⟨Nat.le_of_ble_eq_true rfl, Nat.le_of_ble_eq_true rfl⟩ rfl (fun hh hp => ?_)
      subst hp
      refine r_iconst (v := 0) dX3_passOne_67 (by decide) ?_
      refine r_istore_n (lo' := [(3, .int 0), (2, .int (dCam dt nC w)), (1, .ref (a (20 + o))), (0, .ref (a 15))]) dX3_passOne_68 (by decide) rfl ?_
      refine r_lo (lo' := [(3, .int (nI 0)), (0, .ref (a 15))]) [0, 3] rfl ?_
      refine lX3_passOne_69 (dCams (dShow (ma (ma (ma dt 17 w (-1)) 18 w (dCam dt nC w)) 19 w (-1)) w o) (dCam dt nC w) nC) nF nC nE w hg (dCams_wf (dShow_wf (dwf_19 (dwf_c hd rfl rfl rfl rfl rfl rfl rfl rfl rfl)))) hw ?_ (nF + 1) 0 (by omega) (Nat.zero_le _)
      refine r_aload_n dX3_passOne_100 1 rfl ?_
      refine r_dup dX3_passOne_101 rfl ?_
      refine r_get (C := RX3) (b := .int (nI w)) dX3_passOne_102 hinX3_passOne_3 (dw_obj hg) rfl 9 (by decide) fwX3_passOne_85 rfl (by show some (Value.int ((dBlo (dCams (dShow (ma (ma (ma dt 17 w (-1)) 18 w (dCam dt nC w)) 19 w (-1)) w o) (dCam dt nC w) nC) nF) 1 0)) = _; rw [show (dBlo (dCams (dShow (ma (ma (ma dt 17 w (-1)) 18 w (dCam dt nC w)) 19 w (-1)) w o) (dCam dt nC w) nC) nF) 1 0 = nI w from (dwf_w (dBlo_wf (dCams_wf (dShow_wf (dwf_19 (dwf_c hd rfl rfl rfl rfl rfl rfl rfl rfl rfl))))))]) ?_
      refine r_iconst (v := 1) dX3_passOne_105 (by decide) ?_
      refine r_iadd dX3_passOne_106 ?_
      refine d_put hg hinX3_passOne_3 9 1 (by decide) dX3_passOne_107 fwX3_passOne_85 rfl rfl rfl ?_
      refine r_aload_n dX3_passOne_110 1 rfl ?_
      refine r_callVv (nn := 0) (As := []) (st := []) dX3_passOne_111 (tX3_letViewersSee (ms (dBlo (dCams (dShow (ma (ma (ma dt 17 w (-1)) 18 w (dCam dt nC w)) 19 w (-1)) w o) (dCam dt nC w) nC) nF) 1 ((nI w) + 1)) nF nC nE hg) gX3_passOne_X3_letViewersSee rfl (by decide +kernel) ⟨Nat.le_of_ble_eq_true rfl, Nat.le_of_ble_eq_true rfl⟩ ⟨rfl, rfl⟩ (dw_obj hg) rfl rfl (Nat.le_of_ble_eq_true rfl) ⟨Nat.le_of_ble_eq_true rfl, Nat.le_of_ble_eq_true rfl⟩ rfl (fun hh hp => ?_)
      subst hp
      exact kret _ _ _ _ _ (Nat.le_refl _) (Nat.le_refl _) dX3_passOne_114 (by rw [dPass1_s hf c1, ← nI_1])

