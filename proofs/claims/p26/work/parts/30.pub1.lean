theorem vp_of {x : Int32} {n : Nat} (h1 : ¬ x < 0) (h2 : x < nI n) (hn : n < 2 ^ 31) : vp_in x n := by
  obtain ⟨j, hj, rfl⟩ := nat_of h1 h2 hn
  exact vp_in_nI hj hn
theorem dwf_9 {dt : kM} {nF nC nE w o : Nat} {v : Int32} (h : dwf dt nF nC nE w) (hv : v = -1 ∨ vp_in v 10) : dwf (ma dt 9 o v) nF nC nE w := by
  obtain ⟨hF, hF20, hC, hC6, hE, hE80, hW, hW3, hpl, hof, hsp⟩ := h
  refine ⟨hF, hF20, hC, hC6, hE, hE80, hW, hW3, fun k hk => ⟨(hpl k hk).1, (hpl k hk).2.1, ?_⟩, hof, hsp⟩
  by_cases c : k = o
  · subst c; rw [show ma dt 9 k v 9 k = v by simp [ma, upd]]; exact hv
  · rw [show ma dt 9 o v 9 k = dt 9 k by simp [ma, upd, c]]; exact (hpl k hk).2.2
theorem dUnc_19r (dt : kM) (o i k : Nat) : dUnc dt o i 19 k = -1 ∨ dUnc dt o i 19 k = dt 19 k := by
  induction i with
  | zero => exact Or.inr rfl
  | succ j ih =>
    rw [dUnc]
    split
    · split
      · exact ih
      · by_cases c : k = j
        · subst c; exact Or.inl (by simp [ma, upd])
        · rw [show ma (ma (dUnc dt o j) 33 (dt 19 j).toNatClampNeg (dUnc dt o j 33 (dt 19 j).toNatClampNeg - 1)) 19 j (-1) 19 k = dUnc dt o j 19 k by simp [ma, upd, c]]
          exact ih
    · exact ih
theorem dUnc_wf {dt : kM} {nF nC nE w o i : Nat} (h : dwf dt nF nC nE w) : dwf (dUnc dt o i) nF nC nE w := by
  have e : ∀ g, g ≠ 19 → g ≠ 33 → dUnc dt o i g = dt g := fun g h1 h2 => dUnc_g dt o i h1 h2
  unfold dwf at h ⊢
  rw [e 5 (by decide) (by decide), e 10 (by decide) (by decide), e 20 (by decide) (by decide), e 1 (by decide) (by decide), e 7 (by decide) (by decide), e 8 (by decide) (by decide), e 9 (by decide) (by decide), e 21 (by decide) (by decide)]
  obtain ⟨hF, hF20, hC, hC6, hE, hE80, hW, hW3, hpl, hof, hsp⟩ := h
  refine ⟨hF, hF20, hC, hC6, hE, hE80, hW, hW3, hpl, hof, fun k hk => ?_⟩
  rcases dUnc_19r dt o i k with z | z
  · exact Or.inl z
  · rw [z]; exact hsp k hk
theorem dwf_now {X : kM} {nF nC nE w : Nat} (h : dwf X nF nC nE w) (hw : w < 3000) (h19 : X 19 w = -1 ∨ vp_in (X 19 w) 6) : dwf (msee (ms X 1 (nI (w + 1)))) nF nC nE (w + 1) := by
  obtain ⟨hF, hF20, hC, hC6, hE, hE80, hW, hW3, hpl, hof, hsp⟩ := h
  refine ⟨hF, hF20, hC, hC6, hE, hE80, rfl, by omega, hpl, hof, fun k hk => ?_⟩
  show X 19 k = -1 ∨ vp_in (X 19 k) 6
  by_cases c : k = w
  · subst c; exact h19
  · exact hsp k (by omega)
theorem dPass1_wf {dt : kM} {nF nC nE w : Nat} (h : dwf dt nF nC nE w) (hw : w < 3000) : dwf (dPass1 dt nF nC w) nF nC nE (w + 1) := by
  have hs1 : ∀ cam, dwf (ma (ma (ma dt 17 w (-1)) 18 w cam) 19 w (-1)) nF nC nE w := fun cam => dwf_19 (dwf_c h rfl rfl rfl rfl rfl rfl rfl rfl rfl)
  have e1 : ∀ cam, (ma (ma (ma dt 17 w (-1)) 18 w cam) 19 w (-1)) 19 w = -1 := fun cam => by simp [ma, upd]
  have g19 : ∀ (s2 : kM) (cam : Int32), dBlo (dCams s2 cam nC) nF 19 = s2 19 := fun s2 cam => by rw [dBlo_g _ _ (by decide), dCams_g _ _ _ (by decide) (by decide)]
  rcases hf : (dHot dt w nF).1 with _ | o
  · rw [dPass1_n hf]
    exact dwf_now (dBlo_wf (dCams_wf (hs1 _))) hw (Or.inl (by rw [g19]; exact e1 _))
  · by_cases hc : dCam dt nC w = -1
    · rw [dPass1_c hf hc]
      exact dwf_now (dBlo_wf (dCams_wf (hs1 _))) hw (Or.inl (by rw [g19]; exact e1 _))
    · rw [dPass1_s hf hc]
      refine dwf_now (dBlo_wf (dCams_wf (dShow_wf (hs1 _)))) hw ?_
      rw [g19]
      generalize (ma (ma (ma dt 17 w (-1)) 18 w (dCam dt nC w)) 19 w (-1)) = s1
      unfold dShow
      try dsimp only
      split
      · rename_i q; exact Or.inl (by rw [q]; simp [ma, upd])
      · rename_i q
        refine Or.inr ?_
        have z := dSpo_vp q
        simp [ma, upd]
        exact z
theorem dPass_wf {dt : kM} {nF nC nE w : Nat} (h : dwf dt nF nC nE w) : ∀ i, w + i ≤ 3000 → dwf (dPass dt nF nC w i) nF nC nE (w + i)
  | 0, _ => h
  | i + 1, hi => dPass1_wf (dPass_wf h i (by omega)) (by omega)
/-- what the class's end and replay make of the state -/
def dEnd (dt : kM) (w o nE : Nat) : kM :=
  if dPts dt (nI w) o (dt 7 o) nE = dPts dt (nI w) o (dt 8 o) nE then ma dt 6 o 1
  else if dPts dt (nI w) o (dt 8 o) nE < dPts dt (nI w) o (dt 7 o) nE then ma (ma (ma dt 6 o 1) 9 o (dt 7 o)) 30 (dt 7 o).toNatClampNeg (dt 30 (dt 7 o).toNatClampNeg + 1)
  else ma (ma (ma dt 6 o 1) 9 o (dt 8 o)) 30 (dt 8 o).toNatClampNeg (dt 30 (dt 8 o).toNatClampNeg + 1)
def dRep1 (dt : kM) (o : Nat) : kM := if dt 9 o = -1 then dt else ma (ma dt 30 (dt 9 o).toNatClampNeg (dt 30 (dt 9 o).toNatClampNeg - 1)) 9 o (-1)
def dRep (dt : kM) (o nE w : Nat) : kM := dUnc (mf (ma (dRep1 dt o) 6 o 2) 25 (dStr (ma (dRep1 dt o) 6 o 2) o nE)) o w
theorem dRep1_wf {dt : kM} {nF nC nE w o : Nat} (h : dwf dt nF nC nE w) : dwf (dRep1 dt o) nF nC nE w := by
  unfold dRep1
  split
  · exact h
  · exact dwf_9 (dwf_c h rfl rfl rfl rfl rfl rfl rfl rfl rfl) (Or.inl rfl)
abbrev rmX3_begin : Room := { frames := 7, cells := 2, slots := 407, locals := 374 }
theorem hinX3_begin_2 : ∀ w ∈ u_ws RX2 TX2 7, w ∈ wsX3_begin := by decide +kernel
theorem hinX3_begin_3 : ∀ w ∈ u_ws RX3 TX3 15, w ∈ wsX3_begin := by decide +kernel
theorem fwX3_begin_19 : Cond.fieldLink RX3 19 "Castdesk" "fights" "Ljava/util/ArrayList;" ∈ wsX3_begin := by decide +kernel
set_option maxHeartbeats 4000000 in
set_option maxRecDepth 100000 in
theorem tX3_begin {E : kE} {a cap : Nat → Nat} {h0 : kH} (dt : kM)  (nF nC nE w : Nat) (hg : dgeo E a cap nF nC nE h0) (hd : dwf dt nF nC nE w) (hn : nF < 20) (x y : Int32) : kCi E yX3_begin wsX3_begin rmX3_begin 2 407 [.ref (a 15), .int x, .int y] (dw E a cap nF nC nE dt h0) (fun r h' => r = nI nF ∧ ∃ a' cap' : Nat → Nat, dgeo E a' cap' (nF + 1) nC nE h0 ∧ (∀ j, j ≠ 16 → j ≠ 20 + nF → a' j = a j) ∧ h' = dw E a' cap' (nF + 1) nC nE (dBeg dt nF x y) h0) := by
  obtain ⟨hF, hF20, hC, hC6, hE, hE80, hW, hW3, hpl, hof, hsp⟩ := id hd
  refine kCi_of (rt := .int) (own := RX3) (cc := cX3_begin) (maxL := 4) (by decide) rfl rfl (Nat.le_of_ble_eq_true rfl) ?_
  intro X hini kret
  refine r_lo (lo' := [(0, .ref (a 15)), (1, .int x), (2, .int y)]) [0, 1, 2] rfl ?_
  refine r_aload_n dX3_begin_0 0 rfl ?_
  refine r_get (C := RX3) (b := .ref (a 2)) dX3_begin_1 hinX3_begin_3 (dw_obj hg) rfl 2 (by decide) fwX3_begin_19 rfl rfl ?_
  refine r_callVi (nn := 0) (As := []) (st := []) dX3_begin_4 (tJx4a65c_size_8abf5 _ _ _ _ (dw_lstN hg (k := 2) (by decide) hF)) gX3_begin_Jx4a65c_size_8abf5 rfl (by decide +kernel) ⟨Nat.le_of_ble_eq_true rfl, Nat.le_of_ble_eq_true rfl⟩ ⟨rfl, rfl⟩ (dw_lstN hg (k := 2) (by decide) hF) rfl rfl (Nat.le_of_ble_eq_true rfl) ⟨Nat.le_of_ble_eq_true rfl, Nat.le_of_ble_eq_true rfl⟩ rfl (fun r hh hp => ?_)
  obtain ⟨rfl, rfl⟩ := hp
  refine r_istore_n (lo' := [(3, .int (nI nF)), (0, .ref (a 15)), (1, .int x), (2, .int y)]) dX3_begin_7 (by decide) rfl ?_
  refine r_aload_n dX3_begin_8 1 rfl ?_
  refine r_get (C := RX3) (b := .ref (a 2)) dX3_begin_9 hinX3_begin_3 (dw_obj hg) rfl 2 (by decide) fwX3_begin_19 rfl rfl ?_
  refine r_new (C := RX2) (T := TX2) (N := 7) (ci := 2) (fs := [.int 0, .int 0, .int 0, .int 0, .int 0, .int 0, .int 0]) dX3_begin_12 hinX3_begin_2 tyX2 tyX2_ok (by decide +kernel : Cond.classLink RX3 89 RX2 ∈ wsX3_begin) (by decide +kernel) (by decide +kernel) rfl (by decide +kernel) (Nat.le_of_ble_eq_true rfl) (Nat.le_of_ble_eq_true rfl) (fun q hq => ?_)
  refine r_dup dX3_begin_15 rfl ?_
  refine r_iload_n dX3_begin_16 0 rfl ?_
  refine r_iload_n dX3_begin_17 2 rfl ?_
  refine r_iload_n dX3_begin_18 3 rfl ?_
  refine r_callIv (nn := 3) (As := [.int (nI nF), .int x, .int y]) (st := [.ref q, .ref (a 2)]) dX3_begin_19 (tX2_init q (nI nF) x y (kup_s _ _ _)) gX3_begin_X2_init (by decide +kernel) (by decide +kernel) (by decide +kernel) rfl rfl (by decide +kernel) ⟨Nat.le_of_ble_eq_true rfl, Nat.le_of_ble_eq_true rfl⟩ ⟨rfl, rfl⟩ rfl (Nat.le_of_ble_eq_true rfl) ⟨Nat.le_of_ble_eq_true rfl, Nat.le_of_ble_eq_true rfl⟩ rfl (fun hh hp => ?_)
  rw [kup_kup] at hp
  subst hp
  have hne : a 2 ≠ q := fun z => by rw [← z, dw_lst hg (k := 2) (by decide)] at hq; cases hq
  refine r_callVi (nn := 1) (As := [.ref q]) (st := []) dX3_begin_22 (tadd_F dt nF nC nE w hg hd hn x y q hq) gX3_begin_Jx4a65c_add_9ea2d rfl (by decide +kernel) ⟨Nat.le_of_ble_eq_true rfl, Nat.le_of_ble_eq_true rfl⟩ ⟨rfl, rfl⟩ (by rw [kup_n _ _ hne]; exact dw_lstN hg (k := 2) (by decide) hF) rfl rfl (Nat.le_of_ble_eq_true rfl) ⟨Nat.le_of_ble_eq_true rfl, Nat.le_of_ble_eq_true rfl⟩ rfl (fun r hh hp => ?_)
  obtain ⟨rfl, a', cap', hg', hao, rfl⟩ := hp
  refine r_pop dX3_begin_25 rfl ?_
  refine r_iload_n dX3_begin_26 0 rfl ?_
  exact kret _ _ _ _ _ _ (Nat.le_of_ble_eq_true rfl) (Nat.le_of_ble_eq_true rfl) dX3_begin_27 rfl (⟨rfl, a', cap', hg', hao, rfl⟩)

abbrev rmX3_rank : Room := { frames := 7, cells := 4, slots := 24, locals := 112 }
theorem hinX3_rank_3 : ∀ w ∈ u_ws RX3 TX3 15, w ∈ wsX3_rank := by decide +kernel
theorem fwX3_rank_9 : Cond.fieldLink RX3 9 "Castdesk" "ranks" "[I" ∈ wsX3_rank := by decide +kernel
set_option maxHeartbeats 4000000 in
set_option maxRecDepth 100000 in
theorem tX3_rank {E : kE} {a cap : Nat → Nat} {h0 : kH} (dt : kM)  (nF nC nE w : Nat) (hg : dgeo E a cap nF nC nE h0) (hd : dwf dt nF nC nE w) (x y : Int32) : kXi E yX3_rank wsX3_rank rmX3_rank 4 24 [.ref (a 15), .int x, .int y] (dw E a cap nF nC nE dt h0) (fun Ec h' => ((Ec = kIO ∧ ¬ (¬ x < 0 ∧ x < 10)) ∨ (Ec = kIA ∧ (¬ x < 0 ∧ x < 10) ∧ ¬ (¬ y < 0 ∧ ¬ 99 < y))) ∧ h' = dw E a cap nF nC nE dt h0) (fun r h' => (¬ x < 0 ∧ x < 10) ∧ (¬ y < 0 ∧ ¬ 99 < y) ∧ r = dt 4 x.toNatClampNeg ∧ h' = dw E a cap nF nC nE (ma dt 4 x.toNatClampNeg y) h0) := by
  obtain ⟨hF, hF20, hC, hC6, hE, hE80, hW, hW3, hpl, hof, hsp⟩ := id hd
  refine kXi_of (rt := .int) (own := RX3) (cc := cX3_rank) (maxL := 4) (by decide) rfl rfl ⟨rfl, rfl⟩ (Nat.le_of_ble_eq_true rfl) ?_
  intro X kret kthr kout
  refine r_lo (lo' := [(0, .ref (a 15)), (1, .int x), (2, .int y)]) [0, 1, 2] rfl ?_
  refine r_iload_n dX3_rank_0 1 rfl ?_
  refine r_callXSv (nn := 1) (As := [.int x]) (st := []) dX3_rank_1 (tX3_checkPlayer x) gX3_rank_X3_checkPlayer rfl (by decide +kernel) ⟨Nat.le_of_ble_eq_true rfl, Nat.le_of_ble_eq_true rfl⟩ ⟨rfl, rfl⟩ rfl (Nat.le_of_ble_eq_true rfl) ⟨Nat.le_of_ble_eq_true rfl, Nat.le_of_ble_eq_true rfl⟩ rfl (fun Ec hh hp => kout _ _ _ _ _ _ (Nat.le_of_ble_eq_true rfl) (Nat.le_of_ble_eq_true rfl) (⟨Or.inl (⟨hp.1.1, hp.1.2⟩), hp.2⟩)) (fun hh hp => ?_)
  obtain ⟨g1, rfl⟩ := hp
  refine r_iload_n dX3_rank_4 2 rfl ?_
  refine r_iconst (v := 0) dX3_rank_5 (by decide) ?_
  refine r_bipush (v := 99) dX3_rank_6 (by decide) ?_
  refine r_callXSv (nn := 3) (As := [.int y, .int 0, .int 99]) (st := []) dX3_rank_8 (tX3_checkRange y 0 99) gX3_rank_X3_checkRange rfl (by decide +kernel) ⟨Nat.le_of_ble_eq_true rfl, Nat.le_of_ble_eq_true rfl⟩ ⟨rfl, rfl⟩ rfl (Nat.le_of_ble_eq_true rfl) ⟨Nat.le_of_ble_eq_true rfl, Nat.le_of_ble_eq_true rfl⟩ rfl (fun Ec hh hp => kout _ _ _ _ _ _ (Nat.le_of_ble_eq_true rfl) (Nat.le_of_ble_eq_true rfl) (⟨Or.inr ((⟨hp.1.1, g1, hp.1.2⟩)), hp.2⟩)) (fun hh hp => ?_)
  obtain ⟨g2, rfl⟩ := hp
  refine r_aload_n dX3_rank_11 0 rfl ?_
  refine r_get (C := RX3) (b := .ref (a 0)) dX3_rank_12 hinX3_rank_3 (dw_obj hg) rfl 0 (by decide) fwX3_rank_9 rfl rfl ?_
  refine r_iload_n dX3_rank_15 1 rfl ?_
  refine d_aldx (v := dt 4 x.toNatClampNeg) hg 0 4 (by decide) rfl dX3_rank_16 (vp_of (n := 10) g1.1 g1.2 (by decide)) rfl ?_
  refine r_istore_n (lo' := [(3, .int (dt 4 x.toNatClampNeg)), (0, .ref (a 15)), (1, .int x), (2, .int y)]) dX3_rank_17 (by decide) rfl ?_
  refine r_aload_n dX3_rank_18 1 rfl ?_
  refine r_get (C := RX3) (b := .ref (a 0)) dX3_rank_19 hinX3_rank_3 (dw_obj hg) rfl 0 (by decide) fwX3_rank_9 rfl rfl ?_
  refine r_iload_n dX3_rank_22 2 rfl ?_
  refine r_iload_n dX3_rank_23 3 rfl ?_
  refine d_astx hg 0 4 (by decide) rfl dX3_rank_24 (vp_of (n := 10) g1.1 g1.2 (by decide)) ?_
  refine r_iload_n dX3_rank_25 0 rfl ?_
  exact kret _ _ _ _ _ _ (Nat.le_of_ble_eq_true rfl) (Nat.le_of_ble_eq_true rfl) dX3_rank_26 rfl (⟨g1, g2, rfl, rfl⟩)

abbrev rmX3_promise : Room := { frames := 7, cells := 4, slots := 24, locals := 112 }
theorem hinX3_promise_3 : ∀ w ∈ u_ws RX3 TX3 15, w ∈ wsX3_promise := by decide +kernel
theorem fwX3_promise_29 : Cond.fieldLink RX3 29 "Castdesk" "promised" "[I" ∈ wsX3_promise := by decide +kernel
set_option maxHeartbeats 4000000 in
set_option maxRecDepth 100000 in
theorem tX3_promise {E : kE} {a cap : Nat → Nat} {h0 : kH} (dt : kM)  (nF nC nE w : Nat) (hg : dgeo E a cap nF nC nE h0) (hd : dwf dt nF nC nE w) (x y : Int32) : kXi E yX3_promise wsX3_promise rmX3_promise 4 24 [.ref (a 15), .int x, .int y] (dw E a cap nF nC nE dt h0) (fun Ec h' => ((Ec = kIO ∧ ¬ (¬ x < 0 ∧ x < 6)) ∨ (Ec = kIA ∧ (¬ x < 0 ∧ x < 6) ∧ ¬ (¬ y < 0 ∧ ¬ 1000 < y))) ∧ h' = dw E a cap nF nC nE dt h0) (fun r h' => (¬ x < 0 ∧ x < 6) ∧ (¬ y < 0 ∧ ¬ 1000 < y) ∧ r = dt 26 x.toNatClampNeg ∧ h' = dw E a cap nF nC nE (ma dt 26 x.toNatClampNeg y) h0) := by
  obtain ⟨hF, hF20, hC, hC6, hE, hE80, hW, hW3, hpl, hof, hsp⟩ := id hd
  refine kXi_of (rt := .int) (own := RX3) (cc := cX3_promise) (maxL := 4) (by decide) rfl rfl ⟨rfl, rfl⟩ (Nat.le_of_ble_eq_true rfl) ?_
  intro X kret kthr kout
  refine r_lo (lo' := [(0, .ref (a 15)), (1, .int x), (2, .int y)]) [0, 1, 2] rfl ?_
  refine r_iload_n dX3_promise_0 1 rfl ?_
  refine r_callXSv (nn := 1) (As := [.int x]) (st := []) dX3_promise_1 (tX3_checkSponsor x) gX3_promise_X3_checkSponsor rfl (by decide +kernel) ⟨Nat.le_of_ble_eq_true rfl, Nat.le_of_ble_eq_true rfl⟩ ⟨rfl, rfl⟩ rfl (Nat.le_of_ble_eq_true rfl) ⟨Nat.le_of_ble_eq_true rfl, Nat.le_of_ble_eq_true rfl⟩ rfl (fun Ec hh hp => kout _ _ _ _ _ _ (Nat.le_of_ble_eq_true rfl) (Nat.le_of_ble_eq_true rfl) (⟨Or.inl (⟨hp.1.1, hp.1.2⟩), hp.2⟩)) (fun hh hp => ?_)
  obtain ⟨g1, rfl⟩ := hp
  refine r_iload_n dX3_promise_4 2 rfl ?_
  refine r_iconst (v := 0) dX3_promise_5 (by decide) ?_
  refine r_sipush (v := 1000) dX3_promise_6 (by decide) ?_
  refine r_callXSv (nn := 3) (As := [.int y, .int 0, .int 1000]) (st := []) dX3_promise_9 (tX3_checkRange y 0 1000) gX3_promise_X3_checkRange rfl (by decide +kernel) ⟨Nat.le_of_ble_eq_true rfl, Nat.le_of_ble_eq_true rfl⟩ ⟨rfl, rfl⟩ rfl (Nat.le_of_ble_eq_true rfl) ⟨Nat.le_of_ble_eq_true rfl, Nat.le_of_ble_eq_true rfl⟩ rfl (fun Ec hh hp => kout _ _ _ _ _ _ (Nat.le_of_ble_eq_true rfl) (Nat.le_of_ble_eq_true rfl) (⟨Or.inr ((⟨hp.1.1, g1, hp.1.2⟩)), hp.2⟩)) (fun hh hp => ?_)
  obtain ⟨g2, rfl⟩ := hp
  refine r_aload_n dX3_promise_12 0 rfl ?_
  refine r_get (C := RX3) (b := .ref (a 5)) dX3_promise_13 hinX3_promise_3 (dw_obj hg) rfl 5 (by decide) fwX3_promise_29 rfl rfl ?_
  refine r_iload_n dX3_promise_16 1 rfl ?_
  refine d_aldx (v := dt 26 x.toNatClampNeg) hg 5 26 (by decide) rfl dX3_promise_17 (vp_of (n := 6) g1.1 g1.2 (by decide)) rfl ?_
  refine r_istore_n (lo' := [(3, .int (dt 26 x.toNatClampNeg)), (0, .ref (a 15)), (1, .int x), (2, .int y)]) dX3_promise_18 (by decide) rfl ?_
  refine r_aload_n dX3_promise_19 1 rfl ?_
  refine r_get (C := RX3) (b := .ref (a 5)) dX3_promise_20 hinX3_promise_3 (dw_obj hg) rfl 5 (by decide) fwX3_promise_29 rfl rfl ?_
  refine r_iload_n dX3_promise_23 2 rfl ?_
  refine r_iload_n dX3_promise_24 3 rfl ?_
  refine d_astx hg 5 26 (by decide) rfl dX3_promise_25 (vp_of (n := 6) g1.1 g1.2 (by decide)) ?_
  refine r_iload_n dX3_promise_26 0 rfl ?_
  exact kret _ _ _ _ _ _ (Nat.le_of_ble_eq_true rfl) (Nat.le_of_ble_eq_true rfl) dX3_promise_27 rfl (⟨g1, g2, rfl, rfl⟩)

abbrev rmX3_delay : Room := { frames := 7, cells := 4, slots := 24, locals := 112 }
theorem hinX3_delay_3 : ∀ w ∈ u_ws RX3 TX3 15, w ∈ wsX3_delay := by decide +kernel
theorem fwX3_delay_38 : Cond.fieldLink RX3 38 "Castdesk" "delayFrames" "I" ∈ wsX3_delay := by decide +kernel
set_option maxHeartbeats 4000000 in
set_option maxRecDepth 100000 in
theorem tX3_delay {E : kE} {a cap : Nat → Nat} {h0 : kH} (dt : kM)  (nF nC nE w : Nat) (hg : dgeo E a cap nF nC nE h0) (hd : dwf dt nF nC nE w) (x : Int32) : kXi E yX3_delay wsX3_delay rmX3_delay 4 24 [.ref (a 15), .int x] (dw E a cap nF nC nE dt h0) (fun Ec h' => ((Ec = kIA ∧ ¬ (¬ x < 0 ∧ ¬ 100 < x))) ∧ h' = dw E a cap nF nC nE dt h0) (fun r h' => (¬ x < 0 ∧ ¬ 100 < x) ∧ r = dt 2 0 ∧ h' = dw E a cap nF nC nE (msee (ms dt 2 x)) h0) := by
  obtain ⟨hF, hF20, hC, hC6, hE, hE80, hW, hW3, hpl, hof, hsp⟩ := id hd
  refine kXi_of (rt := .int) (own := RX3) (cc := cX3_delay) (maxL := 3) (by decide) rfl rfl ⟨rfl, rfl⟩ (Nat.le_of_ble_eq_true rfl) ?_
  intro X kret kthr kout
  refine r_lo (lo' := [(0, .ref (a 15)), (1, .int x)]) [0, 1] rfl ?_
  refine r_iload_n dX3_delay_0 1 rfl ?_
  refine r_iconst (v := 0) dX3_delay_1 (by decide) ?_
  refine r_bipush (v := 100) dX3_delay_2 (by decide) ?_
  refine r_callXSv (nn := 3) (As := [.int x, .int 0, .int 100]) (st := []) dX3_delay_4 (tX3_checkRange x 0 100) gX3_delay_X3_checkRange rfl (by decide +kernel) ⟨Nat.le_of_ble_eq_true rfl, Nat.le_of_ble_eq_true rfl⟩ ⟨rfl, rfl⟩ rfl (Nat.le_of_ble_eq_true rfl) ⟨Nat.le_of_ble_eq_true rfl, Nat.le_of_ble_eq_true rfl⟩ rfl (fun Ec hh hp => kout _ _ _ _ _ _ (Nat.le_of_ble_eq_true rfl) (Nat.le_of_ble_eq_true rfl) (⟨⟨hp.1.1, hp.1.2⟩, hp.2⟩)) (fun hh hp => ?_)
  obtain ⟨g1, rfl⟩ := hp
  refine r_aload_n dX3_delay_7 0 rfl ?_
  refine r_get (C := RX3) (b := .int (dt 2 0)) dX3_delay_8 hinX3_delay_3 (dw_obj hg) rfl 10 (by decide) fwX3_delay_38 rfl rfl ?_
  refine r_istore_n (lo' := [(2, .int (dt 2 0)), (0, .ref (a 15)), (1, .int x)]) dX3_delay_11 (by decide) rfl ?_
  refine r_aload_n dX3_delay_12 1 rfl ?_
  refine r_iload_n dX3_delay_13 2 rfl ?_
  refine d_put hg hinX3_delay_3 10 2 (by decide) dX3_delay_14 fwX3_delay_38 rfl rfl rfl ?_
  refine r_aload_n dX3_delay_17 1 rfl ?_
  refine r_callVv (nn := 0) (As := []) (st := []) dX3_delay_18 (tX3_letViewersSee (ms dt 2 x) nF nC nE hg) gX3_delay_X3_letViewersSee rfl (by decide +kernel) ⟨Nat.le_of_ble_eq_true rfl, Nat.le_of_ble_eq_true rfl⟩ ⟨rfl, rfl⟩ (dw_obj hg) rfl rfl (Nat.le_of_ble_eq_true rfl) ⟨Nat.le_of_ble_eq_true rfl, Nat.le_of_ble_eq_true rfl⟩ rfl (fun hh hp => ?_)
  subst hp
  refine r_iload_n dX3_delay_21 0 rfl ?_
  exact kret _ _ _ _ _ _ (Nat.le_of_ble_eq_true rfl) (Nat.le_of_ble_eq_true rfl) dX3_delay_22 rfl (⟨g1, rfl, rfl⟩)

abbrev rmX3_frame : Room := { frames := 0, cells := 0, slots := 0, locals := 0 }
theorem hinX3_frame_3 : ∀ w ∈ u_ws RX3 TX3 15, w ∈ wsX3_frame := by decide +kernel
theorem fwX3_frame_85 : Cond.fieldLink RX3 85 "Castdesk" "now" "I" ∈ wsX3_frame := by decide +kernel
set_option maxHeartbeats 4000000 in
set_option maxRecDepth 100000 in
theorem tX3_frame {E : kE} {a cap : Nat → Nat} {h0 : kH} (dt : kM)  (nF nC nE : Nat) (hg : dgeo E a cap nF nC nE h0) : kCi E yX3_frame wsX3_frame rmX3_frame 0 0 [.ref (a 15)] (dw E a cap nF nC nE dt h0) (fun r h' => r = dt 1 0 ∧ h' = dw E a cap nF nC nE dt h0) := by
  refine kCi_of (rt := .int) (own := RX3) (cc := cX3_frame) (maxL := 1) (by decide) rfl rfl (Nat.le_of_ble_eq_true rfl) ?_
  intro X hini kret
  refine r_lo (lo' := [(0, .ref (a 15))]) [0] rfl ?_
  refine r_aload_n dX3_frame_0 0 rfl ?_
  refine r_get (C := RX3) (b := .int (dt 1 0)) dX3_frame_1 hinX3_frame_3 (dw_obj hg) rfl 9 (by decide) fwX3_frame_85 rfl rfl ?_
  exact kret _ _ _ _ _ _ (Nat.le_refl _) (Nat.le_refl _) dX3_frame_4 rfl (⟨rfl, rfl⟩)

abbrev rmX3_seen : Room := { frames := 0, cells := 0, slots := 0, locals := 0 }
theorem hinX3_seen_3 : ∀ w ∈ u_ws RX3 TX3 15, w ∈ wsX3_seen := by decide +kernel
theorem fwX3_seen_42 : Cond.fieldLink RX3 42 "Castdesk" "seenUpTo" "I" ∈ wsX3_seen := by decide +kernel
set_option maxHeartbeats 4000000 in
set_option maxRecDepth 100000 in
theorem tX3_seen {E : kE} {a cap : Nat → Nat} {h0 : kH} (dt : kM)  (nF nC nE : Nat) (hg : dgeo E a cap nF nC nE h0) : kCi E yX3_seen wsX3_seen rmX3_seen 0 0 [.ref (a 15)] (dw E a cap nF nC nE dt h0) (fun r h' => r = dt 3 0 ∧ h' = dw E a cap nF nC nE dt h0) := by
  refine kCi_of (rt := .int) (own := RX3) (cc := cX3_seen) (maxL := 1) (by decide) rfl rfl (Nat.le_of_ble_eq_true rfl) ?_
  intro X hini kret
  refine r_lo (lo' := [(0, .ref (a 15))]) [0] rfl ?_
  refine r_aload_n dX3_seen_0 0 rfl ?_
  refine r_get (C := RX3) (b := .int (dt 3 0)) dX3_seen_1 hinX3_seen_3 (dw_obj hg) rfl 11 (by decide) fwX3_seen_42 rfl rfl ?_
  exact kret _ _ _ _ _ _ (Nat.le_refl _) (Nat.le_refl _) dX3_seen_4 rfl (⟨rfl, rfl⟩)

abbrev rmX3_counted : Room := { frames := 7, cells := 1, slots := 6, locals := 110 }
theorem hinX3_counted_3 : ∀ w ∈ u_ws RX3 TX3 15, w ∈ wsX3_counted := by decide +kernel
theorem fwX3_counted_32 : Cond.fieldLink RX3 32 "Castdesk" "countedFrames" "[I" ∈ wsX3_counted := by decide +kernel
set_option maxHeartbeats 4000000 in
set_option maxRecDepth 100000 in
theorem tX3_counted {E : kE} {a cap : Nat → Nat} {h0 : kH} (dt : kM)  (nF nC nE w : Nat) (hg : dgeo E a cap nF nC nE h0) (hd : dwf dt nF nC nE w) (x : Int32) : kXi E yX3_counted wsX3_counted rmX3_counted 1 6 [.ref (a 15), .int x] (dw E a cap nF nC nE dt h0) (fun Ec h' => ((Ec = kIO ∧ ¬ (¬ x < 0 ∧ x < 6))) ∧ h' = dw E a cap nF nC nE dt h0) (fun r h' => (¬ x < 0 ∧ x < 6) ∧ r = dt 33 x.toNatClampNeg ∧ h' = dw E a cap nF nC nE dt h0) := by
  obtain ⟨hF, hF20, hC, hC6, hE, hE80, hW, hW3, hpl, hof, hsp⟩ := id hd
  refine kXi_of (rt := .int) (own := RX3) (cc := cX3_counted) (maxL := 2) (by decide) rfl rfl ⟨rfl, rfl⟩ (Nat.le_of_ble_eq_true rfl) ?_
  intro X kret kthr kout
  refine r_lo (lo' := [(0, .ref (a 15)), (1, .int x)]) [0, 1] rfl ?_
  refine r_iload_n dX3_counted_0 1 rfl ?_
  refine r_callXSv (nn := 1) (As := [.int x]) (st := []) dX3_counted_1 (tX3_checkSponsor x) gX3_counted_X3_checkSponsor rfl (by decide +kernel) ⟨Nat.le_of_ble_eq_true rfl, Nat.le_of_ble_eq_true rfl⟩ ⟨rfl, rfl⟩ rfl (Nat.le_of_ble_eq_true rfl) ⟨Nat.le_of_ble_eq_true rfl, Nat.le_of_ble_eq_true rfl⟩ rfl (fun Ec hh hp => kout _ _ _ _ _ _ (Nat.le_of_ble_eq_true rfl) (Nat.le_of_ble_eq_true rfl) (⟨⟨hp.1.1, hp.1.2⟩, hp.2⟩)) (fun hh hp => ?_)
  obtain ⟨g1, rfl⟩ := hp
  refine r_aload_n dX3_counted_4 0 rfl ?_
  refine r_get (C := RX3) (b := .ref (a 6)) dX3_counted_5 hinX3_counted_3 (dw_obj hg) rfl 6 (by decide) fwX3_counted_32 rfl rfl ?_
  refine r_iload_n dX3_counted_8 1 rfl ?_
  refine d_aldx (v := dt 33 x.toNatClampNeg) hg 6 33 (by decide) rfl dX3_counted_9 (vp_of (n := 6) g1.1 g1.2 (by decide)) rfl ?_
  exact kret _ _ _ _ _ _ (Nat.le_of_ble_eq_true rfl) (Nat.le_of_ble_eq_true rfl) dX3_counted_10 rfl (⟨g1, rfl, rfl⟩)

abbrev rmX3_owed : Room := { frames := 7, cells := 1, slots := 6, locals := 110 }
set_option maxHeartbeats 4000000 in
set_option maxRecDepth 100000 in
theorem tX3_owed {E : kE} {a cap : Nat → Nat} {h0 : kH} (dt : kM)  (nF nC nE w : Nat) (hg : dgeo E a cap nF nC nE h0) (hd : dwf dt nF nC nE w) (x : Int32) : kXi E yX3_owed wsX3_owed rmX3_owed 1 6 [.ref (a 15), .int x] (dw E a cap nF nC nE dt h0) (fun Ec h' => ((Ec = kIO ∧ ¬ (¬ x < 0 ∧ x < 6))) ∧ h' = dw E a cap nF nC nE dt h0) (fun r h' => (¬ x < 0 ∧ x < 6) ∧ (∃ j, j < 6 ∧ x = nI j ∧ r = dOwe dt j) ∧ h' = dw E a cap nF nC nE dt h0) := by
  obtain ⟨hF, hF20, hC, hC6, hE, hE80, hW, hW3, hpl, hof, hsp⟩ := id hd
  refine kXi_of (rt := .int) (own := RX3) (cc := cX3_owed) (maxL := 2) (by decide) rfl rfl ⟨rfl, rfl⟩ (Nat.le_of_ble_eq_true rfl) ?_
  intro X kret kthr kout
  refine r_lo (lo' := [(0, .ref (a 15)), (1, .int x)]) [0, 1] rfl ?_
  refine r_iload_n dX3_owed_0 1 rfl ?_
  refine r_callXSv (nn := 1) (As := [.int x]) (st := []) dX3_owed_1 (tX3_checkSponsor x) gX3_owed_X3_checkSponsor rfl (by decide +kernel) ⟨Nat.le_of_ble_eq_true rfl, Nat.le_of_ble_eq_true rfl⟩ ⟨rfl, rfl⟩ rfl (Nat.le_of_ble_eq_true rfl) ⟨Nat.le_of_ble_eq_true rfl, Nat.le_of_ble_eq_true rfl⟩ rfl (fun Ec hh hp => kout _ _ _ _ _ _ (Nat.le_of_ble_eq_true rfl) (Nat.le_of_ble_eq_true rfl) (⟨⟨hp.1.1, hp.1.2⟩, hp.2⟩)) (fun hh hp => ?_)
  obtain ⟨g1, rfl⟩ := hp
  obtain ⟨j, hj, hxj⟩ := nat_of (n := 6) g1.1 g1.2 (by decide)
  subst hxj
  refine r_aload_n dX3_owed_4 0 rfl ?_
  refine r_iload_n dX3_owed_5 1 rfl ?_
  refine r_callVi (nn := 1) (As := [.int (nI j)]) (st := []) dX3_owed_6 (tX3_owedTo dt nF nC nE w hg hd j (by omega)) gX3_owed_X3_owedTo rfl (by decide +kernel) ⟨Nat.le_of_ble_eq_true rfl, Nat.le_of_ble_eq_true rfl⟩ ⟨rfl, rfl⟩ (dw_obj hg) rfl rfl (Nat.le_of_ble_eq_true rfl) ⟨Nat.le_of_ble_eq_true rfl, Nat.le_of_ble_eq_true rfl⟩ rfl (fun r hh hp => ?_)
  obtain ⟨rfl, rfl⟩ := hp
  exact kret _ _ _ _ _ _ (Nat.le_of_ble_eq_true rfl) (Nat.le_of_ble_eq_true rfl) dX3_owed_9 rfl (⟨g1, ⟨j, hj, rfl, rfl⟩, rfl⟩)

