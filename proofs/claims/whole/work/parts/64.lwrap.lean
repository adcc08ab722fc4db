/-! the law's wrappers, by the simulation -/
def LPost (E : kE) (a : Nat → Nat) (h0 : kH) (po : Nat) (m : Int32 × kM) (r : Int32) (h' : kH) : Prop := ∃ (a' cap' : Nat → Nat) (nF' nC' nE' w' : Nat) (dt' : kM), a' 15 = a 15 ∧ dgeo E a' cap' nF' nC' nE' h0 ∧ dR m.2 dt' nF' nC' nE' w' ∧ r = m.2 0 0 ∧ ((¬ r = 0 ∧ h' = dw E a' cap' nF' nC' nE' dt' h0) ∨ (r = 0 ∧ ∃ f : Nat → Int64, f 0 = m.1.toInt64 ∧ h' = dw E a' cap' nF' nC' nE' dt' (kup h0 po (.inl (kJ E, 1, .inr (.inl f))))))
section LP
variable {E : kE} {a a' cap cap' : Nat → Nat} {h0 : kH} {st dt dt' : kM} {nF nC nE w nF' nC' nE' w' : Nat} {po : Nat} {f : Nat → Int64} {m : Int32 × kM} {r c : Int32}
theorem LX (hg : dgeo E a cap nF nC nE h0) (R : dR st dt nF nC nE w) (hm : m.2 = ms st 0 c) (hc : ¬ c = 0) : LPost E a h0 po m c (dw E a cap nF nC nE dt h0) := ⟨a, cap, nF, nC, nE, w, dt, rfl, hg, by rw [hm]; exact dR_0 R c, by rw [hm]; rfl, Or.inl ⟨hc, rfl⟩⟩
theorem LK (ha : a' 15 = a 15) (hg : dgeo E a' cap' nF' nC' nE' h0) (K : m.2 0 0 = 0 ∧ r = m.1 ∧ dR m.2 dt' nF' nC' nE' w') : LPost E a h0 po m 0 (dw E a' cap' nF' nC' nE' dt' (kup h0 po (.inl (kJ E, 1, .inr (.inl (vp_updL f (0 : Int32).toNatClampNeg r.toInt64)))))) := ⟨a', cap', nF', nC', nE', w', dt', ha, hg, K.2.2, K.1.symm, Or.inr ⟨rfl, _, by rw [K.2.1]; rfl, rfl⟩⟩
theorem LK0 (hg : dgeo E a cap nF nC nE h0) (R : dR st dt nF nC nE w) (K : m.2 = ms st 0 0 ∧ r = m.1) : LPost E a h0 po m 0 (dw E a cap nF nC nE dt (kup h0 po (.inl (kJ E, 1, .inr (.inl (vp_updL f (0 : Int32).toNatClampNeg r.toInt64)))))) := LK rfl hg ⟨by rw [K.1]; rfl, K.2, by rw [K.1]; exact dR_0 R 0⟩
end LP
abbrev rmL_rank : Room := { frames := 8, cells := 12, slots := 500, locals := 135 }
theorem clL_rank_13 : Cond.classLink RL 13 "java/lang/IndexOutOfBoundsException" ∈ wsL_rank := by decide +kernel
theorem clL_rank_15 : Cond.classLink RL 15 "java/lang/IllegalArgumentException" ∈ wsL_rank := by decide +kernel
set_option maxHeartbeats 4000000 in
set_option maxRecDepth 100000 in
theorem tL_rank {E : kE} {a cap : Nat → Nat} {h0 : kH} {st dt : kM} {nF nC nE w : Nat} (hg : dgeo E a cap nF nC nE h0) (R : dR st dt nF nC nE w) {po : Nat} {f : Nat → Int64} (hpo : h0 po = some (.inl (kJ E, 1, .inr (.inl f)))) (x y : Int32) : kXi E yL_rank wsL_rank rmL_rank 12 500 [.ref (a 15), .int x, .int y, .ref po] (dw E a cap nF nC nE dt h0) (fun _ _ => False) (LPost E a h0 po (mrank st x y)) := by
  have hpn : h0 po ≠ none := by rw [hpo]; simp
  refine kXi_ofH (rt := .int) (own := RL) (cc := cL_rank) (maxL := 5) (hh := [(0, 10, 13, 13), (0, 10, 17, 15)]) (by decide) rfl rfl (Nat.le_of_ble_eq_true rfl) ?_
  intro X htb kret
  refine r_lo (lo' := [(0, .ref (a 15)), (1, .int x), (2, .int y), (3, .ref po)]) [0, 1, 2, 3] rfl ?_
  refine r_aload_n dL_rank_0 3 rfl ?_
  refine r_iconst (v := 0) dL_rank_1 (by decide) ?_
  refine r_aload_n dL_rank_2 0 rfl ?_
  refine r_iload_n dL_rank_3 1 rfl ?_
  refine r_iload_n dL_rank_4 2 rfl ?_
  refine r_callXVi (nn := 2) (As := [.int x, .int y]) (st := [.int 0, .ref po]) dL_rank_5 (tX3_rank dt nF nC nE w hg R.dv x y) gL_rank_X3_rank rfl (by decide +kernel) ⟨Nat.le_of_ble_eq_true rfl, Nat.le_of_ble_eq_true rfl⟩ ⟨rfl, rfl⟩ (dw_obj hg) rfl rfl (Nat.le_of_ble_eq_true rfl) ⟨Nat.le_of_ble_eq_true rfl, Nat.le_of_ble_eq_true rfl⟩ rfl (fun Ec hh hp => ?_) (fun r hh hp => ?_)
  · obtain ⟨hp, rfl⟩ := hp
    rcases sx_rank R hp with ⟨rfl, hm⟩ | ⟨rfl, hm⟩
    · refine rx_catch (tgt := 13) (tableOf []) ⟨0, 10, 13, 13⟩ (tableOf [(0, 10, 17, 15)]) htb (fun z hz => absurd hz List.not_mem_nil) rfl (by decide) clL_rank_13 (by decide +kernel) rfl (fun q => ?_)
      refine r_astore (lo' := [(4, .ref q), (0, .ref (a 15)), (1, .int x), (2, .int y), (3, .ref po)]) dL_rank_13 (by decide) rfl ?_
      refine r_iconst (v := 1) dL_rank_15 (by decide) ?_
      exact kret _ _ _ _ _ _ (Nat.le_of_ble_eq_true rfl) (Nat.le_of_ble_eq_true rfl) dL_rank_16 rfl (LX hg R hm (by decide))
    · refine rx_catch (tgt := 17) (tableOf [(0, 10, 13, 13)]) ⟨0, 10, 17, 15⟩ (tableOf []) htb (fun z hz => by revert z; exact List.forall_mem_cons.mpr ⟨⟨by decide, kIO, clL_rank_13, by decide +kernel⟩, fun z hz => absurd hz List.not_mem_nil⟩) rfl (by decide) clL_rank_15 (by decide +kernel) rfl (fun q => ?_)
      refine r_astore (lo' := [(4, .ref q), (0, .ref (a 15)), (1, .int x), (2, .int y), (3, .ref po)]) dL_rank_17 (by decide) rfl ?_
      refine r_iconst (v := 2) dL_rank_19 (by decide) ?_
      exact kret _ _ _ _ _ _ (Nat.le_of_ble_eq_true rfl) (Nat.le_of_ble_eq_true rfl) dL_rank_20 rfl (LX hg R hm (by decide))
  · obtain ⟨g1, g2, rfl, rfl⟩ := hp
    refine r_i2l dL_rank_8 ?_
    refine r_last dL_rank_9 (dw_at hg hpo) (vp_in_nI (by decide) (by decide)) ?_
    rw [dw_kup hg hpn]
    refine r_goto (tgt := 21) dL_rank_10 (by decide) ?_
    refine r_iconst (v := 0) dL_rank_21 (by decide) ?_
    exact kret _ _ _ _ _ _ (Nat.le_of_ble_eq_true rfl) (Nat.le_of_ble_eq_true rfl) dL_rank_22 rfl (LK rfl hg (sk_rank R g1 g2))
abbrev rmL_fight : Room := { frames := 9, cells := 12, slots := 500, locals := 419 }
theorem clL_fight_13 : Cond.classLink RL 13 "java/lang/IndexOutOfBoundsException" ∈ wsL_fight := by decide +kernel
theorem clL_fight_15 : Cond.classLink RL 15 "java/lang/IllegalArgumentException" ∈ wsL_fight := by decide +kernel
theorem clL_fight_20 : Cond.classLink RL 20 "java/lang/IllegalStateException" ∈ wsL_fight := by decide +kernel
set_option maxHeartbeats 4000000 in
set_option maxRecDepth 100000 in
theorem tL_fight {E : kE} {a cap : Nat → Nat} {h0 : kH} {st dt : kM} {nF nC nE w : Nat} (hg : dgeo E a cap nF nC nE h0) (R : dR st dt nF nC nE w) {po : Nat} {f : Nat → Int64} (hpo : h0 po = some (.inl (kJ E, 1, .inr (.inl f)))) (x y : Int32) : kXi E yL_fight wsL_fight rmL_fight 12 500 [.ref (a 15), .int x, .int y, .ref po] (dw E a cap nF nC nE dt h0) (fun _ _ => False) (LPost E a h0 po (mfight st nF x y)) := by
  have hpn : h0 po ≠ none := by rw [hpo]; simp
  refine kXi_ofH (rt := .int) (own := RL) (cc := cL_fight) (maxL := 5) (hh := [(0, 10, 13, 13), (0, 10, 17, 15), (0, 10, 21, 20)]) (by decide) rfl rfl (Nat.le_of_ble_eq_true rfl) ?_
  intro X htb kret
  refine r_lo (lo' := [(0, .ref (a 15)), (1, .int x), (2, .int y), (3, .ref po)]) [0, 1, 2, 3] rfl ?_
  refine r_aload_n dL_fight_0 3 rfl ?_
  refine r_iconst (v := 0) dL_fight_1 (by decide) ?_
  refine r_aload_n dL_fight_2 0 rfl ?_
  refine r_iload_n dL_fight_3 1 rfl ?_
  refine r_iload_n dL_fight_4 2 rfl ?_
  refine r_callXVi (nn := 2) (As := [.int x, .int y]) (st := [.int 0, .ref po]) dL_fight_5 (tX3_fight dt nF nC nE w hg R.dv x y) gL_fight_X3_fight rfl (by decide +kernel) ⟨Nat.le_of_ble_eq_true rfl, Nat.le_of_ble_eq_true rfl⟩ ⟨rfl, rfl⟩ (dw_obj hg) rfl rfl (Nat.le_of_ble_eq_true rfl) ⟨Nat.le_of_ble_eq_true rfl, Nat.le_of_ble_eq_true rfl⟩ rfl (fun Ec hh hp => ?_) (fun r hh hp => ?_)
  · obtain ⟨hp, rfl⟩ := hp
    rcases sx_fight R hp with ⟨rfl, hm⟩ | ⟨rfl, hm⟩ | ⟨rfl, hm⟩
    · refine rx_catch (tgt := 13) (tableOf []) ⟨0, 10, 13, 13⟩ (tableOf [(0, 10, 17, 15), (0, 10, 21, 20)]) htb (fun z hz => absurd hz List.not_mem_nil) rfl (by decide) clL_fight_13 (by decide +kernel) rfl (fun q => ?_)
      refine r_astore (lo' := [(4, .ref q), (0, .ref (a 15)), (1, .int x), (2, .int y), (3, .ref po)]) dL_fight_13 (by decide) rfl ?_
      refine r_iconst (v := 1) dL_fight_15 (by decide) ?_
      exact kret _ _ _ _ _ _ (Nat.le_of_ble_eq_true rfl) (Nat.le_of_ble_eq_true rfl) dL_fight_16 rfl (LX hg R hm (by decide))
    · refine rx_catch (tgt := 17) (tableOf [(0, 10, 13, 13)]) ⟨0, 10, 17, 15⟩ (tableOf [(0, 10, 21, 20)]) htb (fun z hz => by revert z; exact List.forall_mem_cons.mpr ⟨⟨by decide, kIO, clL_fight_13, by decide +kernel⟩, fun z hz => absurd hz List.not_mem_nil⟩) rfl (by decide) clL_fight_15 (by decide +kernel) rfl (fun q => ?_)
      refine r_astore (lo' := [(4, .ref q), (0, .ref (a 15)), (1, .int x), (2, .int y), (3, .ref po)]) dL_fight_17 (by decide) rfl ?_
      refine r_iconst (v := 2) dL_fight_19 (by decide) ?_
      exact kret _ _ _ _ _ _ (Nat.le_of_ble_eq_true rfl) (Nat.le_of_ble_eq_true rfl) dL_fight_20 rfl (LX hg R hm (by decide))
    · refine rx_catch (tgt := 21) (tableOf [(0, 10, 13, 13), (0, 10, 17, 15)]) ⟨0, 10, 21, 20⟩ (tableOf []) htb (fun z hz => by revert z; exact List.forall_mem_cons.mpr ⟨⟨by decide, kIO, clL_fight_13, by decide +kernel⟩, List.forall_mem_cons.mpr ⟨⟨by decide, kIA, clL_fight_15, by decide +kernel⟩, fun z hz => absurd hz List.not_mem_nil⟩⟩) rfl (by decide) clL_fight_20 (by decide +kernel) rfl (fun q => ?_)
      refine r_astore (lo' := [(4, .ref q), (0, .ref (a 15)), (1, .int x), (2, .int y), (3, .ref po)]) dL_fight_21 (by decide) rfl ?_
      refine r_iconst (v := 3) dL_fight_23 (by decide) ?_
      exact kret _ _ _ _ _ _ (Nat.le_of_ble_eq_true rfl) (Nat.le_of_ble_eq_true rfl) dL_fight_24 rfl (LX hg R hm (by decide))
  · obtain ⟨g1, g2, g3, g4, rfl, a', cap', hg', hag, rfl⟩ := hp
    refine r_i2l dL_fight_8 ?_
    refine r_last dL_fight_9 (dw_at hg' hpo) (vp_in_nI (by decide) (by decide)) ?_
    rw [dw_kup hg' hpn]
    refine r_goto (tgt := 25) dL_fight_10 (by decide) ?_
    refine r_iconst (v := 0) dL_fight_25 (by decide) ?_
    exact kret _ _ _ _ _ _ (Nat.le_of_ble_eq_true rfl) (Nat.le_of_ble_eq_true rfl) dL_fight_26 rfl (LK (hag 15 (by decide) (by omega)) hg' (sk_fight R g1 g2 g3 g4))
abbrev rmL_end : Room := { frames := 8, cells := 12, slots := 500, locals := 135 }
theorem clL_end_13 : Cond.classLink RL 13 "java/lang/IndexOutOfBoundsException" ∈ wsL_end := by decide +kernel
theorem clL_end_20 : Cond.classLink RL 20 "java/lang/IllegalStateException" ∈ wsL_end := by decide +kernel
set_option maxHeartbeats 4000000 in
set_option maxRecDepth 100000 in
theorem tL_end {E : kE} {a cap : Nat → Nat} {h0 : kH} {st dt : kM} {nF nC nE w : Nat} (hg : dgeo E a cap nF nC nE h0) (R : dR st dt nF nC nE w) {po : Nat} {f : Nat → Int64} (hpo : h0 po = some (.inl (kJ E, 1, .inr (.inl f)))) (x : Int32) : kXi E yL_end wsL_end rmL_end 12 500 [.ref (a 15), .int x, .ref po] (dw E a cap nF nC nE dt h0) (fun _ _ => False) (LPost E a h0 po (mend st nE x)) := by
  have hpn : h0 po ≠ none := by rw [hpo]; simp
  refine kXi_ofH (rt := .int) (own := RL) (cc := cL_end) (maxL := 4) (hh := [(0, 9, 12, 13), (0, 9, 15, 20)]) (by decide) rfl rfl (Nat.le_of_ble_eq_true rfl) ?_
  intro X htb kret
  refine r_lo (lo' := [(0, .ref (a 15)), (1, .int x), (2, .ref po)]) [0, 1, 2] rfl ?_
  refine r_aload_n dL_end_0 2 rfl ?_
  refine r_iconst (v := 0) dL_end_1 (by decide) ?_
  refine r_aload_n dL_end_2 0 rfl ?_
  refine r_iload_n dL_end_3 1 rfl ?_
  refine r_callXVi (nn := 1) (As := [.int x]) (st := [.int 0, .ref po]) dL_end_4 (tX3_end dt nF nC nE w hg R.dv x) gL_end_X3_end rfl (by decide +kernel) ⟨Nat.le_of_ble_eq_true rfl, Nat.le_of_ble_eq_true rfl⟩ ⟨rfl, rfl⟩ (dw_obj hg) rfl rfl (Nat.le_of_ble_eq_true rfl) ⟨Nat.le_of_ble_eq_true rfl, Nat.le_of_ble_eq_true rfl⟩ rfl (fun Ec hh hp => ?_) (fun r hh hp => ?_)
  · obtain ⟨hp, rfl⟩ := hp
    rcases sx_end R hp with ⟨rfl, hm⟩ | ⟨rfl, hm⟩
    · refine rx_catch (tgt := 12) (tableOf []) ⟨0, 9, 12, 13⟩ (tableOf [(0, 9, 15, 20)]) htb (fun z hz => absurd hz List.not_mem_nil) rfl (by decide) clL_end_13 (by decide +kernel) rfl (fun q => ?_)
      refine r_astore_n (lo' := [(3, .ref q), (0, .ref (a 15)), (1, .int x), (2, .ref po)]) dL_end_12 (by decide) rfl ?_
      refine r_iconst (v := 1) dL_end_13 (by decide) ?_
      exact kret _ _ _ _ _ _ (Nat.le_of_ble_eq_true rfl) (Nat.le_of_ble_eq_true rfl) dL_end_14 rfl (LX hg R hm (by decide))
    · refine rx_catch (tgt := 15) (tableOf [(0, 9, 12, 13)]) ⟨0, 9, 15, 20⟩ (tableOf []) htb (fun z hz => by revert z; exact List.forall_mem_cons.mpr ⟨⟨by decide, kIO, clL_end_13, by decide +kernel⟩, fun z hz => absurd hz List.not_mem_nil⟩) rfl (by decide) clL_end_20 (by decide +kernel) rfl (fun q => ?_)
      refine r_astore_n (lo' := [(3, .ref q), (0, .ref (a 15)), (1, .int x), (2, .ref po)]) dL_end_15 (by decide) rfl ?_
      refine r_iconst (v := 2) dL_end_16 (by decide) ?_
      exact kret _ _ _ _ _ _ (Nat.le_of_ble_eq_true rfl) (Nat.le_of_ble_eq_true rfl) dL_end_17 rfl (LX hg R hm (by decide))
  · obtain ⟨o, ho, rfl, g1, rfl, rfl⟩ := hp
    refine r_i2l dL_end_7 ?_
    refine r_last dL_end_8 (dw_at hg hpo) (vp_in_nI (by decide) (by decide)) ?_
    rw [dw_kup hg hpn]
    refine r_goto (tgt := 18) dL_end_9 (by decide) ?_
    refine r_iconst (v := 0) dL_end_18 (by decide) ?_
    exact kret _ _ _ _ _ _ (Nat.le_of_ble_eq_true rfl) (Nat.le_of_ble_eq_true rfl) dL_end_19 rfl (LK rfl hg (sk_end R ho g1))
abbrev rmL_replay : Room := { frames := 9, cells := 12, slots := 500, locals := 419 }
theorem clL_replay_13 : Cond.classLink RL 13 "java/lang/IndexOutOfBoundsException" ∈ wsL_replay := by decide +kernel
theorem clL_replay_20 : Cond.classLink RL 20 "java/lang/IllegalStateException" ∈ wsL_replay := by decide +kernel
set_option maxHeartbeats 4000000 in
set_option maxRecDepth 100000 in
theorem tL_replay {E : kE} {a cap : Nat → Nat} {h0 : kH} {st dt : kM} {nF nC nE w : Nat} (hg : dgeo E a cap nF nC nE h0) (R : dR st dt nF nC nE w) {po : Nat} {f : Nat → Int64} (hpo : h0 po = some (.inl (kJ E, 1, .inr (.inl f)))) (x : Int32) : kXi E yL_replay wsL_replay rmL_replay 12 500 [.ref (a 15), .int x, .ref po] (dw E a cap nF nC nE dt h0) (fun _ _ => False) (LPost E a h0 po (mreplay st nF nE w x)) := by
  have hpn : h0 po ≠ none := by rw [hpo]; simp
  refine kXi_ofH (rt := .int) (own := RL) (cc := cL_replay) (maxL := 4) (hh := [(0, 9, 12, 13), (0, 9, 15, 20)]) (by decide) rfl rfl (Nat.le_of_ble_eq_true rfl) ?_
  intro X htb kret
  refine r_lo (lo' := [(0, .ref (a 15)), (1, .int x), (2, .ref po)]) [0, 1, 2] rfl ?_
  refine r_aload_n dL_replay_0 2 rfl ?_
  refine r_iconst (v := 0) dL_replay_1 (by decide) ?_
  refine r_aload_n dL_replay_2 0 rfl ?_
  refine r_iload_n dL_replay_3 1 rfl ?_
  refine r_callXVi (nn := 1) (As := [.int x]) (st := [.int 0, .ref po]) dL_replay_4 (tX3_replay dt nF nC nE w hg R.dv x) gL_replay_X3_replay rfl (by decide +kernel) ⟨Nat.le_of_ble_eq_true rfl, Nat.le_of_ble_eq_true rfl⟩ ⟨rfl, rfl⟩ (dw_obj hg) rfl rfl (Nat.le_of_ble_eq_true rfl) ⟨Nat.le_of_ble_eq_true rfl, Nat.le_of_ble_eq_true rfl⟩ rfl (fun Ec hh hp => ?_) (fun r hh hp => ?_)
  · obtain ⟨hp, rfl⟩ := hp
    rcases sx_replay R hp with ⟨rfl, hm⟩ | ⟨rfl, hm⟩
    · refine rx_catch (tgt := 12) (tableOf []) ⟨0, 9, 12, 13⟩ (tableOf [(0, 9, 15, 20)]) htb (fun z hz => absurd hz List.not_mem_nil) rfl (by decide) clL_replay_13 (by decide +kernel) rfl (fun q => ?_)
      refine r_astore_n (lo' := [(3, .ref q), (0, .ref (a 15)), (1, .int x), (2, .ref po)]) dL_replay_12 (by decide) rfl ?_
      refine r_iconst (v := 1) dL_replay_13 (by decide) ?_
      exact kret _ _ _ _ _ _ (Nat.le_of_ble_eq_true rfl) (Nat.le_of_ble_eq_true rfl) dL_replay_14 rfl (LX hg R hm (by decide))
    · refine rx_catch (tgt := 15) (tableOf [(0, 9, 12, 13)]) ⟨0, 9, 15, 20⟩ (tableOf []) htb (fun z hz => by revert z; exact List.forall_mem_cons.mpr ⟨⟨by decide, kIO, clL_replay_13, by decide +kernel⟩, fun z hz => absurd hz List.not_mem_nil⟩) rfl (by decide) clL_replay_20 (by decide +kernel) rfl (fun q => ?_)
      refine r_astore_n (lo' := [(3, .ref q), (0, .ref (a 15)), (1, .int x), (2, .ref po)]) dL_replay_15 (by decide) rfl ?_
      refine r_iconst (v := 2) dL_replay_16 (by decide) ?_
      exact kret _ _ _ _ _ _ (Nat.le_of_ble_eq_true rfl) (Nat.le_of_ble_eq_true rfl) dL_replay_17 rfl (LX hg R hm (by decide))
  · obtain ⟨o, ho, rfl, g1, g2, rfl, a', cap', hg', hag, rfl⟩ := hp
    refine r_i2l dL_replay_7 ?_
    refine r_last dL_replay_8 (dw_at hg' hpo) (vp_in_nI (by decide) (by decide)) ?_
    rw [dw_kup hg' hpn]
    refine r_goto (tgt := 18) dL_replay_9 (by decide) ?_
    refine r_iconst (v := 0) dL_replay_18 (by decide) ?_
    exact kret _ _ _ _ _ _ (Nat.le_of_ble_eq_true rfl) (Nat.le_of_ble_eq_true rfl) dL_replay_19 rfl (LK (hag 15 (by decide) (by omega)) hg' (sk_replay R ho g1 g2))
abbrev rmL_camera : Room := { frames := 8, cells := 12, slots := 500, locals := 396 }
theorem clL_camera_15 : Cond.classLink RL 15 "java/lang/IllegalArgumentException" ∈ wsL_camera := by decide +kernel
theorem clL_camera_20 : Cond.classLink RL 20 "java/lang/IllegalStateException" ∈ wsL_camera := by decide +kernel
set_option maxHeartbeats 4000000 in
set_option maxRecDepth 100000 in
theorem tL_camera {E : kE} {a cap : Nat → Nat} {h0 : kH} {st dt : kM} {nF nC nE w : Nat} (hg : dgeo E a cap nF nC nE h0) (R : dR st dt nF nC nE w) {po : Nat} {f : Nat → Int64} (hpo : h0 po = some (.inl (kJ E, 1, .inr (.inl f)))) (x y : Int32) : kXi E yL_camera wsL_camera rmL_camera 12 500 [.ref (a 15), .int x, .int y, .ref po] (dw E a cap nF nC nE dt h0) (fun _ _ => False) (LPost E a h0 po (mcamera st nC x y)) := by
  have hpn : h0 po ≠ none := by rw [hpo]; simp
  refine kXi_ofH (rt := .int) (own := RL) (cc := cL_camera) (maxL := 5) (hh := [(0, 10, 13, 15), (0, 10, 17, 20)]) (by decide) rfl rfl (Nat.le_of_ble_eq_true rfl) ?_
  intro X htb kret
  refine r_lo (lo' := [(0, .ref (a 15)), (1, .int x), (2, .int y), (3, .ref po)]) [0, 1, 2, 3] rfl ?_
  refine r_aload_n dL_camera_0 3 rfl ?_
  refine r_iconst (v := 0) dL_camera_1 (by decide) ?_
  refine r_aload_n dL_camera_2 0 rfl ?_
  refine r_iload_n dL_camera_3 1 rfl ?_
  refine r_iload_n dL_camera_4 2 rfl ?_
  refine r_callXVi (nn := 2) (As := [.int x, .int y]) (st := [.int 0, .ref po]) dL_camera_5 (tX3_camera dt nF nC nE w hg R.dv x y) gL_camera_X3_camera rfl (by decide +kernel) ⟨Nat.le_of_ble_eq_true rfl, Nat.le_of_ble_eq_true rfl⟩ ⟨rfl, rfl⟩ (dw_obj hg) rfl rfl (Nat.le_of_ble_eq_true rfl) ⟨Nat.le_of_ble_eq_true rfl, Nat.le_of_ble_eq_true rfl⟩ rfl (fun Ec hh hp => ?_) (fun r hh hp => ?_)
  · obtain ⟨hp, rfl⟩ := hp
    rcases sx_camera R hp with ⟨rfl, hm⟩ | ⟨rfl, hm⟩
    · refine rx_catch (tgt := 13) (tableOf []) ⟨0, 10, 13, 15⟩ (tableOf [(0, 10, 17, 20)]) htb (fun z hz => absurd hz List.not_mem_nil) rfl (by decide) clL_camera_15 (by decide +kernel) rfl (fun q => ?_)
      refine r_astore (lo' := [(4, .ref q), (0, .ref (a 15)), (1, .int x), (2, .int y), (3, .ref po)]) dL_camera_13 (by decide) rfl ?_
      refine r_iconst (v := 1) dL_camera_15 (by decide) ?_
      exact kret _ _ _ _ _ _ (Nat.le_of_ble_eq_true rfl) (Nat.le_of_ble_eq_true rfl) dL_camera_16 rfl (LX hg R hm (by decide))
    · refine rx_catch (tgt := 17) (tableOf [(0, 10, 13, 15)]) ⟨0, 10, 17, 20⟩ (tableOf []) htb (fun z hz => by revert z; exact List.forall_mem_cons.mpr ⟨⟨by decide, kIA, clL_camera_15, by decide +kernel⟩, fun z hz => absurd hz List.not_mem_nil⟩) rfl (by decide) clL_camera_20 (by decide +kernel) rfl (fun q => ?_)
      refine r_astore (lo' := [(4, .ref q), (0, .ref (a 15)), (1, .int x), (2, .int y), (3, .ref po)]) dL_camera_17 (by decide) rfl ?_
      refine r_iconst (v := 2) dL_camera_19 (by decide) ?_
      exact kret _ _ _ _ _ _ (Nat.le_of_ble_eq_true rfl) (Nat.le_of_ble_eq_true rfl) dL_camera_20 rfl (LX hg R hm (by decide))
  · obtain ⟨g1, g2, g3, rfl, a', cap', hg', hag, rfl⟩ := hp
    refine r_i2l dL_camera_8 ?_
    refine r_last dL_camera_9 (dw_at hg' hpo) (vp_in_nI (by decide) (by decide)) ?_
    rw [dw_kup hg' hpn]
    refine r_goto (tgt := 21) dL_camera_10 (by decide) ?_
    refine r_iconst (v := 0) dL_camera_21 (by decide) ?_
    exact kret _ _ _ _ _ _ (Nat.le_of_ble_eq_true rfl) (Nat.le_of_ble_eq_true rfl) dL_camera_22 rfl (LK (hag 15 (by decide) (by omega)) hg' (sk_camera R g1 g2 g3))
abbrev rmL_delay : Room := { frames := 8, cells := 12, slots := 500, locals := 134 }
theorem clL_delay_15 : Cond.classLink RL 15 "java/lang/IllegalArgumentException" ∈ wsL_delay := by decide +kernel
set_option maxHeartbeats 4000000 in
set_option maxRecDepth 100000 in
theorem tL_delay {E : kE} {a cap : Nat → Nat} {h0 : kH} {st dt : kM} {nF nC nE w : Nat} (hg : dgeo E a cap nF nC nE h0) (R : dR st dt nF nC nE w) {po : Nat} {f : Nat → Int64} (hpo : h0 po = some (.inl (kJ E, 1, .inr (.inl f)))) (x : Int32) : kXi E yL_delay wsL_delay rmL_delay 12 500 [.ref (a 15), .int x, .ref po] (dw E a cap nF nC nE dt h0) (fun _ _ => False) (LPost E a h0 po (mdelay st x)) := by
  have hpn : h0 po ≠ none := by rw [hpo]; simp
  refine kXi_ofH (rt := .int) (own := RL) (cc := cL_delay) (maxL := 4) (hh := [(0, 9, 12, 15)]) (by decide) rfl rfl (Nat.le_of_ble_eq_true rfl) ?_
  intro X htb kret
  refine r_lo (lo' := [(0, .ref (a 15)), (1, .int x), (2, .ref po)]) [0, 1, 2] rfl ?_
  refine r_aload_n dL_delay_0 2 rfl ?_
  refine r_iconst (v := 0) dL_delay_1 (by decide) ?_
  refine r_aload_n dL_delay_2 0 rfl ?_
  refine r_iload_n dL_delay_3 1 rfl ?_
  refine r_callXVi (nn := 1) (As := [.int x]) (st := [.int 0, .ref po]) dL_delay_4 (tX3_delay dt nF nC nE w hg R.dv x) gL_delay_X3_delay rfl (by decide +kernel) ⟨Nat.le_of_ble_eq_true rfl, Nat.le_of_ble_eq_true rfl⟩ ⟨rfl, rfl⟩ (dw_obj hg) rfl rfl (Nat.le_of_ble_eq_true rfl) ⟨Nat.le_of_ble_eq_true rfl, Nat.le_of_ble_eq_true rfl⟩ rfl (fun Ec hh hp => ?_) (fun r hh hp => ?_)
  · obtain ⟨hp, rfl⟩ := hp
    rcases sx_delay R hp with ⟨rfl, hm⟩
    · refine rx_catch (tgt := 12) (tableOf []) ⟨0, 9, 12, 15⟩ (tableOf []) htb (fun z hz => absurd hz List.not_mem_nil) rfl (by decide) clL_delay_15 (by decide +kernel) rfl (fun q => ?_)
      refine r_astore_n (lo' := [(3, .ref q), (0, .ref (a 15)), (1, .int x), (2, .ref po)]) dL_delay_12 (by decide) rfl ?_
      refine r_iconst (v := 1) dL_delay_13 (by decide) ?_
      exact kret _ _ _ _ _ _ (Nat.le_of_ble_eq_true rfl) (Nat.le_of_ble_eq_true rfl) dL_delay_14 rfl (LX hg R hm (by decide))
  · obtain ⟨g1, rfl, rfl⟩ := hp
    refine r_i2l dL_delay_7 ?_
    refine r_last dL_delay_8 (dw_at hg hpo) (vp_in_nI (by decide) (by decide)) ?_
    rw [dw_kup hg hpn]
    refine r_goto (tgt := 15) dL_delay_9 (by decide) ?_
    refine r_iconst (v := 0) dL_delay_15 (by decide) ?_
    exact kret _ _ _ _ _ _ (Nat.le_of_ble_eq_true rfl) (Nat.le_of_ble_eq_true rfl) dL_delay_16 rfl (LK rfl hg (sk_delay R g1))
abbrev rmL_pass : Room := { frames := 8, cells := 12, slots := 500, locals := 152 }
theorem clL_pass_15 : Cond.classLink RL 15 "java/lang/IllegalArgumentException" ∈ wsL_pass := by decide +kernel
theorem clL_pass_20 : Cond.classLink RL 20 "java/lang/IllegalStateException" ∈ wsL_pass := by decide +kernel
set_option maxHeartbeats 4000000 in
set_option maxRecDepth 100000 in
theorem tL_pass {E : kE} {a cap : Nat → Nat} {h0 : kH} {st dt : kM} {nF nC nE w : Nat} (hg : dgeo E a cap nF nC nE h0) (R : dR st dt nF nC nE w) {po : Nat} {f : Nat → Int64} (hpo : h0 po = some (.inl (kJ E, 1, .inr (.inl f)))) (x : Int32) : kXi E yL_pass wsL_pass rmL_pass 12 500 [.ref (a 15), .int x, .ref po] (dw E a cap nF nC nE dt h0) (fun _ _ => False) (LPost E a h0 po (mpass st nF nC nE w x)) := by
  have hpn : h0 po ≠ none := by rw [hpo]; simp
  refine kXi_ofH (rt := .int) (own := RL) (cc := cL_pass) (maxL := 4) (hh := [(0, 9, 12, 15), (0, 9, 15, 20)]) (by decide) rfl rfl (Nat.le_of_ble_eq_true rfl) ?_
  intro X htb kret
  refine r_lo (lo' := [(0, .ref (a 15)), (1, .int x), (2, .ref po)]) [0, 1, 2] rfl ?_
  refine r_aload_n dL_pass_0 2 rfl ?_
  refine r_iconst (v := 0) dL_pass_1 (by decide) ?_
  refine r_aload_n dL_pass_2 0 rfl ?_
  refine r_iload_n dL_pass_3 1 rfl ?_
  refine r_callXVi (nn := 1) (As := [.int x]) (st := [.int 0, .ref po]) dL_pass_4 (tX3_pass dt nF nC nE w hg R.dv x) gL_pass_X3_pass rfl (by decide +kernel) ⟨Nat.le_of_ble_eq_true rfl, Nat.le_of_ble_eq_true rfl⟩ ⟨rfl, rfl⟩ (dw_obj hg) rfl rfl (Nat.le_of_ble_eq_true rfl) ⟨Nat.le_of_ble_eq_true rfl, Nat.le_of_ble_eq_true rfl⟩ rfl (fun Ec hh hp => ?_) (fun r hh hp => ?_)
  · obtain ⟨hp, rfl⟩ := hp
    rcases sx_pass R hp with ⟨rfl, hm⟩ | ⟨rfl, hm⟩
    · refine rx_catch (tgt := 12) (tableOf []) ⟨0, 9, 12, 15⟩ (tableOf [(0, 9, 15, 20)]) htb (fun z hz => absurd hz List.not_mem_nil) rfl (by decide) clL_pass_15 (by decide +kernel) rfl (fun q => ?_)
      refine r_astore_n (lo' := [(3, .ref q), (0, .ref (a 15)), (1, .int x), (2, .ref po)]) dL_pass_12 (by decide) rfl ?_
      refine r_iconst (v := 1) dL_pass_13 (by decide) ?_
      exact kret _ _ _ _ _ _ (Nat.le_of_ble_eq_true rfl) (Nat.le_of_ble_eq_true rfl) dL_pass_14 rfl (LX hg R hm (by decide))
    · refine rx_catch (tgt := 15) (tableOf [(0, 9, 12, 15)]) ⟨0, 9, 15, 20⟩ (tableOf []) htb (fun z hz => by revert z; exact List.forall_mem_cons.mpr ⟨⟨by decide, kIA, clL_pass_15, by decide +kernel⟩, fun z hz => absurd hz List.not_mem_nil⟩) rfl (by decide) clL_pass_20 (by decide +kernel) rfl (fun q => ?_)
      refine r_astore_n (lo' := [(3, .ref q), (0, .ref (a 15)), (1, .int x), (2, .ref po)]) dL_pass_15 (by decide) rfl ?_
      refine r_iconst (v := 2) dL_pass_16 (by decide) ?_
      exact kret _ _ _ _ _ _ (Nat.le_of_ble_eq_true rfl) (Nat.le_of_ble_eq_true rfl) dL_pass_17 rfl (LX hg R hm (by decide))
  · obtain ⟨g1, g2, m, hm, hwm, hx, rfl, rfl⟩ := hp
    refine r_i2l dL_pass_7 ?_
    refine r_last dL_pass_8 (dw_at hg hpo) (vp_in_nI (by decide) (by decide)) ?_
    rw [dw_kup hg hpn]
    refine r_goto (tgt := 18) dL_pass_9 (by decide) ?_
    refine r_iconst (v := 0) dL_pass_18 (by decide) ?_
    exact kret _ _ _ _ _ _ (Nat.le_of_ble_eq_true rfl) (Nat.le_of_ble_eq_true rfl) dL_pass_19 rfl (LK rfl hg (sk_pass R g1 g2 hm hwm hx))
abbrev rmL_blow : Room := { frames := 8, cells := 12, slots := 500, locals := 398 }
theorem clL_blow_13 : Cond.classLink RL 13 "java/lang/IndexOutOfBoundsException" ∈ wsL_blow := by decide +kernel
theorem clL_blow_15 : Cond.classLink RL 15 "java/lang/IllegalArgumentException" ∈ wsL_blow := by decide +kernel
theorem clL_blow_20 : Cond.classLink RL 20 "java/lang/IllegalStateException" ∈ wsL_blow := by decide +kernel
set_option maxHeartbeats 4000000 in
set_option maxRecDepth 100000 in
theorem tL_blow {E : kE} {a cap : Nat → Nat} {h0 : kH} {st dt : kM} {nF nC nE w : Nat} (hg : dgeo E a cap nF nC nE h0) (R : dR st dt nF nC nE w) {po : Nat} {f : Nat → Int64} (hpo : h0 po = some (.inl (kJ E, 1, .inr (.inl f)))) (x y z : Int32) : kXi E yL_blow wsL_blow rmL_blow 12 500 [.ref (a 15), .int x, .int y, .int z, .ref po] (dw E a cap nF nC nE dt h0) (fun _ _ => False) (LPost E a h0 po (mblow st nE x y z)) := by
  have hpn : h0 po ≠ none := by rw [hpo]; simp
  refine kXi_ofH (rt := .int) (own := RL) (cc := cL_blow) (maxL := 6) (hh := [(0, 12, 15, 13), (0, 12, 19, 15), (0, 12, 23, 20)]) (by decide) rfl rfl (Nat.le_of_ble_eq_true rfl) ?_
  intro X htb kret
  refine r_lo (lo' := [(0, .ref (a 15)), (1, .int x), (2, .int y), (3, .int z), (4, .ref po)]) [0, 1, 2, 3, 4] rfl ?_
  refine r_aload dL_blow_0 4 rfl ?_
  refine r_iconst (v := 0) dL_blow_2 (by decide) ?_
  refine r_aload_n dL_blow_3 0 rfl ?_
  refine r_iload_n dL_blow_4 1 rfl ?_
  refine r_iload_n dL_blow_5 2 rfl ?_
  refine r_iload_n dL_blow_6 3 rfl ?_
  refine r_callXVi (nn := 3) (As := [.int x, .int y, .int z]) (st := [.int 0, .ref po]) dL_blow_7 (tX3_blow dt nF nC nE w hg R.dv x y z) gL_blow_X3_blow rfl (by decide +kernel) ⟨Nat.le_of_ble_eq_true rfl, Nat.le_of_ble_eq_true rfl⟩ ⟨rfl, rfl⟩ (dw_obj hg) rfl rfl (Nat.le_of_ble_eq_true rfl) ⟨Nat.le_of_ble_eq_true rfl, Nat.le_of_ble_eq_true rfl⟩ rfl (fun Ec hh hp => ?_) (fun r hh hp => ?_)
  · obtain ⟨hp, rfl⟩ := hp
    rcases sx_blow R hp with ⟨rfl, hm⟩ | ⟨rfl, hm⟩ | ⟨rfl, hm⟩
    · refine rx_catch (tgt := 15) (tableOf []) ⟨0, 12, 15, 13⟩ (tableOf [(0, 12, 19, 15), (0, 12, 23, 20)]) htb (fun z hz => absurd hz List.not_mem_nil) rfl (by decide) clL_blow_13 (by decide +kernel) rfl (fun q => ?_)
      refine r_astore (lo' := [(5, .ref q), (0, .ref (a 15)), (1, .int x), (2, .int y), (3, .int z), (4, .ref po)]) dL_blow_15 (by decide) rfl ?_
      refine r_iconst (v := 1) dL_blow_17 (by decide) ?_
      exact kret _ _ _ _ _ _ (Nat.le_of_ble_eq_true rfl) (Nat.le_of_ble_eq_true rfl) dL_blow_18 rfl (LX hg R hm (by decide))
    · refine rx_catch (tgt := 19) (tableOf [(0, 12, 15, 13)]) ⟨0, 12, 19, 15⟩ (tableOf [(0, 12, 23, 20)]) htb (fun z hz => by revert z; exact List.forall_mem_cons.mpr ⟨⟨by decide, kIO, clL_blow_13, by decide +kernel⟩, fun z hz => absurd hz List.not_mem_nil⟩) rfl (by decide) clL_blow_15 (by decide +kernel) rfl (fun q => ?_)
      refine r_astore (lo' := [(5, .ref q), (0, .ref (a 15)), (1, .int x), (2, .int y), (3, .int z), (4, .ref po)]) dL_blow_19 (by decide) rfl ?_
      refine r_iconst (v := 2) dL_blow_21 (by decide) ?_
      exact kret _ _ _ _ _ _ (Nat.le_of_ble_eq_true rfl) (Nat.le_of_ble_eq_true rfl) dL_blow_22 rfl (LX hg R hm (by decide))
    · refine rx_catch (tgt := 23) (tableOf [(0, 12, 15, 13), (0, 12, 19, 15)]) ⟨0, 12, 23, 20⟩ (tableOf []) htb (fun z hz => by revert z; exact List.forall_mem_cons.mpr ⟨⟨by decide, kIO, clL_blow_13, by decide +kernel⟩, List.forall_mem_cons.mpr ⟨⟨by decide, kIA, clL_blow_15, by decide +kernel⟩, fun z hz => absurd hz List.not_mem_nil⟩⟩) rfl (by decide) clL_blow_20 (by decide +kernel) rfl (fun q => ?_)
      refine r_astore (lo' := [(5, .ref q), (0, .ref (a 15)), (1, .int x), (2, .int y), (3, .int z), (4, .ref po)]) dL_blow_23 (by decide) rfl ?_
      refine r_iconst (v := 3) dL_blow_25 (by decide) ?_
      exact kret _ _ _ _ _ _ (Nat.le_of_ble_eq_true rfl) (Nat.le_of_ble_eq_true rfl) dL_blow_26 rfl (LX hg R hm (by decide))
  · obtain ⟨o, ho, rfl, g1, g2, g3, g4, g5, rfl, a', cap', hg', hag, rfl⟩ := hp
    refine r_i2l dL_blow_10 ?_
    refine r_last dL_blow_11 (dw_at hg' hpo) (vp_in_nI (by decide) (by decide)) ?_
    rw [dw_kup hg' hpn]
    refine r_goto (tgt := 27) dL_blow_12 (by decide) ?_
    refine r_iconst (v := 0) dL_blow_27 (by decide) ?_
    exact kret _ _ _ _ _ _ (Nat.le_of_ble_eq_true rfl) (Nat.le_of_ble_eq_true rfl) dL_blow_28 rfl (LK (hag 15 (by decide) (by omega)) hg' (sk_blow R ho g1 g2 g3 g4 g5))
abbrev rmL_strike : Room := { frames := 8, cells := 12, slots := 500, locals := 133 }
theorem clL_strike_13 : Cond.classLink RL 13 "java/lang/IndexOutOfBoundsException" ∈ wsL_strike := by decide +kernel
theorem clL_strike_20 : Cond.classLink RL 20 "java/lang/IllegalStateException" ∈ wsL_strike := by decide +kernel
set_option maxHeartbeats 4000000 in
set_option maxRecDepth 100000 in
theorem tL_strike {E : kE} {a cap : Nat → Nat} {h0 : kH} {st dt : kM} {nF nC nE w : Nat} (hg : dgeo E a cap nF nC nE h0) (R : dR st dt nF nC nE w) {po : Nat} {f : Nat → Int64} (hpo : h0 po = some (.inl (kJ E, 1, .inr (.inl f)))) (x : Int32) : kXi E yL_strike wsL_strike rmL_strike 12 500 [.ref (a 15), .int x, .ref po] (dw E a cap nF nC nE dt h0) (fun _ _ => False) (LPost E a h0 po (mstrike st x)) := by
  have hpn : h0 po ≠ none := by rw [hpo]; simp
  refine kXi_ofH (rt := .int) (own := RL) (cc := cL_strike) (maxL := 4) (hh := [(0, 9, 12, 13), (0, 9, 15, 20)]) (by decide) rfl rfl (Nat.le_of_ble_eq_true rfl) ?_
  intro X htb kret
  refine r_lo (lo' := [(0, .ref (a 15)), (1, .int x), (2, .ref po)]) [0, 1, 2] rfl ?_
  refine r_aload_n dL_strike_0 2 rfl ?_
  refine r_iconst (v := 0) dL_strike_1 (by decide) ?_
  refine r_aload_n dL_strike_2 0 rfl ?_
  refine r_iload_n dL_strike_3 1 rfl ?_
  refine r_callXVi (nn := 1) (As := [.int x]) (st := [.int 0, .ref po]) dL_strike_4 (tX3_strike dt nF nC nE w hg R.dv x) gL_strike_X3_strike rfl (by decide +kernel) ⟨Nat.le_of_ble_eq_true rfl, Nat.le_of_ble_eq_true rfl⟩ ⟨rfl, rfl⟩ (dw_obj hg) rfl rfl (Nat.le_of_ble_eq_true rfl) ⟨Nat.le_of_ble_eq_true rfl, Nat.le_of_ble_eq_true rfl⟩ rfl (fun Ec hh hp => ?_) (fun r hh hp => ?_)
  · obtain ⟨hp, rfl⟩ := hp
    rcases sx_strike R hp with ⟨rfl, hm⟩ | ⟨rfl, hm⟩
    · refine rx_catch (tgt := 12) (tableOf []) ⟨0, 9, 12, 13⟩ (tableOf [(0, 9, 15, 20)]) htb (fun z hz => absurd hz List.not_mem_nil) rfl (by decide) clL_strike_13 (by decide +kernel) rfl (fun q => ?_)
      refine r_astore_n (lo' := [(3, .ref q), (0, .ref (a 15)), (1, .int x), (2, .ref po)]) dL_strike_12 (by decide) rfl ?_
      refine r_iconst (v := 1) dL_strike_13 (by decide) ?_
      exact kret _ _ _ _ _ _ (Nat.le_of_ble_eq_true rfl) (Nat.le_of_ble_eq_true rfl) dL_strike_14 rfl (LX hg R hm (by decide))
    · refine rx_catch (tgt := 15) (tableOf [(0, 9, 12, 13)]) ⟨0, 9, 15, 20⟩ (tableOf []) htb (fun z hz => by revert z; exact List.forall_mem_cons.mpr ⟨⟨by decide, kIO, clL_strike_13, by decide +kernel⟩, fun z hz => absurd hz List.not_mem_nil⟩) rfl (by decide) clL_strike_20 (by decide +kernel) rfl (fun q => ?_)
      refine r_astore_n (lo' := [(3, .ref q), (0, .ref (a 15)), (1, .int x), (2, .ref po)]) dL_strike_15 (by decide) rfl ?_
      refine r_iconst (v := 2) dL_strike_16 (by decide) ?_
      exact kret _ _ _ _ _ _ (Nat.le_of_ble_eq_true rfl) (Nat.le_of_ble_eq_true rfl) dL_strike_17 rfl (LX hg R hm (by decide))
  · obtain ⟨o, ho, rfl, g1, rfl, rfl⟩ := hp
    refine r_i2l dL_strike_7 ?_
    refine r_last dL_strike_8 (dw_at hg hpo) (vp_in_nI (by decide) (by decide)) ?_
    rw [dw_kup hg hpn]
    refine r_goto (tgt := 18) dL_strike_9 (by decide) ?_
    refine r_iconst (v := 0) dL_strike_18 (by decide) ?_
    exact kret _ _ _ _ _ _ (Nat.le_of_ble_eq_true rfl) (Nat.le_of_ble_eq_true rfl) dL_strike_19 rfl (LK rfl hg (sk_strike R ho g1))
abbrev rmL_mend : Room := { frames := 8, cells := 12, slots := 500, locals := 136 }
theorem clL_mend_13 : Cond.classLink RL 13 "java/lang/IndexOutOfBoundsException" ∈ wsL_mend := by decide +kernel
theorem clL_mend_15 : Cond.classLink RL 15 "java/lang/IllegalArgumentException" ∈ wsL_mend := by decide +kernel
theorem clL_mend_20 : Cond.classLink RL 20 "java/lang/IllegalStateException" ∈ wsL_mend := by decide +kernel
set_option maxHeartbeats 4000000 in
set_option maxRecDepth 100000 in
theorem tL_mend {E : kE} {a cap : Nat → Nat} {h0 : kH} {st dt : kM} {nF nC nE w : Nat} (hg : dgeo E a cap nF nC nE h0) (R : dR st dt nF nC nE w) {po : Nat} {f : Nat → Int64} (hpo : h0 po = some (.inl (kJ E, 1, .inr (.inl f)))) (x y : Int32) : kXi E yL_mend wsL_mend rmL_mend 12 500 [.ref (a 15), .int x, .int y, .ref po] (dw E a cap nF nC nE dt h0) (fun _ _ => False) (LPost E a h0 po (mmend st x y)) := by
  have hpn : h0 po ≠ none := by rw [hpo]; simp
  refine kXi_ofH (rt := .int) (own := RL) (cc := cL_mend) (maxL := 5) (hh := [(0, 10, 13, 13), (0, 10, 17, 15), (0, 10, 21, 20)]) (by decide) rfl rfl (Nat.le_of_ble_eq_true rfl) ?_
  intro X htb kret
  refine r_lo (lo' := [(0, .ref (a 15)), (1, .int x), (2, .int y), (3, .ref po)]) [0, 1, 2, 3] rfl ?_
  refine r_aload_n dL_mend_0 3 rfl ?_
  refine r_iconst (v := 0) dL_mend_1 (by decide) ?_
  refine r_aload_n dL_mend_2 0 rfl ?_
  refine r_iload_n dL_mend_3 1 rfl ?_
  refine r_iload_n dL_mend_4 2 rfl ?_
  refine r_callXVi (nn := 2) (As := [.int x, .int y]) (st := [.int 0, .ref po]) dL_mend_5 (tX3_mend dt nF nC nE w hg R.dv x y) gL_mend_X3_mend rfl (by decide +kernel) ⟨Nat.le_of_ble_eq_true rfl, Nat.le_of_ble_eq_true rfl⟩ ⟨rfl, rfl⟩ (dw_obj hg) rfl rfl (Nat.le_of_ble_eq_true rfl) ⟨Nat.le_of_ble_eq_true rfl, Nat.le_of_ble_eq_true rfl⟩ rfl (fun Ec hh hp => ?_) (fun r hh hp => ?_)
  · obtain ⟨hp, rfl⟩ := hp
    rcases sx_mend R hp with ⟨rfl, hm⟩ | ⟨rfl, hm⟩ | ⟨rfl, hm⟩
    · refine rx_catch (tgt := 13) (tableOf []) ⟨0, 10, 13, 13⟩ (tableOf [(0, 10, 17, 15), (0, 10, 21, 20)]) htb (fun z hz => absurd hz List.not_mem_nil) rfl (by decide) clL_mend_13 (by decide +kernel) rfl (fun q => ?_)
      refine r_astore (lo' := [(4, .ref q), (0, .ref (a 15)), (1, .int x), (2, .int y), (3, .ref po)]) dL_mend_13 (by decide) rfl ?_
      refine r_iconst (v := 1) dL_mend_15 (by decide) ?_
      exact kret _ _ _ _ _ _ (Nat.le_of_ble_eq_true rfl) (Nat.le_of_ble_eq_true rfl) dL_mend_16 rfl (LX hg R hm (by decide))
    · refine rx_catch (tgt := 17) (tableOf [(0, 10, 13, 13)]) ⟨0, 10, 17, 15⟩ (tableOf [(0, 10, 21, 20)]) htb (fun z hz => by revert z; exact List.forall_mem_cons.mpr ⟨⟨by decide, kIO, clL_mend_13, by decide +kernel⟩, fun z hz => absurd hz List.not_mem_nil⟩) rfl (by decide) clL_mend_15 (by decide +kernel) rfl (fun q => ?_)
      refine r_astore (lo' := [(4, .ref q), (0, .ref (a 15)), (1, .int x), (2, .int y), (3, .ref po)]) dL_mend_17 (by decide) rfl ?_
      refine r_iconst (v := 2) dL_mend_19 (by decide) ?_
      exact kret _ _ _ _ _ _ (Nat.le_of_ble_eq_true rfl) (Nat.le_of_ble_eq_true rfl) dL_mend_20 rfl (LX hg R hm (by decide))
    · refine rx_catch (tgt := 21) (tableOf [(0, 10, 13, 13), (0, 10, 17, 15)]) ⟨0, 10, 21, 20⟩ (tableOf []) htb (fun z hz => by revert z; exact List.forall_mem_cons.mpr ⟨⟨by decide, kIO, clL_mend_13, by decide +kernel⟩, List.forall_mem_cons.mpr ⟨⟨by decide, kIA, clL_mend_15, by decide +kernel⟩, fun z hz => absurd hz List.not_mem_nil⟩⟩) rfl (by decide) clL_mend_20 (by decide +kernel) rfl (fun q => ?_)
      refine r_astore (lo' := [(4, .ref q), (0, .ref (a 15)), (1, .int x), (2, .int y), (3, .ref po)]) dL_mend_21 (by decide) rfl ?_
      refine r_iconst (v := 3) dL_mend_23 (by decide) ?_
      exact kret _ _ _ _ _ _ (Nat.le_of_ble_eq_true rfl) (Nat.le_of_ble_eq_true rfl) dL_mend_24 rfl (LX hg R hm (by decide))
  · obtain ⟨o, ho, rfl, g1, g2, rfl, rfl⟩ := hp
    refine r_i2l dL_mend_8 ?_
    refine r_last dL_mend_9 (dw_at hg hpo) (vp_in_nI (by decide) (by decide)) ?_
    rw [dw_kup hg hpn]
    refine r_goto (tgt := 25) dL_mend_10 (by decide) ?_
    refine r_iconst (v := 0) dL_mend_25 (by decide) ?_
    exact kret _ _ _ _ _ _ (Nat.le_of_ble_eq_true rfl) (Nat.le_of_ble_eq_true rfl) dL_mend_26 rfl (LK rfl hg (sk_mend R ho g1 g2))
abbrev rmL_promise : Room := { frames := 8, cells := 12, slots := 500, locals := 135 }
theorem clL_promise_13 : Cond.classLink RL 13 "java/lang/IndexOutOfBoundsException" ∈ wsL_promise := by decide +kernel
theorem clL_promise_15 : Cond.classLink RL 15 "java/lang/IllegalArgumentException" ∈ wsL_promise := by decide +kernel
set_option maxHeartbeats 4000000 in
set_option maxRecDepth 100000 in
theorem tL_promise {E : kE} {a cap : Nat → Nat} {h0 : kH} {st dt : kM} {nF nC nE w : Nat} (hg : dgeo E a cap nF nC nE h0) (R : dR st dt nF nC nE w) {po : Nat} {f : Nat → Int64} (hpo : h0 po = some (.inl (kJ E, 1, .inr (.inl f)))) (x y : Int32) : kXi E yL_promise wsL_promise rmL_promise 12 500 [.ref (a 15), .int x, .int y, .ref po] (dw E a cap nF nC nE dt h0) (fun _ _ => False) (LPost E a h0 po (mpromise st x y)) := by
  have hpn : h0 po ≠ none := by rw [hpo]; simp
  refine kXi_ofH (rt := .int) (own := RL) (cc := cL_promise) (maxL := 5) (hh := [(0, 10, 13, 13), (0, 10, 17, 15)]) (by decide) rfl rfl (Nat.le_of_ble_eq_true rfl) ?_
  intro X htb kret
  refine r_lo (lo' := [(0, .ref (a 15)), (1, .int x), (2, .int y), (3, .ref po)]) [0, 1, 2, 3] rfl ?_
  refine r_aload_n dL_promise_0 3 rfl ?_
  refine r_iconst (v := 0) dL_promise_1 (by decide) ?_
  refine r_aload_n dL_promise_2 0 rfl ?_
  refine r_iload_n dL_promise_3 1 rfl ?_
  refine r_iload_n dL_promise_4 2 rfl ?_
  refine r_callXVi (nn := 2) (As := [.int x, .int y]) (st := [.int 0, .ref po]) dL_promise_5 (tX3_promise dt nF nC nE w hg R.dv x y) gL_promise_X3_promise rfl (by decide +kernel) ⟨Nat.le_of_ble_eq_true rfl, Nat.le_of_ble_eq_true rfl⟩ ⟨rfl, rfl⟩ (dw_obj hg) rfl rfl (Nat.le_of_ble_eq_true rfl) ⟨Nat.le_of_ble_eq_true rfl, Nat.le_of_ble_eq_true rfl⟩ rfl (fun Ec hh hp => ?_) (fun r hh hp => ?_)
  · obtain ⟨hp, rfl⟩ := hp
    rcases sx_promise R hp with ⟨rfl, hm⟩ | ⟨rfl, hm⟩
    · refine rx_catch (tgt := 13) (tableOf []) ⟨0, 10, 13, 13⟩ (tableOf [(0, 10, 17, 15)]) htb (fun z hz => absurd hz List.not_mem_nil) rfl (by decide) clL_promise_13 (by decide +kernel) rfl (fun q => ?_)
      refine r_astore (lo' := [(4, .ref q), (0, .ref (a 15)), (1, .int x), (2, .int y), (3, .ref po)]) dL_promise_13 (by decide) rfl ?_
      refine r_iconst (v := 1) dL_promise_15 (by decide) ?_
      exact kret _ _ _ _ _ _ (Nat.le_of_ble_eq_true rfl) (Nat.le_of_ble_eq_true rfl) dL_promise_16 rfl (LX hg R hm (by decide))
    · refine rx_catch (tgt := 17) (tableOf [(0, 10, 13, 13)]) ⟨0, 10, 17, 15⟩ (tableOf []) htb (fun z hz => by revert z; exact List.forall_mem_cons.mpr ⟨⟨by decide, kIO, clL_promise_13, by decide +kernel⟩, fun z hz => absurd hz List.not_mem_nil⟩) rfl (by decide) clL_promise_15 (by decide +kernel) rfl (fun q => ?_)
      refine r_astore (lo' := [(4, .ref q), (0, .ref (a 15)), (1, .int x), (2, .int y), (3, .ref po)]) dL_promise_17 (by decide) rfl ?_
      refine r_iconst (v := 2) dL_promise_19 (by decide) ?_
      exact kret _ _ _ _ _ _ (Nat.le_of_ble_eq_true rfl) (Nat.le_of_ble_eq_true rfl) dL_promise_20 rfl (LX hg R hm (by decide))
  · obtain ⟨g1, g2, rfl, rfl⟩ := hp
    refine r_i2l dL_promise_8 ?_
    refine r_last dL_promise_9 (dw_at hg hpo) (vp_in_nI (by decide) (by decide)) ?_
    rw [dw_kup hg hpn]
    refine r_goto (tgt := 21) dL_promise_10 (by decide) ?_
    refine r_iconst (v := 0) dL_promise_21 (by decide) ?_
    exact kret _ _ _ _ _ _ (Nat.le_of_ble_eq_true rfl) (Nat.le_of_ble_eq_true rfl) dL_promise_22 rfl (LK rfl hg (sk_promise R g1 g2))
