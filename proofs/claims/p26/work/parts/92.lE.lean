/-! what the Statement gives of the start: classes, statics, texts -/
abbrev nw1 : List Cond := flatC (Jvm.Cond.and given_1 narrow_1)
theorem nStr : ∀ q ∈ kStr, Cond.exactly (.string RX3 q.1) "java/lang/String" ∈ nw1 := by decide +kernel
theorem tStr : ∀ q ∈ kStr, Cond.stringRef RX3 q.1 q.2 ∈ lw_tbl := by decide +kernel
theorem tCast : ∀ q ∈ kCast, Cond.castable q.1 q.2 ∈ lw_tbl := by decide +kernel
theorem tDecl : ∀ y ∈ kDecl, Cond.declares y ∈ lw_tbl := by decide +kernel
theorem nNcs : ∀ q ∈ kNcs, Cond.not (.castable q.1 q.2) ∈ nw1 := by decide +kernel
theorem tIns : ∀ q ∈ kcl, Cond.instantiable q.1 q.2.2 ∈ lw_tbl := by decide +kernel
theorem tArrI : Cond.arrayClass .int ∈ lw_tbl := by decide +kernel
theorem tArrO : Cond.arrayOver (.object "java/lang/Object") ∈ lw_tbl := by decide +kernel
theorem tDc : Cond.declares ⟨"java/lang/Object", "getClass", "()Ljava/lang/Class;"⟩ ∈ lw_tbl := by decide +kernel
theorem nMi : Cond.isRef (.mirror "[Ljava/lang/Object;") ∈ nw1 := by decide +kernel
theorem tLs1 : Cond.laysStatic Bundle.tN "UNASSIGNED_STACK" Bundle.steD ∈ lw_tbl := by decide +kernel
theorem tLs2 : Cond.laysStatic Bundle.tN "SUPPRESSED_SENTINEL" Bundle.listD ∈ lw_tbl := by decide +kernel
theorem tLs3 : Cond.laysStatic RJx4a65c "DEFAULTCAPACITY_EMPTY_ELEMENTDATA" "[Ljava/lang/Object;" ∈ lw_tbl := by decide +kernel
theorem tIn1 : Cond.initialized Bundle.tN ∈ lw_tbl := by decide +kernel
theorem tIn3 : Cond.initialized RJx4a65c ∈ lw_tbl := by decide +kernel
theorem nRf1 : Cond.isRef (.static Bundle.tN "UNASSIGNED_STACK" Bundle.steD) ∈ nw1 := by decide +kernel
theorem nRf2 : Cond.isRef (.static Bundle.tN "SUPPRESSED_SENTINEL" Bundle.listD) ∈ nw1 := by decide +kernel
theorem nAr3 : Cond.arrayOf (.static RJx4a65c "DEFAULTCAPACITY_EMPTY_ELEMENTDATA" "[Ljava/lang/Object;") (.object "java/lang/Object") ∈ nw1 := by decide +kernel
theorem nLe3 : Cond.eq (.length (.static RJx4a65c "DEFAULTCAPACITY_EMPTY_ELEMENTDATA" "[Ljava/lang/Object;")) (.int 0) ∈ nw1 := by decide +kernel
section SE
variable {args : Array Value} {s : State}
theorem arr_I (h : (Cond.arrayClass .int).before args s = true) : ∃ cA, ArrOfT s cA .int ∧ va_RA s cA .int := by
  obtain ⟨c, k, comp, h1, h2, h3⟩ := Cond.arrayClass_spec h
  exact ⟨c, fun n z => ⟨(fun k h => by cases h), k, h2, comp, h3⟩, h1⟩
theorem arr_O (h : (Cond.arrayOver (.object "java/lang/Object")).before args s = true) : ∃ cA, ArrOfT s cA (.object "java/lang/Object") ∧ va_RA s cA (.object "java/lang/Object") := by
  obtain ⟨comp, c, k, h1, h2, h3, h4, h5⟩ := Cond.arrayOver_spec h
  exact ⟨c, fun n z => ⟨(fun k h => by cases h), k, h3, comp, h4⟩, k, comp, h3, h4, h1, h5⟩
set_option maxHeartbeats 4000000 in
set_option maxRecDepth 100000 in
theorem start_E (hts : ∀ w ∈ lw_tbl, w.before args s = true) (hgv : (Jvm.Cond.and given_1 narrow_1).before args s = true) : ∃ E : kE, kT E s ∧ kZs E (fun q => s.heap.size ≤ q) s s.heap := by
  have hn := flat_of_before _ hgv
  have hA : ∀ a : Nat, a < s.heap.size → ¬ (fun q : Nat => s.heap.size ≤ q) a := fun a h => Nat.not_le.mpr h
  have hi : ∀ q ∈ kcl, (Cond.instantiable q.1 q.2.2).before args s = true := fun q hq => hts _ (tIns q hq)
  obtain ⟨c0, i0, k0⟩ := u_known (C := RX0) (T := TX0) (N := 4) (n := 4) hts wl_x0 (hi (RX0, TX0, 4) (by simp))
  obtain ⟨c1, i1, k1⟩ := u_known (C := RX1) (T := TX1) (N := 5) (n := 5) hts wl_x1 (hi (RX1, TX1, 5) (by simp))
  obtain ⟨c2, i2, k2⟩ := u_known (C := RX2) (T := TX2) (N := 7) (n := 7) hts wl_x2 (hi (RX2, TX2, 7) (by simp))
  obtain ⟨c3, i3, k3⟩ := u_known (C := RX3) (T := TX3) (N := 15) (n := 15) hts wl_x3 (hi (RX3, TX3, 15) (by simp))
  obtain ⟨c5, i5, k5⟩ := u_known (C := RJx4a65c) (T := TJx4a65c) (N := 3) (n := 3) hts wl_j (hi (RJx4a65c, TJx4a65c, 3) (by simp))
  obtain ⟨aI, gI⟩ := arr_I (hts _ tArrI)
  obtain ⟨aO, gO⟩ := arr_O (hts _ tArrO)
  obtain ⟨mi, hmi⟩ := va_Mi.of (hn _ nMi)
  obtain ⟨t, ht, hT⟩ := va_Tof (N := 0) (f := fun _ => .null) (A := fun q => s.heap.size ≤ q) (by decide) (hn _ nAr3) (va_eqt (hn _ nLe3)) (fun j hj => absurd hj (Nat.not_lt_zero _)) hA
  refine ⟨((fun k => match k with | 0 => c0 | 1 => c1 | 2 => c2 | 3 => c3 | 4 => c3 | _ => c5, fun k => match k with | 0 => i0 | 1 => i1 | 2 => i2 | 3 => i3 | 4 => i3 | _ => i5), aI, aI, aO, aI, t, mi), ⟨⟨fun c q hq => ?_, fun k q hq => ?_⟩, fun q hq => ?_, fun q hq => va_Nw.of rfl (hts _ (tCast q hq)), fun y hy => va_Nw.of rfl (hts _ (tDecl y hy)), fun q hq => va_Nc.of (hn _ (nNcs q hq)), va_AO.of (hts _ tArrO), hmi, va_Dc.of (hts _ tDc)⟩, vx_Zqof (hts _ tLs1) (hts _ tIn1) (hn _ nRf1) hA, vx_Zqof (hts _ tLs2) (hts _ tIn1) (hn _ nRf2) hA, va_Zref (hts _ tLs3) (hts _ tIn3) ht hA, hT⟩
  · match c, hq with
    | 0, hq => cases hq; exact k0
    | 1, hq => cases hq; exact k1
    | 2, hq => cases hq; exact k2
    | 3, hq => cases hq; exact k3
    | 4, hq => cases hq; exact k3
    | 5, hq => cases hq; exact k5
    | c + 6, hq => simp [kcl] at hq
  · match k, hq with
    | 0, hq => cases hq; exact gI
    | 1, hq => cases hq; exact gI
    | 2, hq => cases hq; exact gO
    | 3, hq => cases hq; exact gI
    | k + 4, hq => simp [ktys] at hq
  · obtain ⟨a, c, cell, k, q1, q2⟩ := Cond.exactly_spec (hn _ (nStr q hq))
    exact ⟨a, vk_R.of (hts _ (tStr q hq)) q1⟩
end SE
