theorem kup3 (h : kH) {x q : Nat} {e1 e3 e4 : va_E} (hn : x ≠ q) : kup (kup (kup h x e1) q e3) x e4 = kup (kup h q e3) x e4 := by
  funext z
  by_cases c : z = x
  · subst c; simp [kup]
  · by_cases d : z = q
    · subst d; simp [kup, c]
    · simp [kup, c, d]
/-- a chain of cells, the newest first -/
def kch : List Nat → List va_E → kH → kH
  | p :: P, e :: es, h0 => kup (kch P es h0) p e
  | _, _, h0 => h0
def kchOk (P : List Nat) (es : List va_E) (h0 : kH) : Prop := P.length = es.length ∧ P.Nodup ∧ ∀ p, p ∈ P → h0 p = none
theorem kch_out {p : Nat} : ∀ (P : List Nat) (es : List va_E) (h0 : kH), p ∉ P → kch P es h0 p = h0 p
  | [], _, _, _ => rfl
  | _ :: _, [], _, _ => rfl
  | x :: P, e :: es, h0, h => by
    rw [kch, kup_n _ _ (fun z => h (by rw [z]; exact List.mem_cons_self)), kch_out P es h0 (fun z => h (List.mem_cons_of_mem _ z))]
theorem kch_in {p : Nat} : ∀ (P : List Nat) (es : List va_E) (h0 : kH), P.length = es.length → p ∈ P → kch P es h0 p ≠ none
  | [], _, _, _, h => absurd h List.not_mem_nil
  | _ :: _, [], _, hl, _ => absurd hl (by simp)
  | x :: P, e :: es, h0, hl, h => by
    by_cases c : p = x
    · subst c; rw [kch, kup_s]; exact fun z => by cases z
    · rw [kch, kup_n _ _ c]
      refine kch_in P es h0 (by simpa using hl) ?_
      rcases List.mem_cons.mp h with z | z
      · exact absurd z c
      · exact z
theorem kchOk_nil (h0 : kH) : kchOk [] [] h0 := ⟨rfl, List.nodup_nil, fun _ h => absurd h List.not_mem_nil⟩
theorem kchOk_cons {P : List Nat} {es : List va_E} {h0 : kH} {p : Nat} {e : va_E} (h : kchOk P es h0) (hp : kch P es h0 p = none) : kchOk (p :: P) (e :: es) h0 := by
  have hn : p ∉ P := fun z => kch_in P es h0 h.1 z hp
  refine ⟨by simp [h.1], List.nodup_cons.mpr ⟨hn, h.2.1⟩, fun x hx => ?_⟩
  rcases List.mem_cons.mp hx with rfl | z
  · rw [kch_out P es h0 hn] at hp; exact hp
  · exact h.2.2 x z
theorem getD_mem {P : List Nat} {i : Nat} (hi : i < P.length) : P.getD i 0 ∈ P := by
  rw [List.getD_eq_getElem?_getD, List.getElem?_eq_getElem hi]
  exact List.getElem_mem hi
theorem kch_at : ∀ (P : List Nat) (es : List va_E) (h0 : kH) (e0 : va_E), kchOk P es h0 → ∀ i, i < P.length → kch P es h0 (P.getD i 0) = some (es.getD i e0)
  | [], _, _, _, _, _, hi => absurd hi (Nat.not_lt_zero _)
  | _ :: _, [], _, _, h, _, _ => absurd h.1 (by simp)
  | x :: P, e :: es, h0, e0, h, i, hi => by
    have hnd := List.nodup_cons.mp h.2.1
    cases i with
    | zero => show kup _ x e x = some e; rw [kup_s]
    | succ i =>
      have hi2 : i < P.length := by simpa using hi
      show kup (kch P es h0) x e (P.getD i 0) = some (es.getD i e0)
      have hm := getD_mem hi2
      rw [kup_n _ _ (fun z => hnd.1 (by rw [← z]; exact hm))]
      exact kch_at P es h0 e0 ⟨by simpa using h.1, hnd.2, fun p hp => h.2.2 p (List.mem_cons_of_mem _ hp)⟩ i hi2
theorem getD_inj : ∀ (P : List Nat), P.Nodup → ∀ i j, i < P.length → j < P.length → P.getD i 0 = P.getD j 0 → i = j
  | [], _, _, _, h, _, _ => absurd h (Nat.not_lt_zero _)
  | x :: P, h, i, j, hi, hj, e => by
    have hnd := List.nodup_cons.mp h
    cases i with
    | zero =>
      cases j with
      | zero => rfl
      | succ j => exact absurd (show P.getD j 0 ∈ P from getD_mem (by simpa using hj)) (by rw [show P.getD j 0 = x from e.symm]; exact hnd.1)
    | succ i =>
      cases j with
      | zero => exact absurd (show P.getD i 0 ∈ P from getD_mem (by simpa using hi)) (by rw [show P.getD i 0 = x from e]; exact hnd.1)
      | succ j => rw [getD_inj P hnd.2 i j (by simpa using hi) (by simpa using hj) e]
/-- the places of a new class's cells in the chain, of a new reference's -/
def ix3 (k : Nat) : Nat := if k = 15 then 0 else if k < 8 then 11 - k else 15 - k
def a3 (E : kE) (L : List Nat) (k : Nat) : Nat := if k = 16 ∨ k = 17 ∨ k = 18 then kN E else L.getD (ix3 k) 0
def dt0 : kM := fun g _ => if g = 2 then 10 else if g = 3 then -1 else 0
def mst0 : kM := fun g _ => if g = 2 then 10 else if g = 3 ∨ g = 15 ∨ g = 16 then -1 else 0
def ix4 (k : Nat) : Nat := match k with
  | 29 => 0
  | 27 => 1
  | 26 => 2
  | 25 => 3
  | 24 => 4
  | 23 => 5
  | 22 => 6
  | 21 => 7
  | 19 => 8
  | 18 => 9
  | 17 => 10
  | 14 => 11
  | 13 => 12
  | 12 => 13
  | 11 => 14
  | 9 => 15
  | 8 => 16
  | 7 => 17
  | 6 => 18
  | _ => 19
def b4 (L : List Nat) (k : Nat) : Nat := L.getD (ix4 k) 0
theorem dD0 {k : Nat} (h : dD (fun _ => 0) 0 0 0 k) : k < 8 ∨ (12 ≤ k ∧ k ≤ 15) := by
  unfold dD at h
  dsimp only at h
  omega
theorem dw_init {E : kE} {L : List Nat} {es : List va_E} {h0 : kH} {e0 : va_E} (ok : kchOk L es h0) (hl : L.length = 12) (hes : ∀ k, (k < 8 ∨ (12 ≤ k ∧ k ≤ 15)) → es.getD (ix3 k) e0 = dcell E (a3 E L) (fun _ => 0) 0 0 0 dt0 k) : dgeo E (a3 E L) (fun _ => 0) 0 0 0 h0 ∧ kch L es h0 = dw E (a3 E L) (fun _ => 0) 0 0 0 dt0 h0 := by
  have hlt : ∀ k, (k < 8 ∨ (12 ≤ k ∧ k ≤ 15)) → ix3 k < 12 := fun k h => by
    unfold ix3
    by_cases c1 : k = 15
    · rw [if_pos c1]; omega
    · rw [if_neg c1]
      by_cases c2 : k < 8
      · rw [if_pos c2]; omega
      · rw [if_neg c2]; omega
  have hag : ∀ k, (k < 8 ∨ (12 ≤ k ∧ k ≤ 15)) → a3 E L k = L.getD (ix3 k) 0 := fun k h => if_neg (by omega)
  have hI : oinj (dD (fun _ => 0) 0 0 0) (a3 E L) := by
    intro i j hi hj e
    have hi := dD0 hi
    have hj := dD0 hj
    rw [hag i hi, hag j hj] at e
    have z := getD_inj L ok.2.1 _ _ (by rw [hl]; exact hlt i hi) (by rw [hl]; exact hlt j hj) e
    unfold ix3 at z
    by_cases c1 : i = 15 <;> by_cases c2 : j = 15 <;> by_cases c3 : i < 8 <;> by_cases c4 : j < 8 <;> simp [c1, c2, c3, c4] at z <;> omega
  have hn : ∀ k, dD (fun _ => 0) 0 0 0 k → h0 (a3 E L k) = none := fun k hk => by
    have hk := dD0 hk
    rw [hag k hk]
    exact ok.2.2 _ (getD_mem (by rw [hl]; exact hlt k hk))
  refine ⟨⟨hI, hn, fun k hk => ?_, by omega, by omega, by omega⟩, ?_⟩
  · rcases hk with rfl | rfl | rfl
    · exact ⟨Nat.le_refl _, Nat.zero_le _, fun _ => if_pos (by decide), fun z => absurd z (Nat.lt_irrefl _)⟩
    · exact ⟨Nat.le_refl _, Nat.zero_le _, fun _ => if_pos (by decide), fun z => absurd z (Nat.lt_irrefl _)⟩
    · exact ⟨Nat.le_refl _, Nat.zero_le _, fun _ => if_pos (by decide), fun z => absurd z (Nat.lt_irrefl _)⟩
  · refine og_ext (D := dD (fun _ => 0) 0 0 0) (a := a3 E L) (c := dcell E (a3 E L) (fun _ => 0) 0 0 0 dt0) hI (fun k hk => ?_) (fun q hq => ?_)
    · have hk := dD0 hk
      rw [hag k hk, kch_at L es h0 e0 ok _ (by rw [hl]; exact hlt k hk), hes k hk]
    · refine kch_out L es h0 (fun z => ?_)
      obtain ⟨i, hi, e⟩ := List.getElem_of_mem z
      rw [hl] at hi
      have hk : ∃ k, (k < 8 ∨ (12 ≤ k ∧ k ≤ 15)) ∧ ix3 k = i := by
        by_cases c0 : i = 0
        · exact ⟨15, by omega, by rw [c0]; rfl⟩
        by_cases c1 : i < 4
        · refine ⟨15 - i, by omega, ?_⟩
          unfold ix3
          rw [if_neg (by omega), if_neg (by omega)]
          omega
        · refine ⟨11 - i, by omega, ?_⟩
          unfold ix3
          rw [if_neg (by omega), if_pos (by omega)]
          omega
      obtain ⟨k, hk1, hk2⟩ := hk
      refine hq k (by unfold dD; omega) ?_
      rw [hag k hk1, hk2, List.getD_eq_getElem?_getD, List.getElem?_eq_getElem (by rw [hl]; exact hi)]
      exact e
theorem mdom_lt {k : Nat} (h : mdom k = true) : k < 30 := by
  simp [mdom] at h
  omega
theorem ix4_ok : ∀ i, i < 30 → ∀ j, j < 30 → mdom i = true → mdom j = true → ix4 i = ix4 j → i = j := by decide +kernel
theorem ix4_lt : ∀ i, i < 30 → ix4 i < 20 := by decide +kernel
theorem ix4_on : ∀ i, i < 20 → ∃ k, k < 30 ∧ mdom k = true ∧ ix4 k = i := by decide +kernel
theorem ov_init {E : kE} {L : List Nat} {es : List va_E} {h0 : kH} {e0 : va_E} (ok : kchOk L es h0) (hl : L.length = 20) (hes : ∀ k, k < 30 → mdom k = true → es.getD (ix4 k) e0 = mcell E (b4 L) mst0 k) : binj (b4 L) ∧ (∀ k, mdom k = true → h0 (b4 L k) = none) ∧ kch L es h0 = ov E (b4 L) mst0 h0 := by
  have hB : binj (b4 L) := by
    intro i j hi hj e
    exact ix4_ok i (mdom_lt hi) j (mdom_lt hj) hi hj (getD_inj L ok.2.1 _ _ (by rw [hl]; exact ix4_lt i (mdom_lt hi)) (by rw [hl]; exact ix4_lt j (mdom_lt hj)) e)
  refine ⟨hB, fun k hk => ok.2.2 _ (getD_mem (by rw [hl]; exact ix4_lt k (mdom_lt hk))), ?_⟩
  funext q
  by_cases c : ∃ k, mdom k = true ∧ b4 L k = q
  · obtain ⟨k, hk, rfl⟩ := c
    rw [ov_at hB _ _ hk]
    show kch L es h0 (L.getD (ix4 k) 0) = _
    rw [kch_at L es h0 e0 ok _ (by rw [hl]; exact ix4_lt k (mdom_lt hk)), hes k (mdom_lt hk) hk]
  · rw [ov_out _ _ (fun k h1 h2 => c ⟨k, h1, h2⟩)]
    refine kch_out L es h0 (fun z => ?_)
    obtain ⟨i, hi, e⟩ := List.getElem_of_mem z
    rw [hl] at hi
    obtain ⟨k, _, h1, h2⟩ := ix4_on i hi
    refine c ⟨k, h1, ?_⟩
    show L.getD (ix4 k) 0 = q
    rw [h2, List.getD_eq_getElem?_getD, List.getElem?_eq_getElem (by rw [hl]; exact hi)]
    exact e
abbrev rmX3_init : Room := { frames := 4, cells := 11, slots := 9047, locals := 80 }
theorem hinX3_init : ∀ w ∈ u_ws RX3 TX3 15, w ∈ wsX3_init := by decide +kernel
set_option maxHeartbeats 4000000 in
set_option maxRecDepth 100000 in
theorem tX3_init {E : kE} {h0 : kH} (q : Nat) (hq0 : h0 q = none) : kCv E yX3_init wsX3_init rmX3_init 11 9047 [.ref q] (kup h0 q (.inr (3, [.null, .null, .null, .null, .null, .null, .null, .null, .int 0, .int 0, .int 0, .int 0, .null, .null, .null]))) (fun h' => ∃ a : Nat → Nat, a 15 = q ∧ dgeo E a (fun _ => 0) 0 0 0 h0 ∧ h' = dw E a (fun _ => 0) 0 0 0 dt0 h0) := by
  refine kCv_of (own := RX3) (cc := cX3_init) (maxL := 1) (by decide) rfl rfl (Nat.le_of_ble_eq_true rfl) ?_
  intro X hini kret
  refine r_lo (lo' := [(0, .ref q)]) [0] rfl ?_
  refine r_aload_n dX3_init_0 0 rfl ?_
  refine r_objInit dX3_init_1 (by decide +kernel : Cond.methodLink RX3 1 objectInit ∈ wsX3_init) (by decide +kernel) (by decide +kernel) (Nat.le_of_ble_eq_true rfl) (Nat.le_of_ble_eq_true rfl) ?_
  refine r_aload_n dX3_init_4 0 rfl ?_
  refine r_bipush (v := 10) dX3_init_5 (by decide) ?_
  refine r_newI (N := 10) dX3_init_7 (by decide +kernel) (by decide +kernel) (by decide +kernel) (by decide) (Nat.le_of_ble_eq_true rfl) (Nat.le_of_ble_eq_true rfl) (fun p1 hp1 => ?_)
  obtain ⟨np1, hp1⟩ := kup_none hp1
  refine r_putF (C := RX3) (ref := "Castdesk") (ty := .array .int) dX3_init_9 hinX3_init tyX3 tyX3_ok nmX3 (by rw [kup_n _ _ (Ne.symm np1)]; exact kup_s _ _ _) rfl 0 (by decide) (by decide +kernel : Cond.fieldLink RX3 9 "Castdesk" "ranks" "[I" ∈ wsX3_init) rfl rfl (hini rfl) rfl (by decide +kernel) rfl rfl (Nat.le_of_ble_eq_true rfl) ?_
  rw [kup3 _ (Ne.symm np1)]
  dsimp only [List.set]
  refine r_aload_n dX3_init_12 0 rfl ?_
  refine r_bipush (v := 10) dX3_init_13 (by decide) ?_
  refine r_newI (N := 10) dX3_init_15 (by decide +kernel) (by decide +kernel) (by decide +kernel) (by decide) (Nat.le_of_ble_eq_true rfl) (Nat.le_of_ble_eq_true rfl) (fun p2 hp2 => ?_)
  obtain ⟨np2, hp2⟩ := kup_none hp2
  refine r_putF (C := RX3) (ref := "Castdesk") (ty := .array .int) dX3_init_17 hinX3_init tyX3 tyX3_ok nmX3 (by rw [kup_n _ _ (Ne.symm np2)]; exact kup_s _ _ _) rfl 1 (by decide) (by decide +kernel : Cond.fieldLink RX3 13 "Castdesk" "wins" "[I" ∈ wsX3_init) rfl rfl (hini rfl) rfl (by decide +kernel) rfl rfl (Nat.le_of_ble_eq_true rfl) ?_
  rw [kup3 _ (Ne.symm np2)]
  dsimp only [List.set]
  refine r_aload_n dX3_init_20 0 rfl ?_
  refine r_new (C := RJx4a65c) (T := TJx4a65c) (N := 3) (ci := 5) (fs := [.int 0, .null, .int 0]) dX3_init_21 (by decide +kernel : ∀ w ∈ u_ws RJx4a65c TJx4a65c 3, w ∈ wsX3_init) tyJx4a65c tyJx4a65c_ok (by decide +kernel : Cond.classLink RX3 16 RJx4a65c ∈ wsX3_init) (by decide +kernel) (by decide +kernel) rfl (by decide +kernel) (Nat.le_of_ble_eq_true rfl) (Nat.le_of_ble_eq_true rfl) (fun p3 hp3 => ?_)
  refine r_dup dX3_init_24 rfl ?_
  refine r_callIv (nn := 0) (As := []) (st := [.ref p3, .ref q]) dX3_init_25 (tJx4a65c_init_da8c8 p3 (kup_s _ _ _)) gX3_init_Jx4a65c_init_da8c8 (by decide +kernel) (by decide +kernel) (by decide +kernel) rfl rfl (by decide +kernel) ⟨Nat.le_of_ble_eq_true rfl, Nat.le_of_ble_eq_true rfl⟩ ⟨rfl, rfl⟩ rfl (Nat.le_of_ble_eq_true rfl) ⟨Nat.le_of_ble_eq_true rfl, Nat.le_of_ble_eq_true rfl⟩ rfl (fun hh hp => ?_)
  rw [kup_kup] at hp
  subst hp
  obtain ⟨np3, hp3⟩ := kup_none hp3
  refine r_putF (C := RX3) (ref := "Castdesk") (ty := .object "java/util/ArrayList") dX3_init_28 hinX3_init tyX3 tyX3_ok nmX3 (by rw [kup_n _ _ (Ne.symm np3)]; exact kup_s _ _ _) rfl 2 (by decide) (by decide +kernel : Cond.fieldLink RX3 19 "Castdesk" "fights" "Ljava/util/ArrayList;" ∈ wsX3_init) rfl rfl (hini rfl) rfl (by decide +kernel) rfl rfl (Nat.le_of_ble_eq_true rfl) ?_
  rw [kup3 _ (Ne.symm np3)]
  dsimp only [List.set]
  refine r_aload_n dX3_init_31 0 rfl ?_
  refine r_new (C := RJx4a65c) (T := TJx4a65c) (N := 3) (ci := 5) (fs := [.int 0, .null, .int 0]) dX3_init_32 (by decide +kernel : ∀ w ∈ u_ws RJx4a65c TJx4a65c 3, w ∈ wsX3_init) tyJx4a65c tyJx4a65c_ok (by decide +kernel : Cond.classLink RX3 16 RJx4a65c ∈ wsX3_init) (by decide +kernel) (by decide +kernel) rfl (by decide +kernel) (Nat.le_of_ble_eq_true rfl) (Nat.le_of_ble_eq_true rfl) (fun p4 hp4 => ?_)
  refine r_dup dX3_init_35 rfl ?_
  refine r_callIv (nn := 0) (As := []) (st := [.ref p4, .ref q]) dX3_init_36 (tJx4a65c_init_da8c8 p4 (kup_s _ _ _)) gX3_init_Jx4a65c_init_da8c8 (by decide +kernel) (by decide +kernel) (by decide +kernel) rfl rfl (by decide +kernel) ⟨Nat.le_of_ble_eq_true rfl, Nat.le_of_ble_eq_true rfl⟩ ⟨rfl, rfl⟩ rfl (Nat.le_of_ble_eq_true rfl) ⟨Nat.le_of_ble_eq_true rfl, Nat.le_of_ble_eq_true rfl⟩ rfl (fun hh hp => ?_)
  rw [kup_kup] at hp
  subst hp
  obtain ⟨np4, hp4⟩ := kup_none hp4
  refine r_putF (C := RX3) (ref := "Castdesk") (ty := .object "java/util/ArrayList") dX3_init_39 hinX3_init tyX3 tyX3_ok nmX3 (by rw [kup_n _ _ (Ne.symm np4)]; exact kup_s _ _ _) rfl 3 (by decide) (by decide +kernel : Cond.fieldLink RX3 23 "Castdesk" "cameras" "Ljava/util/ArrayList;" ∈ wsX3_init) rfl rfl (hini rfl) rfl (by decide +kernel) rfl rfl (Nat.le_of_ble_eq_true rfl) ?_
  rw [kup3 _ (Ne.symm np4)]
  dsimp only [List.set]
  refine r_aload_n dX3_init_42 0 rfl ?_
  refine r_new (C := RJx4a65c) (T := TJx4a65c) (N := 3) (ci := 5) (fs := [.int 0, .null, .int 0]) dX3_init_43 (by decide +kernel : ∀ w ∈ u_ws RJx4a65c TJx4a65c 3, w ∈ wsX3_init) tyJx4a65c tyJx4a65c_ok (by decide +kernel : Cond.classLink RX3 16 RJx4a65c ∈ wsX3_init) (by decide +kernel) (by decide +kernel) rfl (by decide +kernel) (Nat.le_of_ble_eq_true rfl) (Nat.le_of_ble_eq_true rfl) (fun p5 hp5 => ?_)
  refine r_dup dX3_init_46 rfl ?_
  refine r_callIv (nn := 0) (As := []) (st := [.ref p5, .ref q]) dX3_init_47 (tJx4a65c_init_da8c8 p5 (kup_s _ _ _)) gX3_init_Jx4a65c_init_da8c8 (by decide +kernel) (by decide +kernel) (by decide +kernel) rfl rfl (by decide +kernel) ⟨Nat.le_of_ble_eq_true rfl, Nat.le_of_ble_eq_true rfl⟩ ⟨rfl, rfl⟩ rfl (Nat.le_of_ble_eq_true rfl) ⟨Nat.le_of_ble_eq_true rfl, Nat.le_of_ble_eq_true rfl⟩ rfl (fun hh hp => ?_)
  rw [kup_kup] at hp
  subst hp
  obtain ⟨np5, hp5⟩ := kup_none hp5
  refine r_putF (C := RX3) (ref := "Castdesk") (ty := .object "java/util/ArrayList") dX3_init_50 hinX3_init tyX3 tyX3_ok nmX3 (by rw [kup_n _ _ (Ne.symm np5)]; exact kup_s _ _ _) rfl 4 (by decide) (by decide +kernel : Cond.fieldLink RX3 26 "Castdesk" "entries" "Ljava/util/ArrayList;" ∈ wsX3_init) rfl rfl (hini rfl) rfl (by decide +kernel) rfl rfl (Nat.le_of_ble_eq_true rfl) ?_
  rw [kup3 _ (Ne.symm np5)]
  dsimp only [List.set]
  refine r_aload_n dX3_init_53 0 rfl ?_
  refine r_bipush (v := 6) dX3_init_54 (by decide) ?_
  refine r_newI (N := 6) dX3_init_56 (by decide +kernel) (by decide +kernel) (by decide +kernel) (by decide) (Nat.le_of_ble_eq_true rfl) (Nat.le_of_ble_eq_true rfl) (fun p6 hp6 => ?_)
  obtain ⟨np6, hp6⟩ := kup_none hp6
  refine r_putF (C := RX3) (ref := "Castdesk") (ty := .array .int) dX3_init_58 hinX3_init tyX3 tyX3_ok nmX3 (by rw [kup_n _ _ (Ne.symm np6)]; exact kup_s _ _ _) rfl 5 (by decide) (by decide +kernel : Cond.fieldLink RX3 29 "Castdesk" "promised" "[I" ∈ wsX3_init) rfl rfl (hini rfl) rfl (by decide +kernel) rfl rfl (Nat.le_of_ble_eq_true rfl) ?_
  rw [kup3 _ (Ne.symm np6)]
  dsimp only [List.set]
  refine r_aload_n dX3_init_61 0 rfl ?_
  refine r_bipush (v := 6) dX3_init_62 (by decide) ?_
  refine r_newI (N := 6) dX3_init_64 (by decide +kernel) (by decide +kernel) (by decide +kernel) (by decide) (Nat.le_of_ble_eq_true rfl) (Nat.le_of_ble_eq_true rfl) (fun p7 hp7 => ?_)
  obtain ⟨np7, hp7⟩ := kup_none hp7
  refine r_putF (C := RX3) (ref := "Castdesk") (ty := .array .int) dX3_init_66 hinX3_init tyX3 tyX3_ok nmX3 (by rw [kup_n _ _ (Ne.symm np7)]; exact kup_s _ _ _) rfl 6 (by decide) (by decide +kernel : Cond.fieldLink RX3 32 "Castdesk" "countedFrames" "[I" ∈ wsX3_init) rfl rfl (hini rfl) rfl (by decide +kernel) rfl rfl (Nat.le_of_ble_eq_true rfl) ?_
  rw [kup3 _ (Ne.symm np7)]
  dsimp only [List.set]
  refine r_aload_n dX3_init_69 0 rfl ?_
  refine r_bipush (v := 6) dX3_init_70 (by decide) ?_
  refine r_newI (N := 6) dX3_init_72 (by decide +kernel) (by decide +kernel) (by decide +kernel) (by decide) (Nat.le_of_ble_eq_true rfl) (Nat.le_of_ble_eq_true rfl) (fun p8 hp8 => ?_)
  obtain ⟨np8, hp8⟩ := kup_none hp8
  refine r_putF (C := RX3) (ref := "Castdesk") (ty := .array .int) dX3_init_74 hinX3_init tyX3 tyX3_ok nmX3 (by rw [kup_n _ _ (Ne.symm np8)]; exact kup_s _ _ _) rfl 7 (by decide) (by decide +kernel : Cond.fieldLink RX3 35 "Castdesk" "slotPlayers" "[I" ∈ wsX3_init) rfl rfl (hini rfl) rfl (by decide +kernel) rfl rfl (Nat.le_of_ble_eq_true rfl) ?_
  rw [kup3 _ (Ne.symm np8)]
  dsimp only [List.set]
  refine r_aload_n dX3_init_77 0 rfl ?_
  refine r_bipush (v := 10) dX3_init_78 (by decide) ?_
  refine r_put (C := RX3) (ref := "Castdesk") (ty := .int) dX3_init_80 hinX3_init tyX3 tyX3_ok nmX3 (kup_s _ _ _) rfl 10 (by decide) (by decide +kernel : Cond.fieldLink RX3 38 "Castdesk" "delayFrames" "I" ∈ wsX3_init) rfl rfl (by decide +kernel) rfl rfl (Nat.le_of_ble_eq_true rfl) ?_
  rw [kup_kup]
  dsimp only [List.set]
  refine r_aload_n dX3_init_83 0 rfl ?_
  refine r_iconst (v := (-1)) dX3_init_84 (by decide) ?_
  refine r_put (C := RX3) (ref := "Castdesk") (ty := .int) dX3_init_85 hinX3_init tyX3 tyX3_ok nmX3 (kup_s _ _ _) rfl 11 (by decide) (by decide +kernel : Cond.fieldLink RX3 42 "Castdesk" "seenUpTo" "I" ∈ wsX3_init) rfl rfl (by decide +kernel) rfl rfl (Nat.le_of_ble_eq_true rfl) ?_
  rw [kup_kup]
  dsimp only [List.set]
  refine r_aload_n dX3_init_88 0 rfl ?_
  refine r_sipush (v := 3000) dX3_init_89 (by decide) ?_
  refine r_newI (N := 3000) dX3_init_92 (by decide +kernel) (by decide +kernel) (by decide +kernel) (by decide) (Nat.le_of_ble_eq_true rfl) (Nat.le_of_ble_eq_true rfl) (fun p9 hp9 => ?_)
  obtain ⟨np9, hp9⟩ := kup_none hp9
  refine r_putF (C := RX3) (ref := "Castdesk") (ty := .array .int) dX3_init_94 hinX3_init tyX3 tyX3_ok nmX3 (by rw [kup_n _ _ (Ne.symm np9)]; exact kup_s _ _ _) rfl 12 (by decide) (by decide +kernel : Cond.fieldLink RX3 45 "Castdesk" "shownFight" "[I" ∈ wsX3_init) rfl rfl (hini rfl) rfl (by decide +kernel) rfl rfl (Nat.le_of_ble_eq_true rfl) ?_
  rw [kup3 _ (Ne.symm np9)]
  dsimp only [List.set]
  refine r_aload_n dX3_init_97 0 rfl ?_
  refine r_sipush (v := 3000) dX3_init_98 (by decide) ?_
  refine r_newI (N := 3000) dX3_init_101 (by decide +kernel) (by decide +kernel) (by decide +kernel) (by decide) (Nat.le_of_ble_eq_true rfl) (Nat.le_of_ble_eq_true rfl) (fun p10 hp10 => ?_)
  obtain ⟨np10, hp10⟩ := kup_none hp10
  refine r_putF (C := RX3) (ref := "Castdesk") (ty := .array .int) dX3_init_103 hinX3_init tyX3 tyX3_ok nmX3 (by rw [kup_n _ _ (Ne.symm np10)]; exact kup_s _ _ _) rfl 13 (by decide) (by decide +kernel : Cond.fieldLink RX3 48 "Castdesk" "shownCamera" "[I" ∈ wsX3_init) rfl rfl (hini rfl) rfl (by decide +kernel) rfl rfl (Nat.le_of_ble_eq_true rfl) ?_
  rw [kup3 _ (Ne.symm np10)]
  dsimp only [List.set]
  refine r_aload_n dX3_init_106 0 rfl ?_
  refine r_sipush (v := 3000) dX3_init_107 (by decide) ?_
  refine r_newI (N := 3000) dX3_init_110 (by decide +kernel) (by decide +kernel) (by decide +kernel) (by decide) (Nat.le_of_ble_eq_true rfl) (Nat.le_of_ble_eq_true rfl) (fun p11 hp11 => ?_)
  obtain ⟨np11, hp11⟩ := kup_none hp11
  refine r_putF (C := RX3) (ref := "Castdesk") (ty := .array .int) dX3_init_112 hinX3_init tyX3 tyX3_ok nmX3 (by rw [kup_n _ _ (Ne.symm np11)]; exact kup_s _ _ _) rfl 14 (by decide) (by decide +kernel : Cond.fieldLink RX3 51 "Castdesk" "shownSponsor" "[I" ∈ wsX3_init) rfl rfl (hini rfl) rfl (by decide +kernel) rfl rfl (Nat.le_of_ble_eq_true rfl) ?_
  rw [kup3 _ (Ne.symm np11)]
  dsimp only [List.set]
  have hok : kchOk [p11, p10, p9, p8, p7, p6, p5, p4, p3, p2, p1] [.inl (kI E, 3000, .inl (fun _ => 0)), .inl (kI E, 3000, .inl (fun _ => 0)), .inl (kI E, 3000, .inl (fun _ => 0)), .inl (kI E, 6, .inl (fun _ => 0)), .inl (kI E, 6, .inl (fun _ => 0)), .inl (kI E, 6, .inl (fun _ => 0)), .inr (5, [.int 0, .ref (kN E), .int 0]), .inr (5, [.int 0, .ref (kN E), .int 0]), .inr (5, [.int 0, .ref (kN E), .int 0]), .inl (kI E, 10, .inl (fun _ => 0)), .inl (kI E, 10, .inl (fun _ => 0))] h0 := (kchOk_cons (kchOk_cons (kchOk_cons (kchOk_cons (kchOk_cons (kchOk_cons (kchOk_cons (kchOk_cons (kchOk_cons (kchOk_cons (kchOk_cons (kchOk_nil h0) hp1) hp2) hp3) hp4) hp5) hp6) hp7) hp8) hp9) hp10) hp11)
  have hqn : kch [p11, p10, p9, p8, p7, p6, p5, p4, p3, p2, p1] [.inl (kI E, 3000, .inl (fun _ => 0)), .inl (kI E, 3000, .inl (fun _ => 0)), .inl (kI E, 3000, .inl (fun _ => 0)), .inl (kI E, 6, .inl (fun _ => 0)), .inl (kI E, 6, .inl (fun _ => 0)), .inl (kI E, 6, .inl (fun _ => 0)), .inr (5, [.int 0, .ref (kN E), .int 0]), .inr (5, [.int 0, .ref (kN E), .int 0]), .inr (5, [.int 0, .ref (kN E), .int 0]), .inl (kI E, 10, .inl (fun _ => 0)), .inl (kI E, 10, .inl (fun _ => 0))] h0 q = none := by
    simp only [kch]
    rw [kup_n _ _ (Ne.symm np11), kup_n _ _ (Ne.symm np10), kup_n _ _ (Ne.symm np9), kup_n _ _ (Ne.symm np8), kup_n _ _ (Ne.symm np7), kup_n _ _ (Ne.symm np6), kup_n _ _ (Ne.symm np5), kup_n _ _ (Ne.symm np4), kup_n _ _ (Ne.symm np3), kup_n _ _ (Ne.symm np2), kup_n _ _ (Ne.symm np1)]
    exact hq0
  have hok2 : kchOk (q :: [p11, p10, p9, p8, p7, p6, p5, p4, p3, p2, p1]) ((.inr (3, [.ref p1, .ref p2, .ref p3, .ref p4, .ref p5, .ref p6, .ref p7, .ref p8, .int 0, .int 0, .int 10, .int (-1), .ref p9, .ref p10, .ref p11])) :: [.inl (kI E, 3000, .inl (fun _ => 0)), .inl (kI E, 3000, .inl (fun _ => 0)), .inl (kI E, 3000, .inl (fun _ => 0)), .inl (kI E, 6, .inl (fun _ => 0)), .inl (kI E, 6, .inl (fun _ => 0)), .inl (kI E, 6, .inl (fun _ => 0)), .inr (5, [.int 0, .ref (kN E), .int 0]), .inr (5, [.int 0, .ref (kN E), .int 0]), .inr (5, [.int 0, .ref (kN E), .int 0]), .inl (kI E, 10, .inl (fun _ => 0)), .inl (kI E, 10, .inl (fun _ => 0))]) h0 := kchOk_cons hok hqn
  have hz := dw_init (E := E) (e0 := .inr (0, [])) hok2 rfl (fun k hk => by
    have hk2 : k = 0 ∨ k = 1 ∨ k = 2 ∨ k = 3 ∨ k = 4 ∨ k = 5 ∨ k = 6 ∨ k = 7 ∨ k = 12 ∨ k = 13 ∨ k = 14 ∨ k = 15 := by omega
    rcases hk2 with rfl | rfl | rfl | rfl | rfl | rfl | rfl | rfl | rfl | rfl | rfl | rfl <;> rfl)
  exact kret _ _ _ _ _ (Nat.le_of_ble_eq_true rfl) (Nat.le_of_ble_eq_true rfl) dX3_init_115 ⟨_, rfl, hz.1, hz.2⟩

