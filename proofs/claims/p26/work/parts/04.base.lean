/-! MY LAYER: the heap as a map from addresses to contents, one judgement V of a walk, rows over it -/
abbrev kH : Type := Nat → Option va_E
def kup (h : kH) (a : Nat) (e : va_E) : kH := fun q => if q = a then some e else h q
theorem kup_s (h : kH) (a : Nat) (e : va_E) : kup h a e a = some e := by simp [kup]
theorem kup_n (h : kH) {a b : Nat} (e : va_E) (n : b ≠ a) : kup h a e b = h b := by simp [kup, n]
theorem kup_kup (h : kH) (a : Nat) (e e2 : va_E) : kup (kup h a e) a e2 = kup h a e2 := by
  funext q
  by_cases c : q = a <;> simp [kup, c]
abbrev kcl : List vw_C := [(RX0, TX0, 4), (RX1, TX1, 5), (RX2, TX2, 7), (RX3, TX3, 15), (RX3, TX3, 15), (RJx4a65c, TJx4a65c, 3)]
/-- classes by number; the array classes of int, boolean, Object, long; the address of ArrayList's empty array -/
abbrev kE : Type := va_G × ClassId × ClassId × ClassId × ClassId × Nat × Nat
abbrev kI (E : kE) : ClassId := E.2.1
abbrev kZ (E : kE) : ClassId := E.2.2.1
abbrev kO (E : kE) : ClassId := E.2.2.2.1
abbrev kJ (E : kE) : ClassId := E.2.2.2.2.1
abbrev kN (E : kE) : Nat := E.2.2.2.2.2.1
abbrev kMi (E : kE) : Nat := E.2.2.2.2.2.2
abbrev ktys (E : kE) : List (ClassId × FieldType) := [(kI E, .int), (kI E, .int), (kO E, .object "java/lang/Object"), (kI E, .int)]
def kWd (E : kE) (h : kH) (H : Heap) : Prop := ∀ a e, h a = some e → va_at E.1 kcl (a, e) H
def kA (h : kH) (sz : Nat) : Nat → Prop := fun q => h q ≠ none ∨ sz ≤ q
def kStr : List (Nat × String) := [(215, "no such player"), (219, "out of range"), (64, "a fight is of two players"), (229, "there are 20 fights"), (231, "one of both is in a fight that goes on"), (233, "no such fight"), (221, "the fight does not go on"), (108, "the fight is not over"), (121, "there are 6 cameras"), (134, "the frame would be above 3000"), (143, "the player is none of both"), (145, "there are 80 entries"), (235, "no such entry"), (227, "the entry is struck, or its fight does not go on"), (217, "no such sponsor"), (173, "there is such a slot"), (178, "there are 12 slots"), (182, "no such frame has passed"), (185, "what is 0 to 2"), (190, "what is 0 to 4"), (192, "no such camera"), (204, "what is 0 or 1"), (210, "no such place")]
def kCast : List (String × String) := [("java/lang/IndexOutOfBoundsException", "java/lang/IndexOutOfBoundsException"), ("java/lang/IllegalArgumentException", "java/lang/IllegalArgumentException"), ("java/lang/IllegalStateException", "java/lang/IllegalStateException"), (RX0, "java/lang/Object"), (RX1, "java/lang/Object"), (RX2, "java/lang/Object")]
def kDecl : List MethodName := [⟨"java/lang/RuntimeException", "<init>", "(Ljava/lang/String;)V"⟩, ⟨"java/lang/Exception", "<init>", "(Ljava/lang/String;)V"⟩, ⟨"java/lang/Throwable", "<init>", "(Ljava/lang/String;)V"⟩]
def kNcs : List (String × String) := [("java/lang/IllegalArgumentException", "java/lang/IndexOutOfBoundsException"), ("java/lang/IllegalStateException", "java/lang/IndexOutOfBoundsException"), ("java/lang/IllegalStateException", "java/lang/IllegalArgumentException"), ("java/lang/IndexOutOfBoundsException", "java/lang/IllegalArgumentException"), ("java/lang/IndexOutOfBoundsException", "java/lang/IllegalStateException"), ("java/lang/IllegalArgumentException", "java/lang/IllegalStateException")]
/-- what a state has of the tables: classes, words -/
def kT (E : kE) (U : State) : Prop := va_K E.1 kcl (ktys E) U ∧ (∀ q ∈ kStr, ∃ sa, vk_R RX3 q.1 q.2 sa U) ∧ (∀ q ∈ kCast, va_Nw (.castable q.1 q.2) U) ∧ (∀ y ∈ kDecl, va_Nw (.declares y) U) ∧ (∀ q ∈ kNcs, va_Nc q.1 q.2 U) ∧ va_AO "java/lang/Object" U ∧ va_Mi "[Ljava/lang/Object;" (kMi E) U ∧ va_Dc U
/-- .. and of statics, that no cell of A is -/
def kZs (E : kE) (A : Nat → Prop) (U : State) (H : Heap) : Prop := vx_Zq Bundle.tN "UNASSIGNED_STACK" Bundle.steD A U H ∧ vx_Zq Bundle.tN "SUPPRESSED_SENTINEL" Bundle.listD A U H ∧ va_Z RJx4a65c "DEFAULTCAPACITY_EMPTY_ELEMENTDATA" "[Ljava/lang/Object;" (.ref (kN E)) A U H ∧ va_T (.object "java/lang/Object") (kN E) 0 (fun _ => .null) A U H
theorem kT_warm {E : kE} {s U : State} (hW : s.WarmedH U.vm) (h : kT E s) : kT E U := by
  obtain ⟨h1, h2, h3, h4, h5, h6, h7, h8⟩ := h
  refine ⟨va_K.moved hW.alike h1, fun q hq => ?_, fun q hq => va_Nw.warmC hW (h3 q hq), fun q hq => va_Nw.warmD hW (h4 q hq), fun q hq => va_Nc.moved hW.alike (h5 q hq), va_AO.moved hW.alike h6, va_Mi.moved hW.alike h7, va_Dc.moved hW.alike h8⟩
  · obtain ⟨sa, h⟩ := h2 q hq
    exact ⟨sa, h.warm hW⟩
theorem kT_same {E : kE} {s U : State} (hv : U.vm = s.vm) (h : kT E s) : kT E U := by
  obtain ⟨h1, h2, h3, h4, h5, h6, h7, h8⟩ := h
  have ha : s.vm.Alike U.vm := by rw [hv]; exact Vm.Alike.refl s.vm
  refine ⟨va_K.moved ha h1, fun q hq => ?_, fun q hq => va_Nw.same rfl hv.symm (h3 q hq), fun q hq => va_Nw.same rfl hv.symm (h4 q hq), fun q hq => va_Nc.moved ha (h5 q hq), va_AO.moved ha h6, va_Mi.moved ha h7, va_Dc.moved ha h8⟩
  · obtain ⟨sa, h⟩ := h2 q hq
    exact ⟨sa, h.same hv⟩
theorem kZs_moved {E : kE} {A : Nat → Prop} {u U : State} {H : Heap} (hvm : u.vm.Alike U.vm) (h : kZs E A u H) : kZs E A U H := ⟨vx_Zq.moved hvm h.1, vx_Zq.moved hvm h.2.1, va_Z.moved hvm h.2.2.1, va_T.moved hvm h.2.2.2⟩
theorem kZs_kept {E : kE} {A : Nat → Prop} {U : State} {H H1 : Heap} (h : kZs E A U H) (hq : ∀ a : Nat, a < H.size → ¬ A a → H1[a]? = H[a]?) : kZs E A U H1 := ⟨h.1.kept hq, h.2.1.kept hq, h.2.2.1.kept hq, h.2.2.2.kept hq⟩
theorem kZs_narrow {E : kE} {A B : Nat → Prop} {U : State} {H : Heap} (h : kZs E A U H) (hAB : ∀ q, B q → A q) : kZs E B U H := ⟨h.1.narrow hAB, h.2.1.narrow hAB, h.2.2.1.narrow hAB, h.2.2.2.narrow hAB⟩
abbrev kX : Type := (Program × Launch × Env × State × MethodId × Array Value × List Frame × Method × Code) × (State → Prop) × (Nat → Prop) × List ExceptionTableEntry
/-- the walk's judgement: from every heap that holds the map h, with the locals lo and the stack st, the machine at pc comes to the end -/
def V (E : kE) (X : kX) (R : Room) (cc : ByteArray) (nL : Nat) (Ts : List Cond) (own : String) (k n : Nat) (h : kH) (lo : List (Nat × Value)) (pc : Nat) (st : List Value) : Prop :=
  match X with
  | ((p, l, e, s, m, args, below, meth, c), Q, A, tb) =>
    CallFix p m c cc nL s args Ts own → (meth.locks = false ∧ l.stackTraces = false ∧ c.exceptionTable.toList = tb) → (∀ q, s.heap.size ≤ q → A q) → (kT E s ∧ kZs E A s s.heap) → ∀ (H : Heap) (locs : List Loc) (ls : Array Slot), kWd E h H → (∀ q z, h q = some z → A q) → va_S A s.heap H locs → lv_has ls nL lo → W p l e R s m args below meth c H locs k n Q (F0 m pc ls st)
/-- the same, with an exception of the class named Ec thrown at pc -/
def VX (E : kE) (X : kX) (R : Room) (cc : ByteArray) (nL : Nat) (Ts : List Cond) (own : String) (k n : Nat) (h : kH) (lo : List (Nat × Value)) (pc : Nat) (Ec : String) : Prop :=
  match X with
  | ((p, l, e, s, m, args, below, meth, c), Q, A, tb) =>
    CallFix p m c cc nL s args Ts own → (meth.locks = false ∧ l.stackTraces = false ∧ c.exceptionTable.toList = tb) → (∀ q, s.heap.size ≤ q → A q) → (kT E s ∧ kZs E A s s.heap) → ∀ (H : Heap) (locs : List Loc) (ls : Array Slot) (st : List Value) (ce : Cell) (q9 : Addr), kWd E h H → (∀ q z, h q = some z → A q) → va_S A s.heap H locs → lv_has ls nL lo → H[q9]? = some ce → ce.vm = .none → s.vm.findClass Ec = some ce.cls → vx_W p l e R s m args below meth c H locs k n Q (F0 m pc ls st) q9
theorem kWd_P {E : kE} {h : kH} {H : Heap} {a : Nat} {e : va_E} (hW : kWd E h H) (ha : h a = some e) : va_P E.1 kcl [(a, e)] H := by
  intro k q hk
  match k with
  | 0 => cases hk; exact hW a e ha
  | k + 1 => simp at hk
theorem kWd_lt {E : kE} {h : kH} {H : Heap} {a : Nat} {e : va_E} (hW : kWd E h H) (ha : h a = some e) : a < H.size := va_at.lt (hW a e ha)
theorem kWd_up {E : kE} {h : kH} {H H1 : Heap} {a : Nat} {e : va_E} (hW : kWd E h H) (he : va_at E.1 kcl (a, e) H1) (oq : ∀ q : Nat, q ≠ a → H1[q]? = H[q]?) : kWd E (kup h a e) H1 := by
  intro b z hz
  by_cases c : b = a
  · subst c
    rw [kup_s] at hz
    cases hz
    exact he
  · rw [kup_n h e c] at hz
    exact va_at.kept (hW b z hz) (oq b c)
theorem kdom_up {A : Nat → Prop} {h : kH} {a : Nat} {e : va_E} (hd : ∀ q z, h q = some z → A q) (ha : A a) : ∀ q z, kup h a e q = some z → A q := by
  intro q z hz
  by_cases c : q = a
  · rw [c]; exact ha
  · rw [kup_n h e c] at hz
    exact hd q z hz
theorem kWd_fresh {E : kE} {h : kH} {H : Heap} (hW : kWd E h H) : h H.size = none := by
  cases c : h H.size with
  | none => rfl
  | some e => exact absurd (kWd_lt hW c) (Nat.lt_irrefl _)
/-- all cells of the map, as the kit's list -/
def kL (h : kH) (N : Nat) : va_W := (List.range N).filterMap (fun q => (h q).map (fun e => (q, e)))
theorem kL_mem {h : kH} {N : Nat} {p : Nat × va_E} : p ∈ kL h N ↔ p.1 < N ∧ h p.1 = some p.2 := by
  unfold kL
  rw [List.mem_filterMap]
  constructor
  · rintro ⟨q, hq, hp⟩
    rw [Option.map_eq_some_iff] at hp
    obtain ⟨e, he, rfl⟩ := hp
    exact ⟨List.mem_range.mp hq, he⟩
  · rintro ⟨h1, h2⟩
    exact ⟨p.1, List.mem_range.mpr h1, by rw [h2]; rfl⟩
theorem kL_nodup (h : kH) (N : Nat) : ((kL h N).map Prod.fst).Nodup := by
  induction N with
  | zero => simp [kL]
  | succ N ih =>
    have e1 : kL h (N + 1) = kL h N ++ ((h N).map (fun e => (N, e))).toList := by
      unfold kL
      rw [List.range_succ, List.filterMap_append]
      cases c : h N <;> simp [c]
    rw [e1, List.map_append]
    refine List.nodup_append.mpr ⟨ih, ?_, ?_⟩
    · cases h N <;> simp
    · intro a ha b hb hab
      obtain ⟨p, hp, rfl⟩ := List.mem_map.mp ha
      have h1 := (kL_mem.mp hp).1
      cases c : h N with
      | none => simp [c] at hb
      | some e =>
        simp [c] at hb
        omega
theorem kL_inj {h : kH} {N i j : Nat} {p q : Nat × va_E} (hi : (kL h N)[i]? = some p) (hj : (kL h N)[j]? = some q) (e : p.1 = q.1) : i = j := by
  have hn := kL_nodup h N
  have h1 : ((kL h N).map Prod.fst)[i]? = some p.1 := by rw [List.getElem?_map, hi]; rfl
  have h2 : ((kL h N).map Prod.fst)[j]? = some p.1 := by rw [List.getElem?_map, hj, e]; rfl
  obtain ⟨l1, g1⟩ := List.getElem?_eq_some_iff.mp h1
  obtain ⟨l2, g2⟩ := List.getElem?_eq_some_iff.mp h2
  exact (List.getElem_inj hn).mp (g1.trans g2.symm)
theorem kL_P {E : kE} {h : kH} {H : Heap} (hW : kWd E h H) : va_P E.1 kcl (kL h H.size) H := by
  intro k q hk
  have h1 := kL_mem.mp (List.mem_of_getElem? hk)
  exact hW q.1 q.2 h1.2
theorem kL_D {A : Nat → Prop} {h : kH} {N : Nat} (hd : ∀ q z, h q = some z → A q) : va_D A (kL h N) := ⟨fun _ _ _ _ hi hj e => kL_inj hi hj e, fun k q hk => hd q.1 q.2 (kL_mem.mp (List.mem_of_getElem? hk)).2⟩
theorem kL_at {E : kE} {h : kH} {H : Heap} {a : Nat} {e : va_E} (hW : kWd E h H) (ha : h a = some e) : ∃ q0 : Nat, (kL h H.size)[q0]? = some (a, e) := List.getElem?_of_mem (kL_mem.mpr ⟨kWd_lt hW ha, ha⟩)
theorem kWd_set {E : kE} {h : kH} {H H1 : Heap} {a q0 : Nat} {e0 e : va_E} (hW : kWd E h H) (hq : (kL h H.size)[q0]? = some (a, e0)) (hP : va_P E.1 kcl ((kL h H.size).set q0 (a, e)) H1) : kWd E (kup h a e) H1 := by
  have hl := (List.getElem?_eq_some_iff.mp hq).1
  intro b z hz
  by_cases c : b = a
  · subst c
    rw [kup_s] at hz
    cases hz
    exact hP q0 (b, e) (by rw [List.getElem?_set_self hl])
  · rw [kup_n h e c] at hz
    obtain ⟨i, hi⟩ := kL_at hW hz
    have hne : q0 ≠ i := fun x => by
      subst x
      rw [hq] at hi
      cases hi
      exact c rfl
    exact hP i (b, z) (by rw [List.getElem?_set_ne hne]; exact hi)
theorem kWd_app {E : kE} {h : kH} {H H1 : Heap} {A : Nat → Prop} {a : Nat} {e : va_E} (hW : kWd E h H) (hP : va_P E.1 kcl (kL h H.size ++ [(a, e)]) H1) : kWd E (kup h a e) H1 := by
  intro b z hz
  by_cases c : b = a
  · subst c
    rw [kup_s] at hz
    cases hz
    exact hP (kL h H.size).length (b, e) (by rw [List.getElem?_append_right (Nat.le_refl _), Nat.sub_self]; rfl)
  · rw [kup_n h e c] at hz
    obtain ⟨i, hi⟩ := kL_at hW hz
    exact hP i (b, z) (by rw [List.getElem?_append_left (List.getElem?_eq_some_iff.mp hi).1]; exact hi)
theorem kfresh {E : kE} {h : kH} {H : Heap} {A : Nat → Prop} {a : Nat} {e : va_E} (hW : kWd E h H) (hD : va_D A (kL h H.size ++ [(a, e)])) : h a = none := by
  cases c : h a with
  | none => rfl
  | some z =>
    obtain ⟨i, hi⟩ := kL_at hW c
    have hl := (List.getElem?_eq_some_iff.mp hi).1
    have h1 := hD.1 i (kL h H.size).length (a, z) (a, e) (by rw [List.getElem?_append_left hl]; exact hi) (by rw [List.getElem?_append_right (Nat.le_refl _), Nat.sub_self]; rfl) rfl
    omega
/-- the method is a constructor -/
def kInit (X : kX) : Prop := X.1.2.2.2.2.2.2.2.1.name = "<init>"
section KR
variable {E : kE} {X : kX} {R : Room} {cc : ByteArray} {nL : Nat} {Ts : List Cond} {own : String} {k n : Nat} {h : kH} {lo lo' : List (Nat × Value)} {pc tgt : Nat} {st : List Value} {x y v : Int32} {off : Int}
theorem r_lo (ks : List Nat) (hl : lv_pick lo ks = lo') (kk : V E X R cc nL Ts own k n h lo' pc st) : V E X R cc nL Ts own k n h lo pc st := by
  obtain ⟨⟨p, l, e, s, m, args, below, meth, c⟩, Q, A, tb⟩ := X
  intro S hk hA hE H locs ls hW hd hS hs
  exact kk S hk hA hE H locs ls hW hd hS (lv_sub hs ks hl)
theorem r_topi (kk : ∀ y : Int32, y = x → V E X R cc nL Ts own k n h lo pc (.int y :: st)) : V E X R cc nL Ts own k n h lo pc (.int x :: st) := kk x rfl
theorem r_wid {k' n' : Nat} (h1 : k ≤ k') (h2 : n ≤ n') (kk : V E X R cc nL Ts own k' n' h lo pc st) : V E X R cc nL Ts own k n h lo pc st := by
  obtain ⟨⟨p, l, e, s, m, args, below, meth, c⟩, Q, A, tb⟩ := X
  intro S hk hA hE H locs ls hW hd hS hs
  exact W.widen h1 h2 (kk S hk hA hE H locs ls hW hd hS hs)
theorem rx_wid {Ec : String} {k' n' : Nat} (h1 : k ≤ k') (h2 : n ≤ n') (kk : VX E X R cc nL Ts own k' n' h lo pc Ec) : VX E X R cc nL Ts own k n h lo pc Ec := by
  obtain ⟨⟨p, l, e, s, m, args, below, meth, c⟩, Q, A, tb⟩ := X
  intro S hk hA hE H locs ls st ce q9 hW hd hS hs h1' h2' h3'
  exact vx_widen h1 h2 (kk S hk hA hE H locs ls st ce q9 hW hd hS hs h1' h2' h3')

theorem r_iconst {a : Int} (hd0 : decode cc pc = .ok (.iconst a, 1)) (hv : Int32.ofInt a = v) (kk : V E X R cc nL Ts own k n h lo (pc + 1) (.int v :: st)) : V E X R cc nL Ts own k n h lo pc (st) := by
  obtain ⟨⟨p, l, e, s, m, args, below, meth, c⟩, Q, A, tb⟩ := X
  intro S hk hA hE H locs ls hW hd hS hs
  exact lv_iconst S.1 S.2.1 hd0 hv (kk S hk hA hE H locs ls hW hd hS hs)

theorem r_bipush {a : Int} (hd0 : decode cc pc = .ok (.bipush a, 2)) (hv : (Int8.ofInt a).toInt32 = v) (kk : V E X R cc nL Ts own k n h lo (pc + 2) (.int v :: st)) : V E X R cc nL Ts own k n h lo pc (st) := by
  obtain ⟨⟨p, l, e, s, m, args, below, meth, c⟩, Q, A, tb⟩ := X
  intro S hk hA hE H locs ls hW hd hS hs
  exact lv_bipush S.1 S.2.1 hd0 hv (kk S hk hA hE H locs ls hW hd hS hs)

theorem r_sipush {a : Int} (hd0 : decode cc pc = .ok (.sipush a, 3)) (hv : (Int16.ofInt a).toInt32 = v) (kk : V E X R cc nL Ts own k n h lo (pc + 3) (.int v :: st)) : V E X R cc nL Ts own k n h lo pc (st) := by
  obtain ⟨⟨p, l, e, s, m, args, below, meth, c⟩, Q, A, tb⟩ := X
  intro S hk hA hE H locs ls hW hd hS hs
  exact lv_sipush S.1 S.2.1 hd0 hv (kk S hk hA hE H locs ls hW hd hS hs)

theorem r_ldc {i : Nat} (hd0 : decode cc pc = .ok (.ldc i, 2)) (hw : Cond.constant own i v ∈ Ts) (kk : V E X R cc nL Ts own k n h lo (pc + 2) (.int v :: st)) : V E X R cc nL Ts own k n h lo pc (st) := by
  obtain ⟨⟨p, l, e, s, m, args, below, meth, c⟩, Q, A, tb⟩ := X
  intro S hk hA hE H locs ls hW hd hS hs
  exact lv_ldc S.1 S.2.1 S.2.2.2.1 (S.2.2.2.2 _ hw) hd0 (kk S hk hA hE H locs ls hW hd hS hs)

theorem r_null (hd0 : decode cc pc = .ok (.aconst_null, 1))  (kk : V E X R cc nL Ts own k n h lo (pc + 1) (.null :: st)) : V E X R cc nL Ts own k n h lo pc (st) := by
  obtain ⟨⟨p, l, e, s, m, args, below, meth, c⟩, Q, A, tb⟩ := X
  intro S hk hA hE H locs ls hW hd hS hs
  exact lv_null S.1 S.2.1 hd0 (kk S hk hA hE H locs ls hW hd hS hs)

theorem r_iload_n {i : Fin 4} (hd0 : decode cc pc = .ok (.iload_n i, 1)) (j : Nat) (hj : lo[j]? = some ((i : Nat), .int x)) (kk : V E X R cc nL Ts own k n h lo (pc + 1) (.int x :: st)) : V E X R cc nL Ts own k n h lo pc (st) := by
  obtain ⟨⟨p, l, e, s, m, args, below, meth, c⟩, Q, A, tb⟩ := X
  intro S hk hA hE H locs ls hW hd hS hs
  exact lv_iload_n S.1 S.2.1 hd0 rfl (lv_at hs j hj) (kk S hk hA hE H locs ls hW hd hS hs)

theorem r_iload {i : Nat} (hd0 : decode cc pc = .ok (.iload i, 2)) (j : Nat) (hj : lo[j]? = some (i, .int x)) (kk : V E X R cc nL Ts own k n h lo (pc + 2) (.int x :: st)) : V E X R cc nL Ts own k n h lo pc (st) := by
  obtain ⟨⟨p, l, e, s, m, args, below, meth, c⟩, Q, A, tb⟩ := X
  intro S hk hA hE H locs ls hW hd hS hs
  exact lv_iload S.1 S.2.1 hd0 (lv_at hs j hj) (kk S hk hA hE H locs ls hW hd hS hs)

theorem r_aload_n {i : Fin 4} {a : Nat} (hd0 : decode cc pc = .ok (.aload_n i, 1)) (j : Nat) (hj : lo[j]? = some ((i : Nat), .ref a)) (kk : V E X R cc nL Ts own k n h lo (pc + 1) (.ref a :: st)) : V E X R cc nL Ts own k n h lo pc (st) := by
  obtain ⟨⟨p, l, e, s, m, args, below, meth, c⟩, Q, A, tb⟩ := X
  intro S hk hA hE H locs ls hW hd hS hs
  exact lv_aload_n S.1 S.2.1 hd0 rfl (lv_at hs j hj) (kk S hk hA hE H locs ls hW hd hS hs)

theorem r_aload {i : Nat} {a : Nat} (hd0 : decode cc pc = .ok (.aload i, 2)) (j : Nat) (hj : lo[j]? = some (i, .ref a)) (kk : V E X R cc nL Ts own k n h lo (pc + 2) (.ref a :: st)) : V E X R cc nL Ts own k n h lo pc (st) := by
  obtain ⟨⟨p, l, e, s, m, args, below, meth, c⟩, Q, A, tb⟩ := X
  intro S hk hA hE H locs ls hW hd hS hs
  exact lv_aload S.1 S.2.1 hd0 (lv_at hs j hj) (kk S hk hA hE H locs ls hW hd hS hs)

theorem r_aload_nN {i : Fin 4} (hd0 : decode cc pc = .ok (.aload_n i, 1)) (j : Nat) (hj : lo[j]? = some ((i : Nat), .null)) (kk : V E X R cc nL Ts own k n h lo (pc + 1) (.null :: st)) : V E X R cc nL Ts own k n h lo pc (st) := by
  obtain ⟨⟨p, l, e, s, m, args, below, meth, c⟩, Q, A, tb⟩ := X
  intro S hk hA hE H locs ls hW hd hS hs
  exact lv_aload_nN S.1 S.2.1 hd0 rfl (lv_at hs j hj) (kk S hk hA hE H locs ls hW hd hS hs)

theorem r_aloadN {i : Nat} (hd0 : decode cc pc = .ok (.aload i, 2)) (j : Nat) (hj : lo[j]? = some (i, .null)) (kk : V E X R cc nL Ts own k n h lo (pc + 2) (.null :: st)) : V E X R cc nL Ts own k n h lo pc (st) := by
  obtain ⟨⟨p, l, e, s, m, args, below, meth, c⟩, Q, A, tb⟩ := X
  intro S hk hA hE H locs ls hW hd hS hs
  exact lv_aloadN S.1 S.2.1 hd0 (lv_at hs j hj) (kk S hk hA hE H locs ls hW hd hS hs)

theorem r_istore_n {i : Fin 4} (hd0 : decode cc pc = .ok (.istore_n i, 1)) (hn : (i : Nat) < nL) (hl : ((i : Nat), Value.int x) :: lo.filter (fun q => !(q.1 == (i : Nat)) && !(q.1 + 1 == (i : Nat) && q.2.category == 2)) = lo') (kk : V E X R cc nL Ts own k n h lo' (pc + 1) (st)) : V E X R cc nL Ts own k n h lo pc (.int x :: st) := by
  obtain ⟨⟨p, l, e, s, m, args, below, meth, c⟩, Q, A, tb⟩ := X
  intro S hk hA hE H locs ls hW hd hS hs
  exact lv_istore_n S.1 S.2.1 hd0 rfl hs hn hl (fun ls' hs' => kk S hk hA hE H locs ls' hW hd hS hs')

theorem r_istore {i : Nat} (hd0 : decode cc pc = .ok (.istore i, 2)) (hn : i < nL) (hl : (i, Value.int x) :: lo.filter (fun q => !(q.1 == i) && !(q.1 + 1 == i && q.2.category == 2)) = lo') (kk : V E X R cc nL Ts own k n h lo' (pc + 2) (st)) : V E X R cc nL Ts own k n h lo pc (.int x :: st) := by
  obtain ⟨⟨p, l, e, s, m, args, below, meth, c⟩, Q, A, tb⟩ := X
  intro S hk hA hE H locs ls hW hd hS hs
  exact lv_istore S.1 S.2.1 hd0 hs hn hl (fun ls' hs' => kk S hk hA hE H locs ls' hW hd hS hs')

theorem r_astore_n {i : Fin 4} {a : Nat} (hd0 : decode cc pc = .ok (.astore_n i, 1)) (hn : (i : Nat) < nL) (hl : ((i : Nat), Value.ref a) :: lo.filter (fun q => !(q.1 == (i : Nat)) && !(q.1 + 1 == (i : Nat) && q.2.category == 2)) = lo') (kk : V E X R cc nL Ts own k n h lo' (pc + 1) (st)) : V E X R cc nL Ts own k n h lo pc (.ref a :: st) := by
  obtain ⟨⟨p, l, e, s, m, args, below, meth, c⟩, Q, A, tb⟩ := X
  intro S hk hA hE H locs ls hW hd hS hs
  exact lv_astore_n S.1 S.2.1 hd0 rfl hs hn hl (fun ls' hs' => kk S hk hA hE H locs ls' hW hd hS hs')

theorem r_astore {i : Nat} {a : Nat} (hd0 : decode cc pc = .ok (.astore i, 2)) (hn : i < nL) (hl : (i, Value.ref a) :: lo.filter (fun q => !(q.1 == i) && !(q.1 + 1 == i && q.2.category == 2)) = lo') (kk : V E X R cc nL Ts own k n h lo' (pc + 2) (st)) : V E X R cc nL Ts own k n h lo pc (.ref a :: st) := by
  obtain ⟨⟨p, l, e, s, m, args, below, meth, c⟩, Q, A, tb⟩ := X
  intro S hk hA hE H locs ls hW hd hS hs
  exact lv_astore S.1 S.2.1 hd0 hs hn hl (fun ls' hs' => kk S hk hA hE H locs ls' hW hd hS hs')

theorem r_astore_nN {i : Fin 4} (hd0 : decode cc pc = .ok (.astore_n i, 1)) (hn : (i : Nat) < nL) (hl : ((i : Nat), Value.null) :: lo.filter (fun q => !(q.1 == (i : Nat)) && !(q.1 + 1 == (i : Nat) && q.2.category == 2)) = lo') (kk : V E X R cc nL Ts own k n h lo' (pc + 1) (st)) : V E X R cc nL Ts own k n h lo pc (.null :: st) := by
  obtain ⟨⟨p, l, e, s, m, args, below, meth, c⟩, Q, A, tb⟩ := X
  intro S hk hA hE H locs ls hW hd hS hs
  exact lv_astore_nN S.1 S.2.1 hd0 rfl hs hn hl (fun ls' hs' => kk S hk hA hE H locs ls' hW hd hS hs')

theorem r_astoreN {i : Nat} (hd0 : decode cc pc = .ok (.astore i, 2)) (hn : i < nL) (hl : (i, Value.null) :: lo.filter (fun q => !(q.1 == i) && !(q.1 + 1 == i && q.2.category == 2)) = lo') (kk : V E X R cc nL Ts own k n h lo' (pc + 2) (st)) : V E X R cc nL Ts own k n h lo pc (.null :: st) := by
  obtain ⟨⟨p, l, e, s, m, args, below, meth, c⟩, Q, A, tb⟩ := X
  intro S hk hA hE H locs ls hW hd hS hs
  exact lv_astoreN S.1 S.2.1 hd0 hs hn hl (fun ls' hs' => kk S hk hA hE H locs ls' hW hd hS hs')

theorem r_iinc {i : Nat} {a : Int} (hd0 : decode cc pc = .ok (.iinc i a, 3)) (j : Nat) (hj : lo[j]? = some (i, .int x)) (hv : x + Int32.ofInt a = v) (hn : i < nL) (hl : (i, Value.int v) :: lo.filter (fun q => !(q.1 == i) && !(q.1 + 1 == i && q.2.category == 2)) = lo') (kk : V E X R cc nL Ts own k n h lo' (pc + 3) (st)) : V E X R cc nL Ts own k n h lo pc (st) := by
  obtain ⟨⟨p, l, e, s, m, args, below, meth, c⟩, Q, A, tb⟩ := X
  intro S hk hA hE H locs ls hW hd hS hs
  exact lv_iinc S.1 S.2.1 hd0 hs hj hv hn hl (fun ls' hs' => kk S hk hA hE H locs ls' hW hd hS hs')

theorem r_iadd (hd0 : decode cc pc = .ok (.iadd, 1))  (kk : V E X R cc nL Ts own k n h lo (pc + 1) (.int (x + y) :: st)) : V E X R cc nL Ts own k n h lo pc (.int y :: .int x :: st) := by
  obtain ⟨⟨p, l, e, s, m, args, below, meth, c⟩, Q, A, tb⟩ := X
  intro S hk hA hE H locs ls hW hd hS hs
  exact lv_iadd S.1 S.2.1 hd0 (kk S hk hA hE H locs ls hW hd hS hs)

theorem r_isub (hd0 : decode cc pc = .ok (.isub, 1))  (kk : V E X R cc nL Ts own k n h lo (pc + 1) (.int (x - y) :: st)) : V E X R cc nL Ts own k n h lo pc (.int y :: .int x :: st) := by
  obtain ⟨⟨p, l, e, s, m, args, below, meth, c⟩, Q, A, tb⟩ := X
  intro S hk hA hE H locs ls hW hd hS hs
  exact lv_isub S.1 S.2.1 hd0 (kk S hk hA hE H locs ls hW hd hS hs)

theorem r_imul (hd0 : decode cc pc = .ok (.imul, 1))  (kk : V E X R cc nL Ts own k n h lo (pc + 1) (.int (x * y) :: st)) : V E X R cc nL Ts own k n h lo pc (.int y :: .int x :: st) := by
  obtain ⟨⟨p, l, e, s, m, args, below, meth, c⟩, Q, A, tb⟩ := X
  intro S hk hA hE H locs ls hW hd hS hs
  exact lv_imul S.1 S.2.1 hd0 (kk S hk hA hE H locs ls hW hd hS hs)

theorem r_iand (hd0 : decode cc pc = .ok (.iand, 1))  (kk : V E X R cc nL Ts own k n h lo (pc + 1) (.int (x &&& y) :: st)) : V E X R cc nL Ts own k n h lo pc (.int y :: .int x :: st) := by
  obtain ⟨⟨p, l, e, s, m, args, below, meth, c⟩, Q, A, tb⟩ := X
  intro S hk hA hE H locs ls hW hd hS hs
  exact lv_iand S.1 S.2.1 hd0 (kk S hk hA hE H locs ls hW hd hS hs)

theorem r_ior (hd0 : decode cc pc = .ok (.ior, 1))  (kk : V E X R cc nL Ts own k n h lo (pc + 1) (.int (x ||| y) :: st)) : V E X R cc nL Ts own k n h lo pc (.int y :: .int x :: st) := by
  obtain ⟨⟨p, l, e, s, m, args, below, meth, c⟩, Q, A, tb⟩ := X
  intro S hk hA hE H locs ls hW hd hS hs
  exact lv_ior S.1 S.2.1 hd0 (kk S hk hA hE H locs ls hW hd hS hs)

theorem r_ishl (hd0 : decode cc pc = .ok (.ishl, 1))  (kk : V E X R cc nL Ts own k n h lo (pc + 1) (.int (x <<< (y &&& 31)) :: st)) : V E X R cc nL Ts own k n h lo pc (.int y :: .int x :: st) := by
  obtain ⟨⟨p, l, e, s, m, args, below, meth, c⟩, Q, A, tb⟩ := X
  intro S hk hA hE H locs ls hW hd hS hs
  exact lv_ishl S.1 S.2.1 hd0 (kk S hk hA hE H locs ls hW hd hS hs)

theorem r_ishr (hd0 : decode cc pc = .ok (.ishr, 1))  (kk : V E X R cc nL Ts own k n h lo (pc + 1) (.int (x >>> (y &&& 31)) :: st)) : V E X R cc nL Ts own k n h lo pc (.int y :: .int x :: st) := by
  obtain ⟨⟨p, l, e, s, m, args, below, meth, c⟩, Q, A, tb⟩ := X
  intro S hk hA hE H locs ls hW hd hS hs
  exact lv_ishr S.1 S.2.1 hd0 (kk S hk hA hE H locs ls hW hd hS hs)

theorem r_iushr (hd0 : decode cc pc = .ok (.iushr, 1))  (kk : V E X R cc nL Ts own k n h lo (pc + 1) (.int ((x.toUInt32 >>> (y.toUInt32 &&& Int32.toUInt32 31)).toInt32) :: st)) : V E X R cc nL Ts own k n h lo pc (.int y :: .int x :: st) := by
  obtain ⟨⟨p, l, e, s, m, args, below, meth, c⟩, Q, A, tb⟩ := X
  intro S hk hA hE H locs ls hW hd hS hs
  exact lv_iushr S.1 S.2.1 hd0 rfl (kk S hk hA hE H locs ls hW hd hS hs)

theorem r_i2l (hd0 : decode cc pc = .ok (.i2l, 1))  (kk : V E X R cc nL Ts own k n h lo (pc + 1) (.long x.toInt64 :: st)) : V E X R cc nL Ts own k n h lo pc (.int x :: st) := by
  obtain ⟨⟨p, l, e, s, m, args, below, meth, c⟩, Q, A, tb⟩ := X
  intro S hk hA hE H locs ls hW hd hS hs
  exact lv_i2l S.1 S.2.1 hd0 rfl (kk S hk hA hE H locs ls hW hd hS hs)

theorem r_lcmp {a b : Int64} (hd0 : decode cc pc = .ok (.lcmp, 1))  (kk : V E X R cc nL Ts own k n h lo (pc + 1) (.int (lg_cmp a b) :: st)) : V E X R cc nL Ts own k n h lo pc (.long b :: .long a :: st) := by
  obtain ⟨⟨p, l, e, s, m, args, below, meth, c⟩, Q, A, tb⟩ := X
  intro S hk hA hE H locs ls hW hd hS hs
  exact W.lcmp S.1 S.2.1 hd0 (kk S hk hA hE H locs ls hW hd hS hs)

theorem r_dup {a : Value} (hd0 : decode cc pc = .ok (.dup, 1)) (hc : a.category = 1) (kk : V E X R cc nL Ts own k n h lo (pc + 1) (a :: a :: st)) : V E X R cc nL Ts own k n h lo pc (a :: st) := by
  obtain ⟨⟨p, l, e, s, m, args, below, meth, c⟩, Q, A, tb⟩ := X
  intro S hk hA hE H locs ls hW hd hS hs
  exact lv_dup S.1 S.2.1 hd0 hc (kk S hk hA hE H locs ls hW hd hS hs)

theorem r_pop {a : Value} (hd0 : decode cc pc = .ok (.pop, 1)) (hc : a.category = 1) (kk : V E X R cc nL Ts own k n h lo (pc + 1) (st)) : V E X R cc nL Ts own k n h lo pc (a :: st) := by
  obtain ⟨⟨p, l, e, s, m, args, below, meth, c⟩, Q, A, tb⟩ := X
  intro S hk hA hE H locs ls hW hd hS hs
  exact lv_pop S.1 S.2.1 hd0 hc (kk S hk hA hE H locs ls hW hd hS hs)

theorem r_dup_x1 {a b : Value} (hd0 : decode cc pc = .ok (.dup_x1, 1)) (hc : a.category = 1) (hc2 : b.category = 1) (kk : V E X R cc nL Ts own k n h lo (pc + 1) (a :: b :: a :: st)) : V E X R cc nL Ts own k n h lo pc (a :: b :: st) := by
  obtain ⟨⟨p, l, e, s, m, args, below, meth, c⟩, Q, A, tb⟩ := X
  intro S hk hA hE H locs ls hW hd hS hs
  exact lv_dup_x1 S.1 S.2.1 hd0 hc hc2 (kk S hk hA hE H locs ls hW hd hS hs)

theorem r_dup2 {a b : Value} (hd0 : decode cc pc = .ok (.dup2, 1)) (hc : a.category = 1) (hc2 : b.category = 1) (kk : V E X R cc nL Ts own k n h lo (pc + 1) (a :: b :: a :: b :: st)) : V E X R cc nL Ts own k n h lo pc (a :: b :: st) := by
  obtain ⟨⟨p, l, e, s, m, args, below, meth, c⟩, Q, A, tb⟩ := X
  intro S hk hA hE H locs ls hW hd hS hs
  exact lv_dup2_11 S.1 S.2.1 hd0 hc hc2 (kk S hk hA hE H locs ls hW hd hS hs)

theorem r_goto (hd0 : decode cc pc = .ok (.goto off, 3)) (ht : (pc : Int) + off = (tgt : Int)) (kk : V E X R cc nL Ts own k n h lo (tgt) (st)) : V E X R cc nL Ts own k n h lo pc (st) := by
  obtain ⟨⟨p, l, e, s, m, args, below, meth, c⟩, Q, A, tb⟩ := X
  intro S hk hA hE H locs ls hW hd hS hs
  exact lv_goto S.1 S.2.1 hd0 ht (kk S hk hA hE H locs ls hW hd hS hs)

theorem r_icmp_eq (hd0 : decode cc pc = .ok (.if_icmp .eq off, 3)) (ht : (pc : Int) + off = (tgt : Int)) (kt : x = y → V E X R cc nL Ts own k n h lo tgt st) (kf : ¬ x = y → V E X R cc nL Ts own k n h lo (pc + 3) st) : V E X R cc nL Ts own k n h lo pc (.int y :: .int x :: st) := by
  obtain ⟨⟨p, l, e, s, m, args, below, meth, c⟩, Q, A, tb⟩ := X
  intro S hk hA hE H locs ls hW hd hS hs
  exact lv_icmp_eq S.1 S.2.1 hd0 ht (fun c0 => kt c0 S hk hA hE H locs ls hW hd hS hs) (fun c0 => kf c0 S hk hA hE H locs ls hW hd hS hs)

theorem r_icmp_ne (hd0 : decode cc pc = .ok (.if_icmp .ne off, 3)) (ht : (pc : Int) + off = (tgt : Int)) (kt : ¬ x = y → V E X R cc nL Ts own k n h lo tgt st) (kf : x = y → V E X R cc nL Ts own k n h lo (pc + 3) st) : V E X R cc nL Ts own k n h lo pc (.int y :: .int x :: st) := by
  obtain ⟨⟨p, l, e, s, m, args, below, meth, c⟩, Q, A, tb⟩ := X
  intro S hk hA hE H locs ls hW hd hS hs
  exact lv_icmp_ne S.1 S.2.1 hd0 ht (fun c0 => kt c0 S hk hA hE H locs ls hW hd hS hs) (fun c0 => kf c0 S hk hA hE H locs ls hW hd hS hs)

theorem r_icmp_lt (hd0 : decode cc pc = .ok (.if_icmp .lt off, 3)) (ht : (pc : Int) + off = (tgt : Int)) (kt : x < y → V E X R cc nL Ts own k n h lo tgt st) (kf : ¬ x < y → V E X R cc nL Ts own k n h lo (pc + 3) st) : V E X R cc nL Ts own k n h lo pc (.int y :: .int x :: st) := by
  obtain ⟨⟨p, l, e, s, m, args, below, meth, c⟩, Q, A, tb⟩ := X
  intro S hk hA hE H locs ls hW hd hS hs
  exact lv_icmp_lt S.1 S.2.1 hd0 ht (fun c0 => kt c0 S hk hA hE H locs ls hW hd hS hs) (fun c0 => kf c0 S hk hA hE H locs ls hW hd hS hs)

theorem r_icmp_ge (hd0 : decode cc pc = .ok (.if_icmp .ge off, 3)) (ht : (pc : Int) + off = (tgt : Int)) (kt : ¬ x < y → V E X R cc nL Ts own k n h lo tgt st) (kf : x < y → V E X R cc nL Ts own k n h lo (pc + 3) st) : V E X R cc nL Ts own k n h lo pc (.int y :: .int x :: st) := by
  obtain ⟨⟨p, l, e, s, m, args, below, meth, c⟩, Q, A, tb⟩ := X
  intro S hk hA hE H locs ls hW hd hS hs
  exact lv_icmp_ge S.1 S.2.1 hd0 ht (fun c0 => kt (Int32.not_lt.mpr c0) S hk hA hE H locs ls hW hd hS hs) (fun c0 => kf (Int32.not_le.mp c0) S hk hA hE H locs ls hW hd hS hs)

theorem r_icmp_gt (hd0 : decode cc pc = .ok (.if_icmp .gt off, 3)) (ht : (pc : Int) + off = (tgt : Int)) (kt : y < x → V E X R cc nL Ts own k n h lo tgt st) (kf : ¬ y < x → V E X R cc nL Ts own k n h lo (pc + 3) st) : V E X R cc nL Ts own k n h lo pc (.int y :: .int x :: st) := by
  obtain ⟨⟨p, l, e, s, m, args, below, meth, c⟩, Q, A, tb⟩ := X
  intro S hk hA hE H locs ls hW hd hS hs
  exact lv_icmp_gt S.1 S.2.1 hd0 ht (fun c0 => kt c0 S hk hA hE H locs ls hW hd hS hs) (fun c0 => kf c0 S hk hA hE H locs ls hW hd hS hs)

theorem r_icmp_le (hd0 : decode cc pc = .ok (.if_icmp .le off, 3)) (ht : (pc : Int) + off = (tgt : Int)) (kt : ¬ y < x → V E X R cc nL Ts own k n h lo tgt st) (kf : y < x → V E X R cc nL Ts own k n h lo (pc + 3) st) : V E X R cc nL Ts own k n h lo pc (.int y :: .int x :: st) := by
  obtain ⟨⟨p, l, e, s, m, args, below, meth, c⟩, Q, A, tb⟩ := X
  intro S hk hA hE H locs ls hW hd hS hs
  exact lv_icmp_le S.1 S.2.1 hd0 ht (fun c0 => kt (Int32.not_lt.mpr c0) S hk hA hE H locs ls hW hd hS hs) (fun c0 => kf (Int32.not_le.mp c0) S hk hA hE H locs ls hW hd hS hs)

theorem r_if_eq (hd0 : decode cc pc = .ok (.ifCond .eq off, 3)) (ht : (pc : Int) + off = (tgt : Int)) (kt : x = 0 → V E X R cc nL Ts own k n h lo tgt st) (kf : ¬ x = 0 → V E X R cc nL Ts own k n h lo (pc + 3) st) : V E X R cc nL Ts own k n h lo pc (.int x :: st) := by
  obtain ⟨⟨p, l, e, s, m, args, below, meth, c⟩, Q, A, tb⟩ := X
  intro S hk hA hE H locs ls hW hd hS hs
  exact lv_if_eq S.1 S.2.1 hd0 ht (fun c0 => kt c0 S hk hA hE H locs ls hW hd hS hs) (fun c0 => kf c0 S hk hA hE H locs ls hW hd hS hs)

theorem r_if_ne (hd0 : decode cc pc = .ok (.ifCond .ne off, 3)) (ht : (pc : Int) + off = (tgt : Int)) (kt : ¬ x = 0 → V E X R cc nL Ts own k n h lo tgt st) (kf : x = 0 → V E X R cc nL Ts own k n h lo (pc + 3) st) : V E X R cc nL Ts own k n h lo pc (.int x :: st) := by
  obtain ⟨⟨p, l, e, s, m, args, below, meth, c⟩, Q, A, tb⟩ := X
  intro S hk hA hE H locs ls hW hd hS hs
  exact lv_if_ne S.1 S.2.1 hd0 ht (fun c0 => kt c0 S hk hA hE H locs ls hW hd hS hs) (fun c0 => kf c0 S hk hA hE H locs ls hW hd hS hs)

theorem r_if_lt (hd0 : decode cc pc = .ok (.ifCond .lt off, 3)) (ht : (pc : Int) + off = (tgt : Int)) (kt : x < 0 → V E X R cc nL Ts own k n h lo tgt st) (kf : ¬ x < 0 → V E X R cc nL Ts own k n h lo (pc + 3) st) : V E X R cc nL Ts own k n h lo pc (.int x :: st) := by
  obtain ⟨⟨p, l, e, s, m, args, below, meth, c⟩, Q, A, tb⟩ := X
  intro S hk hA hE H locs ls hW hd hS hs
  exact lv_if_lt S.1 S.2.1 hd0 ht (fun c0 => kt c0 S hk hA hE H locs ls hW hd hS hs) (fun c0 => kf c0 S hk hA hE H locs ls hW hd hS hs)

theorem r_if_ge (hd0 : decode cc pc = .ok (.ifCond .ge off, 3)) (ht : (pc : Int) + off = (tgt : Int)) (kt : ¬ x < 0 → V E X R cc nL Ts own k n h lo tgt st) (kf : x < 0 → V E X R cc nL Ts own k n h lo (pc + 3) st) : V E X R cc nL Ts own k n h lo pc (.int x :: st) := by
  obtain ⟨⟨p, l, e, s, m, args, below, meth, c⟩, Q, A, tb⟩ := X
  intro S hk hA hE H locs ls hW hd hS hs
  exact lv_if_ge S.1 S.2.1 hd0 ht (fun c0 => kt (Int32.not_lt.mpr c0) S hk hA hE H locs ls hW hd hS hs) (fun c0 => kf (Int32.not_le.mp c0) S hk hA hE H locs ls hW hd hS hs)

theorem r_if_gt (hd0 : decode cc pc = .ok (.ifCond .gt off, 3)) (ht : (pc : Int) + off = (tgt : Int)) (kt : 0 < x → V E X R cc nL Ts own k n h lo tgt st) (kf : ¬ 0 < x → V E X R cc nL Ts own k n h lo (pc + 3) st) : V E X R cc nL Ts own k n h lo pc (.int x :: st) := by
  obtain ⟨⟨p, l, e, s, m, args, below, meth, c⟩, Q, A, tb⟩ := X
  intro S hk hA hE H locs ls hW hd hS hs
  exact lv_if_gt S.1 S.2.1 hd0 ht (fun c0 => kt c0 S hk hA hE H locs ls hW hd hS hs) (fun c0 => kf c0 S hk hA hE H locs ls hW hd hS hs)

theorem r_if_le (hd0 : decode cc pc = .ok (.ifCond .le off, 3)) (ht : (pc : Int) + off = (tgt : Int)) (kt : ¬ 0 < x → V E X R cc nL Ts own k n h lo tgt st) (kf : 0 < x → V E X R cc nL Ts own k n h lo (pc + 3) st) : V E X R cc nL Ts own k n h lo pc (.int x :: st) := by
  obtain ⟨⟨p, l, e, s, m, args, below, meth, c⟩, Q, A, tb⟩ := X
  intro S hk hA hE H locs ls hW hd hS hs
  exact lv_if_le S.1 S.2.1 hd0 ht (fun c0 => kt (Int32.not_lt.mpr c0) S hk hA hE H locs ls hW hd hS hs) (fun c0 => kf (Int32.not_le.mp c0) S hk hA hE H locs ls hW hd hS hs)

theorem r_acmp_ne {a b : Nat} (hd0 : decode cc pc = .ok (.if_acmp .ne off, 3)) (ht : (pc : Int) + off = (tgt : Int)) (kt : ¬ a = b → V E X R cc nL Ts own k n h lo tgt st) (kf : a = b → V E X R cc nL Ts own k n h lo (pc + 3) st) : V E X R cc nL Ts own k n h lo pc (.ref b :: .ref a :: st) := by
  obtain ⟨⟨p, l, e, s, m, args, below, meth, c⟩, Q, A, tb⟩ := X
  intro S hk hA hE H locs ls hW hd hS hs
  exact lv_acmp_ne (rx := some a) (ry := some b) S.1 S.2.1 hd0 ht (fun c0 => kt (fun z => c0 (by rw [z])) S hk hA hE H locs ls hW hd hS hs) (fun c0 => kf (Option.some.inj c0) S hk hA hE H locs ls hW hd hS hs)

theorem r_acmp_eq {a b : Nat} (hd0 : decode cc pc = .ok (.if_acmp .eq off, 3)) (ht : (pc : Int) + off = (tgt : Int)) (kt : a = b → V E X R cc nL Ts own k n h lo tgt st) (kf : ¬ a = b → V E X R cc nL Ts own k n h lo (pc + 3) st) : V E X R cc nL Ts own k n h lo pc (.ref b :: .ref a :: st) := by
  obtain ⟨⟨p, l, e, s, m, args, below, meth, c⟩, Q, A, tb⟩ := X
  intro S hk hA hE H locs ls hW hd hS hs
  exact lv_acmp_eq (rx := some a) (ry := some b) S.1 S.2.1 hd0 ht (fun c0 => kt (Option.some.inj c0) S hk hA hE H locs ls hW hd hS hs) (fun c0 => kf (fun z => c0 (by rw [z])) S hk hA hE H locs ls hW hd hS hs)

theorem r_ifnull {a : Nat} (hd0 : decode cc pc = .ok (.ifnull off, 3))  (kk : V E X R cc nL Ts own k n h lo (pc + 3) (st)) : V E X R cc nL Ts own k n h lo pc (.ref a :: st) := by
  obtain ⟨⟨p, l, e, s, m, args, below, meth, c⟩, Q, A, tb⟩ := X
  intro S hk hA hE H locs ls hW hd hS hs
  exact lv_ifnull S.1 S.2.1 hd0 (kk S hk hA hE H locs ls hW hd hS hs)

theorem r_ifnullN (hd0 : decode cc pc = .ok (.ifnull off, 3)) (ht : (pc : Int) + off = (tgt : Int)) (kk : V E X R cc nL Ts own k n h lo (tgt) (st)) : V E X R cc nL Ts own k n h lo pc (.null :: st) := by
  obtain ⟨⟨p, l, e, s, m, args, below, meth, c⟩, Q, A, tb⟩ := X
  intro S hk hA hE H locs ls hW hd hS hs
  exact lv_ifnullN S.1 S.2.1 hd0 ht (kk S hk hA hE H locs ls hW hd hS hs)

theorem r_ifnonnull {a : Nat} (hd0 : decode cc pc = .ok (.ifnonnull off, 3)) (ht : (pc : Int) + off = (tgt : Int)) (kk : V E X R cc nL Ts own k n h lo (tgt) (st)) : V E X R cc nL Ts own k n h lo pc (.ref a :: st) := by
  obtain ⟨⟨p, l, e, s, m, args, below, meth, c⟩, Q, A, tb⟩ := X
  intro S hk hA hE H locs ls hW hd hS hs
  exact lv_ifnonnull S.1 S.2.1 hd0 ht (kk S hk hA hE H locs ls hW hd hS hs)

theorem r_ifnonnullN (hd0 : decode cc pc = .ok (.ifnonnull off, 3))  (kk : V E X R cc nL Ts own k n h lo (pc + 3) (st)) : V E X R cc nL Ts own k n h lo pc (.null :: st) := by
  obtain ⟨⟨p, l, e, s, m, args, below, meth, c⟩, Q, A, tb⟩ := X
  intro S hk hA hE H locs ls hW hd hS hs
  exact lv_ifnonnullN S.1 S.2.1 hd0 (kk S hk hA hE H locs ls hW hd hS hs)

theorem r_tableIn {dflt lw hi : Int} {offs : Array Int} {len : Nat} (hd0 : decode cc pc = .ok (.tableswitch dflt lw hi offs, len)) (h1 : ¬ x.toInt < lw) (h2 : ¬ hi < x.toInt) (ho : offs[(x.toInt - lw).toNat]? = some off) (ht : (pc : Int) + off = (tgt : Int)) (kk : V E X R cc nL Ts own k n h lo (tgt) (st)) : V E X R cc nL Ts own k n h lo pc (.int x :: st) := by
  obtain ⟨⟨p, l, e, s, m, args, below, meth, c⟩, Q, A, tb⟩ := X
  intro S hk hA hE H locs ls hW hd hS hs
  exact lv_tableIn S.1 S.2.1 hd0 h1 h2 ho ht (kk S hk hA hE H locs ls hW hd hS hs)

theorem r_tableOut {dflt lw hi : Int} {offs : Array Int} {len : Nat} (hd0 : decode cc pc = .ok (.tableswitch dflt lw hi offs, len)) (h1 : x.toInt < lw ∨ hi < x.toInt) (ht : (pc : Int) + dflt = (tgt : Int)) (kk : V E X R cc nL Ts own k n h lo (tgt) (st)) : V E X R cc nL Ts own k n h lo pc (.int x :: st) := by
  obtain ⟨⟨p, l, e, s, m, args, below, meth, c⟩, Q, A, tb⟩ := X
  intro S hk hA hE H locs ls hW hd hS hs
  exact lv_tableOut S.1 S.2.1 hd0 h1 ht (kk S hk hA hE H locs ls hW hd hS hs)

theorem r_lookup {dflt : Int} {ps : Array (Int × Int)} {len : Nat} (hd0 : decode cc pc = .ok (.lookupswitch dflt ps, len)) (hp : (ps.toList.zip (ps.toList.drop 1)).all (fun (a, next) => a.1 < next.1) = true) (ho : Op.lookupswitch.offset ps.toList dflt x.toInt = off) (ht : (pc : Int) + off = (tgt : Int)) (kk : V E X R cc nL Ts own k n h lo (tgt) (st)) : V E X R cc nL Ts own k n h lo pc (.int x :: st) := by
  obtain ⟨⟨p, l, e, s, m, args, below, meth, c⟩, Q, A, tb⟩ := X
  intro S hk hA hE H locs ls hW hd hS hs
  exact lv_lookup S.1 S.2.1 hd0 hp ho ht (kk S hk hA hE H locs ls hW hd hS hs)

theorem r_get {C ref : String} {T : u_T} {N ci i a : Nat} {fs : List Value} {b : Value} (hd0 : decode cc pc = .ok (.getfield i, 3)) (hin : ∀ w ∈ u_ws C T N, w ∈ Ts) (he : h a = some (.inr (ci, fs))) (hc : kcl[ci]? = some (C, T, N)) (f : Nat) (hf : f < N) (hw : Cond.fieldLink own i ref (T f).2.1 (T f).2.2.1 ∈ Ts) (hr : (T f).1 = ref) (hv : fs[f]? = some b) (kk : V E X R cc nL Ts own k n h lo (pc + 3) (b :: st)) : V E X R cc nL Ts own k n h lo pc (.ref a :: st) := by
  obtain ⟨⟨p, l, e, s, m, args, below, meth, c⟩, Q, A, tb⟩ := X
  intro S hk hA hE H locs ls hW hd hS hs
  exact va_get S.1 S.2.1 S.2.2.2.2 hin S.2.2.2.1 hE.1.1 (kWd_P hW he) 0 rfl hc f hf (S.2.2.2.2 _ hw) (by subst hr; exact fun _ z => z) hv hd0 (kk S hk hA hE H locs ls hW hd hS hs)

theorem r_getS {C ref : String} {T : u_T} {N ci i a : Nat} {fs : List Value} {b : Value} (hd0 : decode cc pc = .ok (.getfield i, 3)) (hin : ∀ w ∈ u_ws C T N, w ∈ Ts) (he : h a = some (.inr (ci, fs))) (hc : kcl[ci]? = some (C, T, N)) (f : Nat) (hf : f < N) (hw : Cond.fieldLink own i ref (T f).2.1 (T f).2.2.1 ∈ Ts) (hr : Cond.sameField ref (T f).1 (T f).2.1 (T f).2.2.1 ∈ Ts) (hv : fs[f]? = some b) (kk : V E X R cc nL Ts own k n h lo (pc + 3) (b :: st)) : V E X R cc nL Ts own k n h lo pc (.ref a :: st) := by
  obtain ⟨⟨p, l, e, s, m, args, below, meth, c⟩, Q, A, tb⟩ := X
  intro S hk hA hE H locs ls hW hd hS hs
  exact va_get S.1 S.2.1 S.2.2.2.2 hin S.2.2.2.1 hE.1.1 (kWd_P hW he) 0 rfl hc f hf (S.2.2.2.2 _ hw) (fun x z => u_same (S.2.2.2.2 _ hr) x z) hv hd0 (kk S hk hA hE H locs ls hW hd hS hs)

theorem r_putF {C ref : String} {T : u_T} {N ci i a : Nat} {fs : List Value} {b : Value} {ty : FieldType} (hd0 : decode cc pc = .ok (.putfield i, 3)) (hin : ∀ w ∈ u_ws C T N, w ∈ Ts) (ty0 : Nat → FieldType) (hty : ∀ k, k < N → parseFieldDescriptor (T k).2.2.1 = some (ty0 k)) (hnm : ∀ a, a < N → ∀ b, b < N → a ≠ b → (T a).2.1 ≠ (T b).2.1) (he : h a = some (.inr (ci, fs))) (hc : kcl[ci]? = some (C, T, N)) (f : Nat) (hf : f < N) (hw : Cond.fieldLink own i ref (T f).2.1 (T f).2.2.1 ∈ Ts) (hr : (T f).1 = ref) (hfi : (T f).2.2.2 = true) (hnmI : kInit X) (hdc : (T f).1 = own) (hde : parseFieldDescriptor (T f).2.2.1 = some ty) (hnw : narrow ty b = b) (hft : fits ty b = true) (hl : f < fs.length) (kk : V E X R cc nL Ts own k n (kup h a (.inr (ci, fs.set f b))) lo (pc + 3) st) : V E X R cc nL Ts own k n h lo pc (b :: .ref a :: st) := by
  obtain ⟨⟨p, l, e, s, m, args, below, meth, c⟩, Q, A, tb⟩ := X
  intro S hk hA hE H locs ls hW hd hS hs
  obtain ⟨q0, hq⟩ := kL_at hW he
  exact va_putF S.1 S.2.1 S.2.2.2.2 hin ty0 hty hnm S.2.2.2.1 hE.1.1 (kL_P hW) (kL_D hd) hS q0 hq hc f hf (S.2.2.2.2 _ hw) (by subst hr; exact fun _ z => z) hfi hnmI hdc hde hnw hft hl hd0 (fun H1 locs1 hP1 hD1 hS1 => kk S hk hA hE H1 locs1 ls (kWd_set hW hq hP1) (kdom_up hd (hd a _ he)) hS1 hs)

theorem r_put {C ref : String} {T : u_T} {N ci i a : Nat} {fs : List Value} {b : Value} {ty : FieldType} (hd0 : decode cc pc = .ok (.putfield i, 3)) (hin : ∀ w ∈ u_ws C T N, w ∈ Ts) (ty0 : Nat → FieldType) (hty : ∀ k, k < N → parseFieldDescriptor (T k).2.2.1 = some (ty0 k)) (hnm : ∀ a, a < N → ∀ b, b < N → a ≠ b → (T a).2.1 ≠ (T b).2.1) (he : h a = some (.inr (ci, fs))) (hc : kcl[ci]? = some (C, T, N)) (f : Nat) (hf : f < N) (hw : Cond.fieldLink own i ref (T f).2.1 (T f).2.2.1 ∈ Ts) (hr : (T f).1 = ref) (hfi : (T f).2.2.2 = false) (hde : parseFieldDescriptor (T f).2.2.1 = some ty) (hnw : narrow ty b = b) (hft : fits ty b = true) (hl : f < fs.length) (kk : V E X R cc nL Ts own k n (kup h a (.inr (ci, fs.set f b))) lo (pc + 3) st) : V E X R cc nL Ts own k n h lo pc (b :: .ref a :: st) := by
  obtain ⟨⟨p, l, e, s, m, args, below, meth, c⟩, Q, A, tb⟩ := X
  intro S hk hA hE H locs ls hW hd hS hs
  obtain ⟨q0, hq⟩ := kL_at hW he
  exact va_put S.1 S.2.1 S.2.2.2.2 hin ty0 hty hnm S.2.2.2.1 hE.1.1 (kL_P hW) (kL_D hd) hS q0 hq hc f hf (S.2.2.2.2 _ hw) (by subst hr; exact fun _ z => z) hfi hde hnw hft hl hd0 (fun H1 locs1 hP1 hD1 hS1 => kk S hk hA hE H1 locs1 ls (kWd_set hW hq hP1) (kdom_up hd (hd a _ he)) hS1 hs)

theorem r_putS {C ref : String} {T : u_T} {N ci i a : Nat} {fs : List Value} {b : Value} {ty : FieldType} (hd0 : decode cc pc = .ok (.putfield i, 3)) (hin : ∀ w ∈ u_ws C T N, w ∈ Ts) (ty0 : Nat → FieldType) (hty : ∀ k, k < N → parseFieldDescriptor (T k).2.2.1 = some (ty0 k)) (hnm : ∀ a, a < N → ∀ b, b < N → a ≠ b → (T a).2.1 ≠ (T b).2.1) (he : h a = some (.inr (ci, fs))) (hc : kcl[ci]? = some (C, T, N)) (f : Nat) (hf : f < N) (hw : Cond.fieldLink own i ref (T f).2.1 (T f).2.2.1 ∈ Ts) (hr : Cond.sameField ref (T f).1 (T f).2.1 (T f).2.2.1 ∈ Ts) (hfi : (T f).2.2.2 = false) (hde : parseFieldDescriptor (T f).2.2.1 = some ty) (hnw : narrow ty b = b) (hft : fits ty b = true) (hl : f < fs.length) (kk : V E X R cc nL Ts own k n (kup h a (.inr (ci, fs.set f b))) lo (pc + 3) st) : V E X R cc nL Ts own k n h lo pc (b :: .ref a :: st) := by
  obtain ⟨⟨p, l, e, s, m, args, below, meth, c⟩, Q, A, tb⟩ := X
  intro S hk hA hE H locs ls hW hd hS hs
  obtain ⟨q0, hq⟩ := kL_at hW he
  exact va_put S.1 S.2.1 S.2.2.2.2 hin ty0 hty hnm S.2.2.2.1 hE.1.1 (kL_P hW) (kL_D hd) hS q0 hq hc f hf (S.2.2.2.2 _ hw) (fun x z => u_same (S.2.2.2.2 _ hr) x z) hfi hde hnw hft hl hd0 (fun H1 locs1 hP1 hD1 hS1 => kk S hk hA hE H1 locs1 ls (kWd_set hW hq hP1) (kdom_up hd (hd a _ he)) hS1 hs)

theorem r_iald {a N : Nat} {f : Nat → Int32} (hd0 : decode cc pc = .ok (.iaload, 1)) (he : h a = some (.inl (kI E, N, .inl f))) (hi : vp_in x N) (kk : V E X R cc nL Ts own k n h lo (pc + 1) (.int (f x.toNatClampNeg) :: st)) : V E X R cc nL Ts own k n h lo pc (.int x :: .ref a :: st) := by
  obtain ⟨⟨p, l, e, s, m, args, below, meth, c⟩, Q, A, tb⟩ := X
  intro S hk hA hE H locs ls hW hd hS hs
  exact va_iald S.1 S.2.1 hE.1.1 (kWd_P hW he) 0 0 rfl rfl hi hd0 (kk S hk hA hE H locs ls hW hd hS hs)

theorem r_aald {a N : Nat} {f : Nat → Option Nat} (hd0 : decode cc pc = .ok (.aaload, 1)) (he : h a = some (.inl (kO E, N, .inr (.inr (.inr (.inr f)))))) (hi : vp_in x N) (kk : V E X R cc nL Ts own k n h lo (pc + 1) (va_rf (f x.toNatClampNeg) :: st)) : V E X R cc nL Ts own k n h lo pc (.int x :: .ref a :: st) := by
  obtain ⟨⟨p, l, e, s, m, args, below, meth, c⟩, Q, A, tb⟩ := X
  intro S hk hA hE H locs ls hW hd hS hs
  exact va_aldq S.1 S.2.1 hE.1.1 (kWd_P hW he) 0 2 rfl rfl hi hd0 (kk S hk hA hE H locs ls hW hd hS hs)

theorem r_iast {a N : Nat} {f : Nat → Int32} {x2 : Int32} (hd0 : decode cc pc = .ok (.iastore, 1)) (he : h a = some (.inl (kI E, N, .inl f))) (hi : vp_in x N) (kk : V E X R cc nL Ts own k n (kup h a (.inl (kI E, N, .inl (upd f x.toNatClampNeg x2)))) lo (pc + 1) st) : V E X R cc nL Ts own k n h lo pc (.int x2 :: .int x :: .ref a :: st) := by
  obtain ⟨⟨p, l, e, s, m, args, below, meth, c⟩, Q, A, tb⟩ := X
  intro S hk hA hE H locs ls hW hd hS hs
  obtain ⟨q0, hq⟩ := kL_at hW he
  exact va_iast S.1 S.2.1 hE.1.1 (kL_P hW) (kL_D hd) hS q0 0 hq rfl hi hd0 (fun H1 locs1 hP1 hD1 hS1 => kk S hk hA hE H1 locs1 ls (kWd_set hW hq hP1) (kdom_up hd (hd a _ he)) hS1 hs)

theorem r_alen {a N : Nat} {f : Nat → Option Nat} (hd0 : decode cc pc = .ok (.arraylength, 1)) (he : h a = some (.inl (kO E, N, .inr (.inr (.inr (.inr f)))))) (kk : V E X R cc nL Ts own k n h lo (pc + 1) (.int (Int32.ofNat N) :: st)) : V E X R cc nL Ts own k n h lo pc (.ref a :: st) := by
  obtain ⟨⟨p, l, e, s, m, args, below, meth, c⟩, Q, A, tb⟩ := X
  intro S hk hA hE H locs ls hW hd hS hs
  exact va_alen S.1 S.2.1 hE.1.1 (kWd_P hW he) 0 2 rfl rfl rfl hd0 (kk S hk hA hE H locs ls hW hd hS hs)

theorem r_new {C : String} {T : u_T} {N ci i : Nat} {fs : List Value} (hd0 : decode cc pc = .ok (.new i, 3)) (hin : ∀ w ∈ u_ws C T N, w ∈ Ts) (ty0 : Nat → FieldType) (hty : ∀ k, k < N → parseFieldDescriptor (T k).2.2.1 = some (ty0 k)) (hcl : Cond.classLink own i C ∈ Ts) (hins : Cond.instantiable C N ∈ Ts) (hini : Cond.initialized C ∈ Ts) (hc : kcl[ci]? = some (C, T, N)) (hfs : ∀ j, j < N → defaultValue (ty0 j) = vp_V fs j) (hk1 : k + 1 ≤ R.cells) (hn1 : n + N ≤ R.slots)
    (kk : ∀ q, h q = none → V E X R cc nL Ts own (k + 1) (n + N) (kup h q (.inr (ci, fs))) lo (pc + 3) (.ref q :: st)) : V E X R cc nL Ts own k n h lo pc st := by
  obtain ⟨⟨p, l, e, s, m, args, below, meth, c⟩, Q, A, tb⟩ := X
  intro S hk hA hE H locs ls hW hd hS hs
  exact va_new S.1 S.2.1 S.2.2.2.2 hin ty0 hty S.2.2.2.1 (S.2.2.2.2 _ hcl) (S.2.2.2.2 _ hins) (S.2.2.2.2 _ hini) hE.1.1 (kL_P hW) (kL_D hd) hS hA hc hfs hk1 hn1 hd0 (fun q H1 hP1 hD1 hS1 => kk q (kfresh hW hD1) S hk hA hE H1 locs ls (kWd_app (A := A) hW hP1) (kdom_up hd (hD1.2 (kL h H.size).length (q, .inr (ci, fs)) (by rw [List.getElem?_append_right (Nat.le_refl _), Nat.sub_self]; rfl))) hS1 hs)
theorem kcI {E : kE} {s : State} {cA : ClassId} {tys : List (ClassId × FieldType)} (hK : va_K E.1 kcl (ktys E) s) (h : va_K E.1 kcl (ktys E ++ [(cA, .int)]) s) : cA = kI E := by
  have a1 := (h.2 4 (cA, .int) rfl).2
  have a2 := (hK.2 0 (kI E, .int) rfl).2
  exact Option.some.inj (a1.symm.trans a2)
theorem kcO {E : kE} {s : State} {cA : ClassId} {tys : List (ClassId × FieldType)} (hK : va_K E.1 kcl (ktys E) s) (h : va_K E.1 kcl (ktys E ++ [(cA, .object "java/lang/Object")]) s) : cA = kO E := by
  obtain ⟨_, _, _, _, _, a1⟩ := (h.2 4 (cA, .object "java/lang/Object") rfl).2
  obtain ⟨_, _, _, _, _, a2⟩ := (hK.2 2 (kO E, .object "java/lang/Object") rfl).2
  exact Option.some.inj (a1.symm.trans a2)
theorem kcell_i (cA : ClassId) (N : Nat) : vp_cell cA (N, .inl (fun _ => 0)) = arrV cA N (fun _ => Value.int 0) := by rw [vp_cell_i]
theorem r_newI {N : Nat} (hd0 : decode cc pc = .ok (.newarray .int, 2)) (hac : Cond.arrayClass .int ∈ Ts) (hx : ¬ x < 0) (hN : x.toNatClampNeg = N) (hb : N * 4 ≤ 536870912) (hk1 : k + 1 ≤ R.cells) (hn1 : n + N ≤ R.slots)
    (kk : ∀ q, h q = none → V E X R cc nL Ts own (k + 1) (n + N) (kup h q (.inl (kI E, N, .inl (fun _ => 0)))) lo (pc + 2) (.ref q :: st)) : V E X R cc nL Ts own k n h lo pc (.int x :: st) := by
  obtain ⟨⟨p, l, e, s, m, args, below, meth, c⟩, Q, A, tb⟩ := X
  intro S hk hA hE H locs ls hW hd hS hs
  refine va_newa (atype := .int) (ty := .int) (a0 := (N, .inl (fun _ => 0))) S.1 S.2.1 (S.2.2.2.2 _ hac) rfl hE.1.1 (kL_P hW) (kL_D hd) hS hA (fun cA => kcell_i cA N) hx hN hb hk1 hn1 hd0 (fun q cA H1 hK1 hP1 hD1 hS1 => ?_)
  obtain rfl := kcI (tys := []) hE.1.1 hK1
  exact kk q (kfresh hW hD1) S hk hA hE H1 locs ls (kWd_app (A := A) hW hP1) (kdom_up hd (hD1.2 (kL h H.size).length (q, .inl (kI E, N, .inl (fun _ => 0))) (by rw [List.getElem?_append_right (Nat.le_refl _), Nat.sub_self]; rfl))) hS1 hs
theorem r_newO {N i : Nat} (hd0 : decode cc pc = .ok (.anewarray i, 3)) (hcl : Cond.classLink own i "java/lang/Object" ∈ Ts) (hx : ¬ x < 0) (hN : x.toNatClampNeg = N) (hb : N * 4 ≤ 536870912) (hk1 : k + 1 ≤ R.cells) (hn1 : n + N ≤ R.slots)
    (kk : ∀ q, h q = none → V E X R cc nL Ts own (k + 1) (n + N) (kup h q (.inl (kO E, N, .inr (.inr (.inr (.inr (fun _ => none))))))) lo (pc + 3) (.ref q :: st)) : V E X R cc nL Ts own k n h lo pc (.int x :: st) := by
  obtain ⟨⟨p, l, e, s, m, args, below, meth, c⟩, Q, A, tb⟩ := X
  intro S hk hA hE H locs ls hW hd hS hs
  refine va_newq S.1 S.2.1 S.2.2.2.1 (S.2.2.2.2 _ hcl) hE.1.2.2.2.2.2.1 hE.1.1 (kL_P hW) (kL_D hd) hS hA hx hN hb hk1 hn1 hd0 (fun q cA H1 hK1 hP1 hD1 hS1 => ?_)
  obtain rfl := kcO (tys := []) hE.1.1 hK1
  exact kk q (kfresh hW hD1) S hk hA hE H1 locs ls (kWd_app (A := A) hW hP1) (kdom_up hd (hD1.2 (kL h H.size).length (q, .inl (kO E, N, .inr (.inr (.inr (.inr (fun _ => none)))))) (by rw [List.getElem?_append_right (Nat.le_refl _), Nat.sub_self]; rfl))) hS1 hs
theorem r_mmax {i : Nat} (hd0 : decode cc pc = .ok (.invokestatic i, 3)) (h1 : Cond.methodLink own i Lib.Math.max.name ∈ Ts) (h2 : Cond.static Lib.Math.max.name ∈ Ts) (h3 : Cond.initialized "java/lang/Math" ∈ Ts) (h4 : Cond.code Lib.Math.max.name Lib.Math.max.code 2 (some .int) ∈ Ts) (hf : 1 ≤ R.frames) (hlo : (st.map fun v => v.category).sum + 13 ≤ R.locals) (hk1 : k ≤ R.cells) (hn1 : n ≤ R.slots)
    (kk : V E X R cc nL Ts own k n h lo (pc + 3) (.int (if x < y then y else x) :: st)) : V E X R cc nL Ts own k n h lo pc (.int y :: .int x :: st) := by
  obtain ⟨⟨p, l, e, s, m, args, below, meth, c⟩, Q, A, tb⟩ := X
  intro S hk hA hE H locs ls hW hd hS hs
  exact va_mmax S.1 S.2.1 (S.2.2.1.trans hs.1.symm) S.2.2.2.1 (S.2.2.2.2 _ h1) (S.2.2.2.2 _ h2) (S.2.2.2.2 _ h3) (S.2.2.2.2 _ h4) hf hlo hk1 hn1 hd0 (kk S hk hA hE H locs ls hW hd hS hs)
theorem r_cast {C : String} {T : u_T} {N ci i a : Nat} {fs : List Value} (hd0 : decode cc pc = .ok (.checkcast i, 3)) (hcl : Cond.classLink own i C ∈ Ts) (he : h a = some (.inr (ci, fs))) (hc : kcl[ci]? = some (C, T, N)) (kk : V E X R cc nL Ts own k n h lo (pc + 3) (.ref a :: st)) : V E X R cc nL Ts own k n h lo pc (.ref a :: st) := by
  obtain ⟨⟨p, l, e, s, m, args, below, meth, c⟩, Q, A, tb⟩ := X
  intro S hk hA hE H locs ls hW hd hS hs
  exact va_castS S.1 S.2.1 S.2.2.2.1 (S.2.2.2.2 _ hcl) (hE.1.1.1 ci _ hc).2 (va_recv hE.1.1 (kWd_P hW he) (q0 := 0) hc rfl) hd0 (kk S hk hA hE H locs ls hW hd hS hs)
theorem r_sub {h2 : kH} (hs0 : ∀ q z, h2 q = some z → h q = some z) (kk : V E X R cc nL Ts own k n h2 lo pc st) : V E X R cc nL Ts own k n h lo pc st := by
  obtain ⟨⟨p, l, e, s, m, args, below, meth, c⟩, Q, A, tb⟩ := X
  intro S hk hA hE H locs ls hW hd hS hs
  exact kk S hk hA hE H locs ls (fun a z hz => hW a z (hs0 a z hz)) (fun q z hz => hd q z (hs0 q z hz)) hS hs
theorem r_mmin {i : Nat} (hd0 : decode cc pc = .ok (.invokestatic i, 3)) (h1 : Cond.methodLink own i Lib.Math.min.name ∈ Ts) (h2 : Cond.static Lib.Math.min.name ∈ Ts) (h3 : Cond.initialized "java/lang/Math" ∈ Ts) (h4 : Cond.code Lib.Math.min.name Lib.Math.min.code 2 (some .int) ∈ Ts) (hf : 1 ≤ R.frames) (hlo : (st.map fun v => v.category).sum + 13 ≤ R.locals) (hk1 : k ≤ R.cells) (hn1 : n ≤ R.slots)
    (kk : V E X R cc nL Ts own k n h lo (pc + 3) (.int (if y < x then y else x) :: st)) : V E X R cc nL Ts own k n h lo pc (.int y :: .int x :: st) := by
  obtain ⟨⟨p, l, e, s, m, args, below, meth, c⟩, Q, A, tb⟩ := X
  intro S hk hA hE H locs ls hW hd hS hs
  exact va_mmin S.1 S.2.1 (S.2.2.1.trans hs.1.symm) S.2.2.2.1 (S.2.2.2.2 _ h1) (S.2.2.2.2 _ h2) (S.2.2.2.2 _ h3) (S.2.2.2.2 _ h4) hf hlo hk1 hn1 hd0 (kk S hk hA hE H locs ls hW hd hS hs)
theorem r_empty {i : Nat} (hd0 : decode cc pc = .ok (.getstatic i, 3)) (hw : Cond.fieldLink own i RJx4a65c "DEFAULTCAPACITY_EMPTY_ELEMENTDATA" "[Ljava/lang/Object;" ∈ Ts) (kk : V E X R cc nL Ts own k n h lo (pc + 3) (.ref (kN E) :: st)) : V E X R cc nL Ts own k n h lo pc st := by
  obtain ⟨⟨p, l, e, s, m, args, below, meth, c⟩, Q, A, tb⟩ := X
  intro S hk hA hE H locs ls hW hd hS hs
  exact va_gets S.1 S.2.1 hE.2.2.2.1 hS S.2.2.2.1 (S.2.2.2.2 _ hw) (fun _ z => z) hd0 (kk S hk hA hE H locs ls hW hd hS hs)
theorem r_elen (hd0 : decode cc pc = .ok (.arraylength, 1)) (kk : V E X R cc nL Ts own k n h lo (pc + 1) (.int 0 :: st)) : V E X R cc nL Ts own k n h lo pc (.ref (kN E) :: st) := by
  obtain ⟨⟨p, l, e, s, m, args, below, meth, c⟩, Q, A, tb⟩ := X
  intro S hk hA hE H locs ls hW hd hS hs
  exact va_tlen S.1 S.2.1 hE.2.2.2.2 hS rfl hd0 (kk S hk hA hE H locs ls hW hd hS hs)
/-- the empty array of the JDK is no cell of the map -/
theorem r_kN (kk : h (kN E) = none → V E X R cc nL Ts own k n h lo pc st) : V E X R cc nL Ts own k n h lo pc st := by
  cases hz : h (kN E) with
  | none => exact kk hz
  | some z =>
    obtain ⟨⟨p, l, e, s, m, args, below, meth, c⟩, Q, A, tb⟩ := X
    intro S hk hA hE H locs ls hW hd hS hs
    obtain ⟨cell, h1, h2, h3, h4, h5, h6, h7⟩ := hE.2.2.2.2
    exact absurd (hd _ z hz) h7
theorem r_ldcM {i : Nat} (hd0 : decode cc pc = .ok (.ldc i, 2)) (hw : Cond.classLink own i "[Ljava/lang/Object;" ∈ Ts) (kk : V E X R cc nL Ts own k n h lo (pc + 2) (.ref (kMi E) :: st)) : V E X R cc nL Ts own k n h lo pc st := by
  obtain ⟨⟨p, l, e, s, m, args, below, meth, c⟩, Q, A, tb⟩ := X
  intro S hk hA hE H locs ls hW hd hS hs
  exact va_ldcM S.1 S.2.1 S.2.2.2.1 (S.2.2.2.2 _ hw) hE.1.2.2.2.2.2.2.1 hd0 (kk S hk hA hE H locs ls hW hd hS hs)
theorem kO_cls {E : kE} {s : State} {H : Heap} {h : kH} {a N : Nat} {f : Nat → Option Nat} (hK : va_K E.1 kcl (ktys E) s) (hW : kWd E h H) (he : h a = some (.inl (kO E, N, .inr (.inr (.inr (.inr f)))))) : ∃ cell : Cell, H[a]? = some cell ∧ cell.vm.isStatics = false ∧ s.vm.findClass "[Ljava/lang/Object;" = some cell.cls := by
  obtain ⟨_, _, _, _, _, a2⟩ := (hK.2 2 (kO E, .object "java/lang/Object") rfl).2
  have h1 := hW a _ he
  exact ⟨_, h1, rfl, a2⟩
theorem r_getC {i a N : Nat} {f : Nat → Option Nat} (hd0 : decode cc pc = .ok (.invokevirtual i, 3)) (h1 : Cond.methodLink own i ⟨"java/lang/Object", "getClass", "()Ljava/lang/Class;"⟩ ∈ Ts) (h2 : Cond.selects "[Ljava/lang/Object;" ⟨"java/lang/Object", "getClass", "()Ljava/lang/Class;"⟩ ⟨"java/lang/Object", "getClass", "()Ljava/lang/Class;"⟩ ∈ Ts) (h3 : Cond.instanceMethod ⟨"java/lang/Object", "getClass", "()Ljava/lang/Class;"⟩ ∈ Ts) (h4 : Cond.native ⟨"java/lang/Object", "getClass", "()Ljava/lang/Class;"⟩ ∈ Ts) (he : h a = some (.inl (kO E, N, .inr (.inr (.inr (.inr f)))))) (hf : 1 ≤ R.frames) (hlo : (st.map fun v => v.category).sum + 14 ≤ R.locals)
    (kk : V E X R cc nL Ts own k n h lo (pc + 3) (.ref (kMi E) :: st)) : V E X R cc nL Ts own k n h lo pc (.ref a :: st) := by
  obtain ⟨⟨p, l, e, s, m, args, below, meth, c⟩, Q, A, tb⟩ := X
  intro S hk hA hE H locs ls hW hd hS hs
  exact va_getC S.1 S.2.1 (S.2.2.1.trans hs.1.symm) S.2.2.2.1 (S.2.2.2.2 _ h1) (va_Dc.use hE.1.2.2.2.2.2.2.2) (S.2.2.2.2 _ h2) (S.2.2.2.2 _ h3) (S.2.2.2.2 _ h4) hE.1.2.2.2.2.2.2.1 (kO_cls hE.1.1 hW he) hf hlo hd0 (kk S hk hA hE H locs ls hW hd hS hs)
theorem r_aast {a N j v ci : Nat} {f : Nat → Option Nat} {vs : List Value} {C : String} {T : u_T} {M : Nat} (hd0 : decode cc pc = .ok (.aastore, 1)) (he : h a = some (.inl (kO E, N, .inr (.inr (.inr (.inr f)))))) (hj : j < N) (hN : N < 2 ^ 31) (hv : h v = some (.inr (ci, vs))) (hc : kcl[ci]? = some (C, T, M)) (hca : (C, "java/lang/Object") ∈ kCast)
    (kk : V E X R cc nL Ts own k n (kup h a (.inl (kO E, N, .inr (.inr (.inr (.inr (va_up f j (some v)))))))) lo (pc + 1) st) : V E X R cc nL Ts own k n h lo pc (.ref v :: .int (nI j) :: .ref a :: st) := by
  obtain ⟨⟨p, l, e, s, m, args, below, meth, c⟩, Q, A, tb⟩ := X
  intro S hk hA hE H locs ls hW hd hS hs
  obtain ⟨q0, hq⟩ := kL_at hW he
  obtain ⟨qk, hqk⟩ := kL_at hW hv
  refine va_astqO S.1 S.2.1 hE.1.1 (kL_P hW) (kL_D hd) hS q0 2 qk ci hq rfl (hE.1.2.2.1 _ hca) hqk hc (vp_in_nI hj hN) hd0 (fun H1 locs1 hP1 hD1 hS1 => ?_)
  rw [nI_clamp (by omega)] at hP1
  exact kk S hk hA hE H1 locs1 ls (kWd_set hW hq hP1) (kdom_up hd (hd a _ he)) hS1 hs
theorem r_copy {i a0 a1 n0 n1 m ci : Nat} {f g : Nat → Option Nat} {C : String} {T : u_T} {M : Nat} (hd0 : decode cc pc = .ok (.invokestatic i, 3)) (h1 : Cond.methodLink own i arraycopyName ∈ Ts) (h2 : Cond.native arraycopyName ∈ Ts) (h3 : Cond.static arraycopyName ∈ Ts) (h4 : Cond.initialized "java/lang/System" ∈ Ts) (he0 : h a0 = some (.inl (kO E, n0, .inr (.inr (.inr (.inr f)))))) (he1 : h a1 = some (.inl (kO E, n1, .inr (.inr (.inr (.inr g)))))) (hm0 : m ≤ n0) (hm1 : m ≤ n1) (hm : m < 2 ^ 31) (hc : kcl[ci]? = some (C, T, M)) (hca : (C, "java/lang/Object") ∈ kCast) (hel : ∀ j, j < m → ∀ y, f j = some y → ∃ fs, h y = some (.inr (ci, fs))) (hf : 1 ≤ R.frames) (hlo : (st.map fun v => v.category).sum + (nativeFrameWords "java/lang/System" "arraycopy" 5 + 11) ≤ R.locals)
    (kk : V E X R cc nL Ts own k n (kup h a1 (.inl (kO E, n1, .inr (.inr (.inr (.inr (va_cpy f g 0 0 m))))))) lo (pc + 3) st) : V E X R cc nL Ts own k n h lo pc (.int (nI m) :: .int 0 :: .ref a1 :: .int 0 :: .ref a0 :: st) := by
  obtain ⟨⟨p, l, e, s, m', args, below, meth, c⟩, Q, A, tb⟩ := X
  intro S hk hA hE H locs ls hW hd hS hs
  obtain ⟨q0, hq0⟩ := kL_at hW he0
  obtain ⟨q1, hq1⟩ := kL_at hW he1
  have e0 : (0 : Int32).toNatClampNeg = 0 := rfl
  have em : (nI m).toNatClampNeg = m := nI_clamp hm
  refine va_copyq (C := C) S.1 S.2.1 (S.2.2.1.trans hs.1.symm) S.2.2.2.1 (S.2.2.2.2 _ h1) (S.2.2.2.2 _ h2) (S.2.2.2.2 _ h3) (S.2.2.2.2 _ h4) hE.1.1 (kL_P hW) (kL_D hd) hS q0 q1 2 2 hq0 hq1 rfl rfl (by decide) (by decide) (nI_pos hm) (by rw [e0, em]; omega) (by rw [e0, em]; omega) (fun j hj y hy => ?_) (fun comp c0 hco hc0 => ?_) hf hlo hd0 (fun H1 locs1 hP1 hD1 hS1 => ?_)
  · rw [em] at hj
    rw [e0, Nat.zero_add] at hy
    obtain ⟨fs, hfs⟩ := hel j hj y hy
    exact va_recv hE.1.1 (kWd_P hW hfs) (q0 := 0) hc rfl
  · obtain ⟨x0, x1, f1, f2, f3⟩ := Cond.castable_spec (va_Nw.use (A := args) rfl (hE.1.2.2.1 _ hca))
    cases hc0.symm.trans f1
    cases hco.symm.trans f2
    exact f3
  · rw [e0, em] at hP1
    exact kk S hk hA hE H1 locs1 ls (kWd_set hW hq1 hP1) (kdom_up hd (hd a1 _ he1)) hS1 hs
theorem r_objInit {i a : Nat} (hd0 : decode cc pc = .ok (.invokespecial i, 3)) (h1 : Cond.methodLink own i objectInit ∈ Ts) (h2 : Cond.instanceMethod objectInit ∈ Ts) (h3 : Cond.code objectInit ⟨#[0xb1]⟩ 1 none ∈ Ts) (hf : 1 ≤ R.frames) (hlo : 2 * 0 + ((st).map fun v => v.category).sum + 12 ≤ R.locals) (kk : V E X R cc nL Ts own k n h lo (pc + 3) st) : V E X R cc nL Ts own k n h lo pc (.ref a :: st) := by
  obtain ⟨⟨p, l, e, s, m, args, below, meth, c⟩, Q, A, tb⟩ := X
  intro S hk hA hE H locs ls hW hd hS hs
  exact W.objInit S.1 S.2.1 S.2.2.2.1 (S.2.2.2.2 _ h1) (S.2.2.2.2 _ h2) (S.2.2.2.2 _ h3) rfl (by rw [S.2.2.1]; exact hs.1) rfl hd0 hf hlo (kk S hk hA hE H locs ls hW hd hS hs)

end KR