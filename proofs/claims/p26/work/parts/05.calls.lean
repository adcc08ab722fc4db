/-! contracts over the map, and calls of them -/
def kPc (E : kE) (h : kH) (sz : Nat) : State → Prop := fun U => U.heap.size = sz ∧ kT E U ∧ kZs E (kA h sz) U U.heap ∧ kWd E h U.heap
def kB (E : kE) (h0 : kH) (sz : Nat) (h' : kH) (t : State) : Prop := kWd E h' t.heap ∧ ∀ q z, h' q = some z → kA h0 sz q
def kXQ (E : kE) (h0 : kH) (sz : Nat) (px : String → kH → Prop) : String → State → State → Prop := vx_X (fun u : String × kH => px u.1 u.2) (fun Ec u t => Ec = u.1 ∧ kB E h0 sz u.2 t) (kA h0 sz)
abbrev kQi (E : kE) (h : kH) (sz : Nat) (post : Int32 → kH → Prop) := va_Qi post (kB E h sz) (kA h sz)
abbrev kQq (E : kE) (h : kH) (sz : Nat) (post : Option Nat → kH → Prop) := va_Qq post (kB E h sz) (kA h sz)
abbrev kQv (E : kE) (h : kH) (sz : Nat) (post : kH → Prop) := va_Qv post (kB E h sz) (kA h sz)

def kCi (E : kE) (y : MethodName) (ws : List Cond) (rm : Room) (mc ms : Nat) (av : List Value) (h : kH) (post : Int32 → kH → Prop) : Prop := ∀ (l : Launch) (sz : Nat), l.stackTraces = false → Met l y ws rm (va_Pc av (kPc E h sz)) (kQi E h sz post) mc ms (kA h sz)
def kXi (E : kE) (y : MethodName) (ws : List Cond) (rm : Room) (mc ms : Nat) (av : List Value) (h : kH) (px : String → kH → Prop) (post : Int32 → kH → Prop) : Prop := ∀ (l : Launch) (sz : Nat), l.stackTraces = false → vx_Met l y ws rm (va_Pc av (kPc E h sz)) (kQi E h sz post) (kXQ E h sz px) mc ms (kA h sz)
def kCq (E : kE) (y : MethodName) (ws : List Cond) (rm : Room) (mc ms : Nat) (av : List Value) (h : kH) (post : Option Nat → kH → Prop) : Prop := ∀ (l : Launch) (sz : Nat), l.stackTraces = false → Met l y ws rm (va_Pc av (kPc E h sz)) (kQq E h sz post) mc ms (kA h sz)
def kXq (E : kE) (y : MethodName) (ws : List Cond) (rm : Room) (mc ms : Nat) (av : List Value) (h : kH) (px : String → kH → Prop) (post : Option Nat → kH → Prop) : Prop := ∀ (l : Launch) (sz : Nat), l.stackTraces = false → vx_Met l y ws rm (va_Pc av (kPc E h sz)) (kQq E h sz post) (kXQ E h sz px) mc ms (kA h sz)
def kCv (E : kE) (y : MethodName) (ws : List Cond) (rm : Room) (mc ms : Nat) (av : List Value) (h : kH) (post : kH → Prop) : Prop := ∀ (l : Launch) (sz : Nat), l.stackTraces = false → Met l y ws rm (va_Pc av (kPc E h sz)) (kQv E h sz post) mc ms (kA h sz)
def kXv (E : kE) (y : MethodName) (ws : List Cond) (rm : Room) (mc ms : Nat) (av : List Value) (h : kH) (px : String → kH → Prop) (post : kH → Prop) : Prop := ∀ (l : Launch) (sz : Nat), l.stackTraces = false → vx_Met l y ws rm (va_Pc av (kPc E h sz)) (kQv E h sz post) (kXQ E h sz px) mc ms (kA h sz)
theorem kPc_blind {E : kE} {h : kH} {sz : Nat} {av : List Value} : FrameBlind (va_Pc av (kPc E h sz)) := fun a U g mk q => ⟨q.1, q.2.1, kT_same (U := U.calling g mk a) rfl q.2.2.1, kZs_moved (U := U.calling g mk a) (Vm.Alike.refl U.vm) q.2.2.2.1, q.2.2.2.2⟩
theorem kAq {A : Nat → Prop} {h : kH} {H0 H : Heap} {locs : List Loc} (hA : ∀ q, H0.size ≤ q → A q) (hd : ∀ q z, h q = some z → A q) (hS : va_S A H0 H locs) : ∀ q, kA h H.size q → A q := by
  intro q hq
  rcases hq with hq | hq
  · cases c : h q with
    | none => exact absurd c hq
    | some z => exact hd q z c
  · exact hA q (Nat.le_trans hS.1 hq)
theorem kPc_at {E : kE} {A : Nat → Prop} {h : kH} {s U : State} {H : Heap} {locs : List Loc} {av : List Value} (hA : ∀ q, s.heap.size ≤ q → A q) (hE : kT E s ∧ kZs E A s s.heap) (hW : kWd E h H) (hd : ∀ q z, h q = some z → A q) (hS : va_S A s.heap H locs) (hU : U.heap = H) (hw : s.WarmedH U.vm) : va_Pc av (kPc E h H.size) av.toArray U := by
  subst hU
  exact ⟨rfl, rfl, kT_warm hw hE.1, kZs_moved hw.alike (kZs_narrow (kZs_kept hE.2 (fun a h1 h2 => hS.2.1 a h1 h2)) (kAq hA hd hS)), hW⟩
theorem kdom0 {h : kH} {sz : Nat} : ∀ q z, h q = some z → kA h sz q := fun q z hz => Or.inl (by rw [hz]; simp)
section KC
variable {E : kE} {X : kX} {R : Room} {cc : ByteArray} {nL : Nat} {Ts : List Cond} {own : String} {k n : Nat} {h : kH} {lo lo' : List (Nat × Value)} {pc tgt : Nat} {st : List Value} {x v : Int32}
variable {y : MethodName} {bytes : ByteArray} {maxL mc ms nn i ci b : Nat} {ret : Option FieldType} {ws ws' : List Cond} {rm : Room} {C : String} {T : u_T} {N : Nat} {As stk : List Value} {fs : List Value} {px : String → kH → Prop}

theorem r_callVi {post : Int32 → kH → Prop} (hd0 : decode cc pc = .ok (.invokevirtual i, 3)) (hC : kCi E y ws rm mc ms (.ref b :: As) h post) (hg : GoodIn Ts (wsV own i C y ws)) (hw : ws = Cond.code y bytes maxL ret :: ws') (hy : y.cls = C ∧ y.cls ≠ "java/lang/invoke/MethodHandle" ∧ y.cls ≠ "java/lang/invoke/VarHandle" ∧ (parseMethodDescriptor y.desc).map (fun d => d.parameters.length) = some nn) (hR : rm.frames + 1 ≤ R.frames ∧ 8 + (maxL + 11) + rm.locals ≤ R.locals) (hrm : rm.cells = mc ∧ rm.slots = ms) (he : h b = some (.inr (ci, fs))) (hc : kcl[ci]? = some (C, T, N)) (hn : As.length = nn) (hcat : (st.map fun v => v.category).sum ≤ 8) (hroom : k + mc ≤ R.cells ∧ n + ms ≤ R.slots) (hst : stk = As.reverse ++ .ref b :: st)
    (kk : ∀ r h', post r h' → V E X R cc nL Ts own (k + mc) (n + ms) h' lo (pc + 3) (.int r :: st)) : V E X R cc nL Ts own k n h lo pc stk := by
  obtain ⟨⟨p, l, e, s, m, args, below, meth, c⟩, Q, A, tb⟩ := X
  intro S hk hA hE H locs ls hW hd hS hs
  subst hst
  exact va_calli (va_runV (As := As) (rest := st) ⟨S.1, S.2.1, S.2.2.1, S.2.2.2.1, S.2.2.2.2⟩ (hC l H.size hk.2.1) (cwV nn S.2.2.2.2 hg hw hrm.1 hrm.2 hy hR) ⟨kPc_blind, va_recv hE.1.1 (kWd_P hW he) (q0 := 0) hc rfl, fun U hU hw2 => kPc_at hA hE hW hd hS hU hw2⟩ rfl hn hs.1 rfl (lv_room hcat) hd0 hroom) hS (fun q _ hq => kAq hA hd hS q hq) (fun q hq => kAq hA hd hS q hq) (fun r h' t H1 locs1 ht hvm hp hB hz hkeep hS1 => kk r h' hp S hk hA hE H1 locs1 ls (by rw [← ht]; exact hB.1) (fun q z hz9 => kAq hA hd hS q (hB.2 q z hz9)) hS1 hs)

theorem r_callSi {post : Int32 → kH → Prop} (hd0 : decode cc pc = .ok (.invokestatic i, 3)) (hC : kCi E y ws rm mc ms As h post) (hg : GoodIn Ts (va_wsS own i y ws)) (hw : ws = Cond.code y bytes maxL ret :: ws') (hy : y.cls ≠ "java/lang/invoke/MethodHandle" ∧ y.cls ≠ "java/lang/invoke/VarHandle" ∧ (parseMethodDescriptor y.desc).map (fun d => d.parameters.length) = some nn) (hR : rm.frames + 1 ≤ R.frames ∧ 8 + (maxL + 11) + rm.locals ≤ R.locals) (hrm : rm.cells = mc ∧ rm.slots = ms) (hn : As.length = nn) (hcat : (st.map fun v => v.category).sum ≤ 8) (hroom : k + mc ≤ R.cells ∧ n + ms ≤ R.slots) (hst : stk = As.reverse ++ st)
    (kk : ∀ r h', post r h' → V E X R cc nL Ts own (k + mc) (n + ms) h' lo (pc + 3) (.int r :: st)) : V E X R cc nL Ts own k n h lo pc stk := by
  obtain ⟨⟨p, l, e, s, m, args, below, meth, c⟩, Q, A, tb⟩ := X
  intro S hk hA hE H locs ls hW hd hS hs
  subst hst
  exact va_calli (va_runS (As := As) (rest := st) ⟨S.1, S.2.1, S.2.2.1, S.2.2.2.1, S.2.2.2.2⟩ (hC l H.size hk.2.1) (va_cwS nn S.2.2.2.2 hg hw hrm.1 hrm.2 hy hR) ⟨kPc_blind, fun U hU hw2 => kPc_at hA hE hW hd hS hU hw2⟩ rfl hn hs.1 rfl (lv_room hcat) hd0 hroom) hS (fun q _ hq => kAq hA hd hS q hq) (fun q hq => kAq hA hd hS q hq) (fun r h' t H1 locs1 ht hvm hp hB hz hkeep hS1 => kk r h' hp S hk hA hE H1 locs1 ls (by rw [← ht]; exact hB.1) (fun q z hz9 => kAq hA hd hS q (hB.2 q z hz9)) hS1 hs)

theorem r_callXVi {post : Int32 → kH → Prop} (hd0 : decode cc pc = .ok (.invokevirtual i, 3)) (hC : kXi E y ws rm mc ms (.ref b :: As) h px post) (hg : GoodIn Ts (wsV own i C y ws)) (hw : ws = Cond.code y bytes maxL ret :: ws') (hy : y.cls = C ∧ y.cls ≠ "java/lang/invoke/MethodHandle" ∧ y.cls ≠ "java/lang/invoke/VarHandle" ∧ (parseMethodDescriptor y.desc).map (fun d => d.parameters.length) = some nn) (hR : rm.frames + 1 ≤ R.frames ∧ 8 + (maxL + 11) + rm.locals ≤ R.locals) (hrm : rm.cells = mc ∧ rm.slots = ms) (he : h b = some (.inr (ci, fs))) (hc : kcl[ci]? = some (C, T, N)) (hn : As.length = nn) (hcat : (st.map fun v => v.category).sum ≤ 8) (hroom : k + mc ≤ R.cells ∧ n + ms ≤ R.slots) (hst : stk = As.reverse ++ .ref b :: st)
    (kx : ∀ Ec h', px Ec h' → VX E X R cc nL Ts own (k + mc) (n + ms) h' lo pc Ec) (kk : ∀ r h', post r h' → V E X R cc nL Ts own (k + mc) (n + ms) h' lo (pc + 3) (.int r :: st)) : V E X R cc nL Ts own k n h lo pc stk := by
  obtain ⟨⟨p, l, e, s, m, args, below, meth, c⟩, Q, A, tb⟩ := X
  intro S hk hA hE H locs ls hW hd hS hs
  subst hst
  exact vx_calli (vx_runV (As := As) (rest := st) ⟨S.1, S.2.1, S.2.2.1, S.2.2.2.1, S.2.2.2.2⟩ (hC l H.size hk.2.1) (cwV nn S.2.2.2.2 hg hw hrm.1 hrm.2 hy hR) ⟨kPc_blind, va_recv hE.1.1 (kWd_P hW he) (q0 := 0) hc rfl, fun U hU hw2 => kPc_at hA hE hW hd hS hU hw2⟩ rfl hn hs.1 rfl (lv_room hcat) hd0 hroom) hS (fun q _ hq => kAq hA hd hS q hq) (fun q hq => kAq hA hd hS q hq) (fun q _ hq => kAq hA hd hS q hq) (fun Ec ce q9 u t H1 locs1 ht hvm hp hB hz hkeep hS1 hc1 hc2 hc3 => by obtain ⟨rfl, hB1, hB2⟩ := hB; exact kx _ u.2 hp S hk hA hE H1 locs1 ls _ ce q9 (by rw [← ht]; exact hB1) (fun q z hz9 => kAq hA hd hS q (hB2 q z hz9)) hS1 hs hc1 hc2 hc3) (fun r h' t H1 locs1 ht hvm hp hB hz hkeep hS1 => kk r h' hp S hk hA hE H1 locs1 ls (by rw [← ht]; exact hB.1) (fun q z hz9 => kAq hA hd hS q (hB.2 q z hz9)) hS1 hs)

theorem r_callXSi {post : Int32 → kH → Prop} (hd0 : decode cc pc = .ok (.invokestatic i, 3)) (hC : kXi E y ws rm mc ms As h px post) (hg : GoodIn Ts (va_wsS own i y ws)) (hw : ws = Cond.code y bytes maxL ret :: ws') (hy : y.cls ≠ "java/lang/invoke/MethodHandle" ∧ y.cls ≠ "java/lang/invoke/VarHandle" ∧ (parseMethodDescriptor y.desc).map (fun d => d.parameters.length) = some nn) (hR : rm.frames + 1 ≤ R.frames ∧ 8 + (maxL + 11) + rm.locals ≤ R.locals) (hrm : rm.cells = mc ∧ rm.slots = ms) (hn : As.length = nn) (hcat : (st.map fun v => v.category).sum ≤ 8) (hroom : k + mc ≤ R.cells ∧ n + ms ≤ R.slots) (hst : stk = As.reverse ++ st)
    (kx : ∀ Ec h', px Ec h' → VX E X R cc nL Ts own (k + mc) (n + ms) h' lo pc Ec) (kk : ∀ r h', post r h' → V E X R cc nL Ts own (k + mc) (n + ms) h' lo (pc + 3) (.int r :: st)) : V E X R cc nL Ts own k n h lo pc stk := by
  obtain ⟨⟨p, l, e, s, m, args, below, meth, c⟩, Q, A, tb⟩ := X
  intro S hk hA hE H locs ls hW hd hS hs
  subst hst
  exact vx_calli (vx_runS (As := As) (rest := st) ⟨S.1, S.2.1, S.2.2.1, S.2.2.2.1, S.2.2.2.2⟩ (hC l H.size hk.2.1) (va_cwS nn S.2.2.2.2 hg hw hrm.1 hrm.2 hy hR) ⟨kPc_blind, fun U hU hw2 => kPc_at hA hE hW hd hS hU hw2⟩ rfl hn hs.1 rfl (lv_room hcat) hd0 hroom) hS (fun q _ hq => kAq hA hd hS q hq) (fun q hq => kAq hA hd hS q hq) (fun q _ hq => kAq hA hd hS q hq) (fun Ec ce q9 u t H1 locs1 ht hvm hp hB hz hkeep hS1 hc1 hc2 hc3 => by obtain ⟨rfl, hB1, hB2⟩ := hB; exact kx _ u.2 hp S hk hA hE H1 locs1 ls _ ce q9 (by rw [← ht]; exact hB1) (fun q z hz9 => kAq hA hd hS q (hB2 q z hz9)) hS1 hs hc1 hc2 hc3) (fun r h' t H1 locs1 ht hvm hp hB hz hkeep hS1 => kk r h' hp S hk hA hE H1 locs1 ls (by rw [← ht]; exact hB.1) (fun q z hz9 => kAq hA hd hS q (hB.2 q z hz9)) hS1 hs)

theorem r_callVq {post : Option Nat → kH → Prop} (hd0 : decode cc pc = .ok (.invokevirtual i, 3)) (hC : kCq E y ws rm mc ms (.ref b :: As) h post) (hg : GoodIn Ts (wsV own i C y ws)) (hw : ws = Cond.code y bytes maxL ret :: ws') (hy : y.cls = C ∧ y.cls ≠ "java/lang/invoke/MethodHandle" ∧ y.cls ≠ "java/lang/invoke/VarHandle" ∧ (parseMethodDescriptor y.desc).map (fun d => d.parameters.length) = some nn) (hR : rm.frames + 1 ≤ R.frames ∧ 8 + (maxL + 11) + rm.locals ≤ R.locals) (hrm : rm.cells = mc ∧ rm.slots = ms) (he : h b = some (.inr (ci, fs))) (hc : kcl[ci]? = some (C, T, N)) (hn : As.length = nn) (hcat : (st.map fun v => v.category).sum ≤ 8) (hroom : k + mc ≤ R.cells ∧ n + ms ≤ R.slots) (hst : stk = As.reverse ++ .ref b :: st)
    (kk : ∀ r h', post r h' → V E X R cc nL Ts own (k + mc) (n + ms) h' lo (pc + 3) (va_rf r :: st)) : V E X R cc nL Ts own k n h lo pc stk := by
  obtain ⟨⟨p, l, e, s, m, args, below, meth, c⟩, Q, A, tb⟩ := X
  intro S hk hA hE H locs ls hW hd hS hs
  subst hst
  exact va_callq (va_runV (As := As) (rest := st) ⟨S.1, S.2.1, S.2.2.1, S.2.2.2.1, S.2.2.2.2⟩ (hC l H.size hk.2.1) (cwV nn S.2.2.2.2 hg hw hrm.1 hrm.2 hy hR) ⟨kPc_blind, va_recv hE.1.1 (kWd_P hW he) (q0 := 0) hc rfl, fun U hU hw2 => kPc_at hA hE hW hd hS hU hw2⟩ rfl hn hs.1 rfl (lv_room hcat) hd0 hroom) hS (fun q _ hq => kAq hA hd hS q hq) (fun q hq => kAq hA hd hS q hq) (fun r h' t H1 locs1 ht hvm hp hB hz hkeep hS1 => kk r h' hp S hk hA hE H1 locs1 ls (by rw [← ht]; exact hB.1) (fun q z hz9 => kAq hA hd hS q (hB.2 q z hz9)) hS1 hs)

theorem r_callSq {post : Option Nat → kH → Prop} (hd0 : decode cc pc = .ok (.invokestatic i, 3)) (hC : kCq E y ws rm mc ms As h post) (hg : GoodIn Ts (va_wsS own i y ws)) (hw : ws = Cond.code y bytes maxL ret :: ws') (hy : y.cls ≠ "java/lang/invoke/MethodHandle" ∧ y.cls ≠ "java/lang/invoke/VarHandle" ∧ (parseMethodDescriptor y.desc).map (fun d => d.parameters.length) = some nn) (hR : rm.frames + 1 ≤ R.frames ∧ 8 + (maxL + 11) + rm.locals ≤ R.locals) (hrm : rm.cells = mc ∧ rm.slots = ms) (hn : As.length = nn) (hcat : (st.map fun v => v.category).sum ≤ 8) (hroom : k + mc ≤ R.cells ∧ n + ms ≤ R.slots) (hst : stk = As.reverse ++ st)
    (kk : ∀ r h', post r h' → V E X R cc nL Ts own (k + mc) (n + ms) h' lo (pc + 3) (va_rf r :: st)) : V E X R cc nL Ts own k n h lo pc stk := by
  obtain ⟨⟨p, l, e, s, m, args, below, meth, c⟩, Q, A, tb⟩ := X
  intro S hk hA hE H locs ls hW hd hS hs
  subst hst
  exact va_callq (va_runS (As := As) (rest := st) ⟨S.1, S.2.1, S.2.2.1, S.2.2.2.1, S.2.2.2.2⟩ (hC l H.size hk.2.1) (va_cwS nn S.2.2.2.2 hg hw hrm.1 hrm.2 hy hR) ⟨kPc_blind, fun U hU hw2 => kPc_at hA hE hW hd hS hU hw2⟩ rfl hn hs.1 rfl (lv_room hcat) hd0 hroom) hS (fun q _ hq => kAq hA hd hS q hq) (fun q hq => kAq hA hd hS q hq) (fun r h' t H1 locs1 ht hvm hp hB hz hkeep hS1 => kk r h' hp S hk hA hE H1 locs1 ls (by rw [← ht]; exact hB.1) (fun q z hz9 => kAq hA hd hS q (hB.2 q z hz9)) hS1 hs)

theorem r_callXVq {post : Option Nat → kH → Prop} (hd0 : decode cc pc = .ok (.invokevirtual i, 3)) (hC : kXq E y ws rm mc ms (.ref b :: As) h px post) (hg : GoodIn Ts (wsV own i C y ws)) (hw : ws = Cond.code y bytes maxL ret :: ws') (hy : y.cls = C ∧ y.cls ≠ "java/lang/invoke/MethodHandle" ∧ y.cls ≠ "java/lang/invoke/VarHandle" ∧ (parseMethodDescriptor y.desc).map (fun d => d.parameters.length) = some nn) (hR : rm.frames + 1 ≤ R.frames ∧ 8 + (maxL + 11) + rm.locals ≤ R.locals) (hrm : rm.cells = mc ∧ rm.slots = ms) (he : h b = some (.inr (ci, fs))) (hc : kcl[ci]? = some (C, T, N)) (hn : As.length = nn) (hcat : (st.map fun v => v.category).sum ≤ 8) (hroom : k + mc ≤ R.cells ∧ n + ms ≤ R.slots) (hst : stk = As.reverse ++ .ref b :: st)
    (kx : ∀ Ec h', px Ec h' → VX E X R cc nL Ts own (k + mc) (n + ms) h' lo pc Ec) (kk : ∀ r h', post r h' → V E X R cc nL Ts own (k + mc) (n + ms) h' lo (pc + 3) (va_rf r :: st)) : V E X R cc nL Ts own k n h lo pc stk := by
  obtain ⟨⟨p, l, e, s, m, args, below, meth, c⟩, Q, A, tb⟩ := X
  intro S hk hA hE H locs ls hW hd hS hs
  subst hst
  exact vx_callq (vx_runV (As := As) (rest := st) ⟨S.1, S.2.1, S.2.2.1, S.2.2.2.1, S.2.2.2.2⟩ (hC l H.size hk.2.1) (cwV nn S.2.2.2.2 hg hw hrm.1 hrm.2 hy hR) ⟨kPc_blind, va_recv hE.1.1 (kWd_P hW he) (q0 := 0) hc rfl, fun U hU hw2 => kPc_at hA hE hW hd hS hU hw2⟩ rfl hn hs.1 rfl (lv_room hcat) hd0 hroom) hS (fun q _ hq => kAq hA hd hS q hq) (fun q hq => kAq hA hd hS q hq) (fun q _ hq => kAq hA hd hS q hq) (fun Ec ce q9 u t H1 locs1 ht hvm hp hB hz hkeep hS1 hc1 hc2 hc3 => by obtain ⟨rfl, hB1, hB2⟩ := hB; exact kx _ u.2 hp S hk hA hE H1 locs1 ls _ ce q9 (by rw [← ht]; exact hB1) (fun q z hz9 => kAq hA hd hS q (hB2 q z hz9)) hS1 hs hc1 hc2 hc3) (fun r h' t H1 locs1 ht hvm hp hB hz hkeep hS1 => kk r h' hp S hk hA hE H1 locs1 ls (by rw [← ht]; exact hB.1) (fun q z hz9 => kAq hA hd hS q (hB.2 q z hz9)) hS1 hs)

theorem r_callXSq {post : Option Nat → kH → Prop} (hd0 : decode cc pc = .ok (.invokestatic i, 3)) (hC : kXq E y ws rm mc ms As h px post) (hg : GoodIn Ts (va_wsS own i y ws)) (hw : ws = Cond.code y bytes maxL ret :: ws') (hy : y.cls ≠ "java/lang/invoke/MethodHandle" ∧ y.cls ≠ "java/lang/invoke/VarHandle" ∧ (parseMethodDescriptor y.desc).map (fun d => d.parameters.length) = some nn) (hR : rm.frames + 1 ≤ R.frames ∧ 8 + (maxL + 11) + rm.locals ≤ R.locals) (hrm : rm.cells = mc ∧ rm.slots = ms) (hn : As.length = nn) (hcat : (st.map fun v => v.category).sum ≤ 8) (hroom : k + mc ≤ R.cells ∧ n + ms ≤ R.slots) (hst : stk = As.reverse ++ st)
    (kx : ∀ Ec h', px Ec h' → VX E X R cc nL Ts own (k + mc) (n + ms) h' lo pc Ec) (kk : ∀ r h', post r h' → V E X R cc nL Ts own (k + mc) (n + ms) h' lo (pc + 3) (va_rf r :: st)) : V E X R cc nL Ts own k n h lo pc stk := by
  obtain ⟨⟨p, l, e, s, m, args, below, meth, c⟩, Q, A, tb⟩ := X
  intro S hk hA hE H locs ls hW hd hS hs
  subst hst
  exact vx_callq (vx_runS (As := As) (rest := st) ⟨S.1, S.2.1, S.2.2.1, S.2.2.2.1, S.2.2.2.2⟩ (hC l H.size hk.2.1) (va_cwS nn S.2.2.2.2 hg hw hrm.1 hrm.2 hy hR) ⟨kPc_blind, fun U hU hw2 => kPc_at hA hE hW hd hS hU hw2⟩ rfl hn hs.1 rfl (lv_room hcat) hd0 hroom) hS (fun q _ hq => kAq hA hd hS q hq) (fun q hq => kAq hA hd hS q hq) (fun q _ hq => kAq hA hd hS q hq) (fun Ec ce q9 u t H1 locs1 ht hvm hp hB hz hkeep hS1 hc1 hc2 hc3 => by obtain ⟨rfl, hB1, hB2⟩ := hB; exact kx _ u.2 hp S hk hA hE H1 locs1 ls _ ce q9 (by rw [← ht]; exact hB1) (fun q z hz9 => kAq hA hd hS q (hB2 q z hz9)) hS1 hs hc1 hc2 hc3) (fun r h' t H1 locs1 ht hvm hp hB hz hkeep hS1 => kk r h' hp S hk hA hE H1 locs1 ls (by rw [← ht]; exact hB.1) (fun q z hz9 => kAq hA hd hS q (hB.2 q z hz9)) hS1 hs)

theorem r_callVv {post : kH → Prop} (hd0 : decode cc pc = .ok (.invokevirtual i, 3)) (hC : kCv E y ws rm mc ms (.ref b :: As) h post) (hg : GoodIn Ts (wsV own i C y ws)) (hw : ws = Cond.code y bytes maxL ret :: ws') (hy : y.cls = C ∧ y.cls ≠ "java/lang/invoke/MethodHandle" ∧ y.cls ≠ "java/lang/invoke/VarHandle" ∧ (parseMethodDescriptor y.desc).map (fun d => d.parameters.length) = some nn) (hR : rm.frames + 1 ≤ R.frames ∧ 8 + (maxL + 11) + rm.locals ≤ R.locals) (hrm : rm.cells = mc ∧ rm.slots = ms) (he : h b = some (.inr (ci, fs))) (hc : kcl[ci]? = some (C, T, N)) (hn : As.length = nn) (hcat : (st.map fun v => v.category).sum ≤ 8) (hroom : k + mc ≤ R.cells ∧ n + ms ≤ R.slots) (hst : stk = As.reverse ++ .ref b :: st)
    (kk : ∀ h', post h' → V E X R cc nL Ts own (k + mc) (n + ms) h' lo (pc + 3) st) : V E X R cc nL Ts own k n h lo pc stk := by
  obtain ⟨⟨p, l, e, s, m, args, below, meth, c⟩, Q, A, tb⟩ := X
  intro S hk hA hE H locs ls hW hd hS hs
  subst hst
  exact va_callv (va_runV (As := As) (rest := st) ⟨S.1, S.2.1, S.2.2.1, S.2.2.2.1, S.2.2.2.2⟩ (hC l H.size hk.2.1) (cwV nn S.2.2.2.2 hg hw hrm.1 hrm.2 hy hR) ⟨kPc_blind, va_recv hE.1.1 (kWd_P hW he) (q0 := 0) hc rfl, fun U hU hw2 => kPc_at hA hE hW hd hS hU hw2⟩ rfl hn hs.1 rfl (lv_room hcat) hd0 hroom) hS (fun q _ hq => kAq hA hd hS q hq) (fun q hq => kAq hA hd hS q hq) (fun h' t H1 locs1 ht hvm hp hB hz hkeep hS1 => kk h' hp S hk hA hE H1 locs1 ls (by rw [← ht]; exact hB.1) (fun q z hz9 => kAq hA hd hS q (hB.2 q z hz9)) hS1 hs)

theorem r_callSv {post : kH → Prop} (hd0 : decode cc pc = .ok (.invokestatic i, 3)) (hC : kCv E y ws rm mc ms As h post) (hg : GoodIn Ts (va_wsS own i y ws)) (hw : ws = Cond.code y bytes maxL ret :: ws') (hy : y.cls ≠ "java/lang/invoke/MethodHandle" ∧ y.cls ≠ "java/lang/invoke/VarHandle" ∧ (parseMethodDescriptor y.desc).map (fun d => d.parameters.length) = some nn) (hR : rm.frames + 1 ≤ R.frames ∧ 8 + (maxL + 11) + rm.locals ≤ R.locals) (hrm : rm.cells = mc ∧ rm.slots = ms) (hn : As.length = nn) (hcat : (st.map fun v => v.category).sum ≤ 8) (hroom : k + mc ≤ R.cells ∧ n + ms ≤ R.slots) (hst : stk = As.reverse ++ st)
    (kk : ∀ h', post h' → V E X R cc nL Ts own (k + mc) (n + ms) h' lo (pc + 3) st) : V E X R cc nL Ts own k n h lo pc stk := by
  obtain ⟨⟨p, l, e, s, m, args, below, meth, c⟩, Q, A, tb⟩ := X
  intro S hk hA hE H locs ls hW hd hS hs
  subst hst
  exact va_callv (va_runS (As := As) (rest := st) ⟨S.1, S.2.1, S.2.2.1, S.2.2.2.1, S.2.2.2.2⟩ (hC l H.size hk.2.1) (va_cwS nn S.2.2.2.2 hg hw hrm.1 hrm.2 hy hR) ⟨kPc_blind, fun U hU hw2 => kPc_at hA hE hW hd hS hU hw2⟩ rfl hn hs.1 rfl (lv_room hcat) hd0 hroom) hS (fun q _ hq => kAq hA hd hS q hq) (fun q hq => kAq hA hd hS q hq) (fun h' t H1 locs1 ht hvm hp hB hz hkeep hS1 => kk h' hp S hk hA hE H1 locs1 ls (by rw [← ht]; exact hB.1) (fun q z hz9 => kAq hA hd hS q (hB.2 q z hz9)) hS1 hs)

theorem r_callIv {post : kH → Prop} (hd0 : decode cc pc = .ok (.invokespecial i, 3)) (hC : kCv E y ws rm mc ms (.ref b :: As) h post) (hg : GoodIn Ts ws) (hini : Cond.initialized y.cls ∈ Ts) (hli : Cond.methodLink own i y ∈ Ts) (hinst : Cond.instanceMethod y ∈ Ts) (hyi : y.name = "<init>") (hw : ws = Cond.code y bytes maxL none :: ws') (hy : y.cls ≠ "java/lang/invoke/MethodHandle" ∧ y.cls ≠ "java/lang/invoke/VarHandle" ∧ (parseMethodDescriptor y.desc).map (fun d => d.parameters.length) = some nn) (hR : rm.frames + 1 ≤ R.frames ∧ 8 + (maxL + 11) + rm.locals ≤ R.locals) (hrm : rm.cells = mc ∧ rm.slots = ms) (hn : As.length = nn) (hcat : (st.map fun v => v.category).sum ≤ 8) (hroom : k + mc ≤ R.cells ∧ n + ms ≤ R.slots) (hst : stk = As.reverse ++ .ref b :: st)
    (kk : ∀ h', post h' → V E X R cc nL Ts own (k + mc) (n + ms) h' lo (pc + 3) st) : V E X R cc nL Ts own k n h lo pc stk := by
  obtain ⟨⟨p, l, e, s, m, args, below, meth, c⟩, Q, A, tb⟩ := X
  intro S hk hA hE H locs ls hW hd hS hs
  subst hst
  exact va_callv (va_runI (As := As) (rest := st) ⟨S.1, S.2.1, S.2.2.1, S.2.2.2.1, S.2.2.2.2⟩ (hC l H.size hk.2.1) (cwI nn S.2.2.2.2 hg hw hrm.1 hrm.2 (S.2.2.2.2 _ hini) (S.2.2.2.2 _ hli) (S.2.2.2.2 _ hinst) hyi hy hR) ⟨kPc_blind, fun U hU hw2 => kPc_at hA hE hW hd hS hU hw2⟩ rfl hn hs.1 rfl (lv_room hcat) hd0 hroom) hS (fun q _ hq => kAq hA hd hS q hq) (fun q hq => kAq hA hd hS q hq) (fun h' t H1 locs1 ht hvm hp hB hz hkeep hS1 => kk h' hp S hk hA hE H1 locs1 ls (by rw [← ht]; exact hB.1) (fun q z hz9 => kAq hA hd hS q (hB.2 q z hz9)) hS1 hs)

theorem r_callXVv {post : kH → Prop} (hd0 : decode cc pc = .ok (.invokevirtual i, 3)) (hC : kXv E y ws rm mc ms (.ref b :: As) h px post) (hg : GoodIn Ts (wsV own i C y ws)) (hw : ws = Cond.code y bytes maxL ret :: ws') (hy : y.cls = C ∧ y.cls ≠ "java/lang/invoke/MethodHandle" ∧ y.cls ≠ "java/lang/invoke/VarHandle" ∧ (parseMethodDescriptor y.desc).map (fun d => d.parameters.length) = some nn) (hR : rm.frames + 1 ≤ R.frames ∧ 8 + (maxL + 11) + rm.locals ≤ R.locals) (hrm : rm.cells = mc ∧ rm.slots = ms) (he : h b = some (.inr (ci, fs))) (hc : kcl[ci]? = some (C, T, N)) (hn : As.length = nn) (hcat : (st.map fun v => v.category).sum ≤ 8) (hroom : k + mc ≤ R.cells ∧ n + ms ≤ R.slots) (hst : stk = As.reverse ++ .ref b :: st)
    (kx : ∀ Ec h', px Ec h' → VX E X R cc nL Ts own (k + mc) (n + ms) h' lo pc Ec) (kk : ∀ h', post h' → V E X R cc nL Ts own (k + mc) (n + ms) h' lo (pc + 3) st) : V E X R cc nL Ts own k n h lo pc stk := by
  obtain ⟨⟨p, l, e, s, m, args, below, meth, c⟩, Q, A, tb⟩ := X
  intro S hk hA hE H locs ls hW hd hS hs
  subst hst
  exact vx_callv (vx_runV (As := As) (rest := st) ⟨S.1, S.2.1, S.2.2.1, S.2.2.2.1, S.2.2.2.2⟩ (hC l H.size hk.2.1) (cwV nn S.2.2.2.2 hg hw hrm.1 hrm.2 hy hR) ⟨kPc_blind, va_recv hE.1.1 (kWd_P hW he) (q0 := 0) hc rfl, fun U hU hw2 => kPc_at hA hE hW hd hS hU hw2⟩ rfl hn hs.1 rfl (lv_room hcat) hd0 hroom) hS (fun q _ hq => kAq hA hd hS q hq) (fun q hq => kAq hA hd hS q hq) (fun q _ hq => kAq hA hd hS q hq) (fun Ec ce q9 u t H1 locs1 ht hvm hp hB hz hkeep hS1 hc1 hc2 hc3 => by obtain ⟨rfl, hB1, hB2⟩ := hB; exact kx _ u.2 hp S hk hA hE H1 locs1 ls _ ce q9 (by rw [← ht]; exact hB1) (fun q z hz9 => kAq hA hd hS q (hB2 q z hz9)) hS1 hs hc1 hc2 hc3) (fun h' t H1 locs1 ht hvm hp hB hz hkeep hS1 => kk h' hp S hk hA hE H1 locs1 ls (by rw [← ht]; exact hB.1) (fun q z hz9 => kAq hA hd hS q (hB.2 q z hz9)) hS1 hs)

theorem r_callXSv {post : kH → Prop} (hd0 : decode cc pc = .ok (.invokestatic i, 3)) (hC : kXv E y ws rm mc ms As h px post) (hg : GoodIn Ts (va_wsS own i y ws)) (hw : ws = Cond.code y bytes maxL ret :: ws') (hy : y.cls ≠ "java/lang/invoke/MethodHandle" ∧ y.cls ≠ "java/lang/invoke/VarHandle" ∧ (parseMethodDescriptor y.desc).map (fun d => d.parameters.length) = some nn) (hR : rm.frames + 1 ≤ R.frames ∧ 8 + (maxL + 11) + rm.locals ≤ R.locals) (hrm : rm.cells = mc ∧ rm.slots = ms) (hn : As.length = nn) (hcat : (st.map fun v => v.category).sum ≤ 8) (hroom : k + mc ≤ R.cells ∧ n + ms ≤ R.slots) (hst : stk = As.reverse ++ st)
    (kx : ∀ Ec h', px Ec h' → VX E X R cc nL Ts own (k + mc) (n + ms) h' lo pc Ec) (kk : ∀ h', post h' → V E X R cc nL Ts own (k + mc) (n + ms) h' lo (pc + 3) st) : V E X R cc nL Ts own k n h lo pc stk := by
  obtain ⟨⟨p, l, e, s, m, args, below, meth, c⟩, Q, A, tb⟩ := X
  intro S hk hA hE H locs ls hW hd hS hs
  subst hst
  exact vx_callv (vx_runS (As := As) (rest := st) ⟨S.1, S.2.1, S.2.2.1, S.2.2.2.1, S.2.2.2.2⟩ (hC l H.size hk.2.1) (va_cwS nn S.2.2.2.2 hg hw hrm.1 hrm.2 hy hR) ⟨kPc_blind, fun U hU hw2 => kPc_at hA hE hW hd hS hU hw2⟩ rfl hn hs.1 rfl (lv_room hcat) hd0 hroom) hS (fun q _ hq => kAq hA hd hS q hq) (fun q hq => kAq hA hd hS q hq) (fun q _ hq => kAq hA hd hS q hq) (fun Ec ce q9 u t H1 locs1 ht hvm hp hB hz hkeep hS1 hc1 hc2 hc3 => by obtain ⟨rfl, hB1, hB2⟩ := hB; exact kx _ u.2 hp S hk hA hE H1 locs1 ls _ ce q9 (by rw [← ht]; exact hB1) (fun q z hz9 => kAq hA hd hS q (hB2 q z hz9)) hS1 hs hc1 hc2 hc3) (fun h' t H1 locs1 ht hvm hp hB hz hkeep hS1 => kk h' hp S hk hA hE H1 locs1 ls (by rw [← ht]; exact hB.1) (fun q z hz9 => kAq hA hd hS q (hB.2 q z hz9)) hS1 hs)

end KC
/-- where an exception with a text is thrown -/
abbrev kNm : List String := ["java/lang/RuntimeException", "java/lang/Exception"]
abbrev kBad (cls : String) : List Cond := [.castable cls cls, .declares ⟨"java/lang/RuntimeException", "<init>", "(Ljava/lang/String;)V"⟩, .declares ⟨"java/lang/Exception", "<init>", "(Ljava/lang/String;)V"⟩, .declares ⟨"java/lang/Throwable", "<init>", "(Ljava/lang/String;)V"⟩]
def kSt (cls : String) (ik ic : Nat) : Prop := Bundle.fit cls = true ∧ (∀ n ∈ kNm, Bundle.fit n = true) ∧ (∀ w ∈ (vx_atS RX3 ic cls kNm).filter (fun w => !goodWord w), w ∈ kBad cls) ∧ (∀ w ∈ Cond.classLink RX3 ik cls :: Cond.initialized cls :: vx_atS RX3 ic cls kNm, vx_ot w = true) ∧ (cls, cls) ∈ kCast
theorem kSt_B : kSt "java/lang/IndexOutOfBoundsException" 180 184 := ⟨by decide +kernel, by decide +kernel, by decide +kernel, by decide +kernel, by decide +kernel⟩
theorem kSt_A : kSt "java/lang/IllegalArgumentException" 62 66 := ⟨by decide +kernel, by decide +kernel, by decide +kernel, by decide +kernel, by decide +kernel⟩
theorem kSt_S : kSt "java/lang/IllegalStateException" 106 110 := ⟨by decide +kernel, by decide +kernel, by decide +kernel, by decide +kernel, by decide +kernel⟩
theorem kbad_ok {E : kE} {s : State} {args : Array Value} {cls : String} (h : kT E s) (hc : (cls, cls) ∈ kCast) : ∀ w ∈ kBad cls, w.before args s = true := vx_c (va_Nw.use rfl (h.2.2.1 _ hc)) (vx_c (va_Nw.use rfl (h.2.2.2.1 _ (List.mem_of_getElem? (i := 0) rfl))) (vx_c (va_Nw.use rfl (h.2.2.2.1 _ (List.mem_of_getElem? (i := 1) rfl))) (vx_c (va_Nw.use rfl (h.2.2.2.1 _ (List.mem_of_getElem? (i := 2) rfl))) vx_n)))
def kSite (cc : ByteArray) (Ts : List Cond) (own : String) (R : Room) (pc : Nat) (st : List Value) (cls : String) : Prop := ∃ (text : String) (ik is ic d : Nat), kSt cls ik ic ∧ own = RX3 ∧ Cond.classLink RX3 ik cls ∈ Ts ∧ Cond.initialized cls ∈ Ts ∧ (is, text) ∈ kStr ∧ (∀ w ∈ (vx_atS RX3 ic cls kNm).filter goodWord, w ∈ Ts) ∧ decode cc pc = .ok (.new ik, 3) ∧ decode cc (pc + 3) = .ok (.dup, 1) ∧ ((d = 6 ∧ decode cc (pc + 4) = .ok (.ldc is, 2)) ∨ (d = 7 ∧ decode cc (pc + 4) = .ok (.ldc_w is, 3))) ∧ decode cc (pc + d) = .ok (.invokespecial ic, 3) ∧ decode cc (pc + d + 3) = .ok (.athrow, 1) ∧ 5 < R.frames ∧ (st.map fun v => v.category).sum + 82 ≤ R.locals
theorem kWd_more {E : kE} {h : kH} {H H1 : Heap} (hW : kWd E h H) (hk : ∀ q : Nat, q < H.size → H1[q]? = H[q]?) : kWd E h H1 := fun a e ha => va_at.kept (hW a e ha) (hk a (kWd_lt hW ha))

theorem kCi_of {E : kE} {y : MethodName} {ws ws' : List Cond} {rm : Room} {mc ms : Nat} {av : List Value} {h : kH} {post : Int32 → kH → Prop} {cc : ByteArray} {maxL : Nat} {own : String} {rt : FieldType} (hy : plainName y.cls = true) (ho : y.cls = own) (hw : ws = Cond.code y cc maxL (some rt) :: ws') (hav : (lg_sl av).length ≤ maxL)
    (walk : ∀ X : kX, (y.name = "<init>" → kInit X) → (∀ (k n : Nat) (h' : kH) (lo : List (Nat × Value)) (pc : Nat) (r : Int32), k ≤ mc → n ≤ ms → decode cc pc = .ok (.ireturn, 1) → narrow rt (.int r) = .int r → post r h' → V E X rm cc maxL ws own k n h' lo pc [.int r]) → V E X rm cc maxL ws own 0 0 h (lv_args 0 av) 0 []) : kCi E y ws rm mc ms av h post := by
  intro l sz hl
  refine Met.ofW (cc := cc) (maxL := maxL) (ret := (some rt)) hy hw ?_
  intro p e s m args below meth c s₁ B hml hv
  obtain ⟨rfl, hsz, hT, hZ, hW⟩ := hv
  have hts := atoms_spec (ws := ws) B.pre
  have hown : s.vm.findClass own = some m.cls := by rw [← ho]; exact findClass_of_methodNamed B.named
  have hlk := B.notSynchronized
  subst hsz
  rw [lg_entry_eq]
  have K := walk ((p, l, e, s, m, av.toArray, below, meth, c), MQ below (kQi E h s.heap.size post) av.toArray s mc ms (kA h s.heap.size), kA h s.heap.size, c.exceptionTable.toList) (fun hi => (name_of_methodNamed B.named B.method).1.trans hi) ?_
  · exact K ⟨B.exec, B.bytes, hml, hown, hts⟩ ⟨hlk, hl, rfl⟩ (fun q hq => Or.inr hq) ⟨hT, hZ⟩ s.heap [] _ hW kdom0 va_S.rf (lv_entry av hav)
  · intro k n h' lo pc r hk hn hdc hnr hp S hk' hA hE H locs ls hW hd hS hs
    refine W.widen hk hn ?_
    exact W.zret S.1 S.2.1 B.returns hnr (fun t ht hw' => ⟨⟨r, h', rfl, hp, ⟨by rw [ht]; exact hW, hd⟩⟩, hS.F ht⟩) hS.2.2 hdc hlk
theorem kXi_of {E : kE} {y : MethodName} {ws ws' : List Cond} {rm : Room} {mc ms : Nat} {av : List Value} {h : kH} {post : Int32 → kH → Prop} {px : String → kH → Prop} {cc : ByteArray} {maxL : Nat} {own : String} {rt : FieldType} (hy : plainName y.cls = true) (ho : y.cls = own) (hw : ws = Cond.code y cc maxL (some rt) :: ws') (hrm : rm.cells = mc ∧ rm.slots = ms) (hav : (lg_sl av).length ≤ maxL)
    (walk : ∀ X : kX, (∀ (k n : Nat) (h' : kH) (lo : List (Nat × Value)) (pc : Nat) (r : Int32), k ≤ mc → n ≤ ms → decode cc pc = .ok (.ireturn, 1) → narrow rt (.int r) = .int r → post r h' → V E X rm cc maxL ws own k n h' lo pc [.int r]) → (∀ (k n : Nat) (h' : kH) (lo : List (Nat × Value)) (pc : Nat) (st : List Value) (cls : String), k + 1 ≤ mc → n + 6 ≤ ms → kSite cc ws own rm pc st cls → px cls h' → V E X rm cc maxL ws own k n h' lo pc st) → (∀ (k n : Nat) (h' : kH) (lo : List (Nat × Value)) (pc : Nat) (Ec : String), k ≤ mc → n ≤ ms → px Ec h' → VX E X rm cc maxL ws own k n h' lo pc Ec) → V E X rm cc maxL ws own 0 0 h (lv_args 0 av) 0 []) : kXi E y ws rm mc ms av h px post := by
  intro l sz hl
  refine vx_ofW (cc := cc) (maxL := maxL) (ret := (some rt)) hy hw ?_
  intro p e s m args below meth c s₁ B hml hex hv
  obtain ⟨rfl, hsz, hT, hZ, hW⟩ := hv
  have hts := atoms_spec (ws := ws) B.pre
  have hown : s.vm.findClass own = some m.cls := by rw [← ho]; exact findClass_of_methodNamed B.named
  have hlk := B.notSynchronized
  have hnx : ∀ pc0, ∀ x ∈ c.exceptionTable.toList, covers x pc0 = false := fun pc0 x hx => (hex x hx).elim
  subst hsz
  rw [lg_entry_eq]
  have K := walk ((p, l, e, s, m, av.toArray, below, meth, c), vx_MQ below (kQi E h s.heap.size post) (kXQ E h s.heap.size px) av.toArray s mc ms (kA h s.heap.size), kA h s.heap.size, c.exceptionTable.toList) ?_ ?_ ?_
  · exact K ⟨B.exec, B.bytes, hml, hown, hts⟩ ⟨hlk, hl, rfl⟩ (fun q hq => Or.inr hq) ⟨hT, hZ⟩ s.heap [] _ hW kdom0 va_S.rf (lv_entry av hav)
  · intro k n h' lo pc r hk hn hdc hnr hp S hk' hA hE H locs ls hW hd hS hs
    refine W.widen hk hn (vx_ret ?_)
    exact W.zret S.1 S.2.1 B.returns hnr (fun t ht hw' => ⟨⟨r, h', rfl, hp, ⟨by rw [ht]; exact hW, hd⟩⟩, hS.F ht⟩) hS.2.2 hdc hlk
  · intro k n h' lo pc st cls hk hn hsite hp S hk' hA hE H locs ls hW hd hS hs
    obtain ⟨text, ik, is, ic, d, ⟨hf1, hf2, hbad, hot, hcs⟩, hoR, hcl, hin, hstr, hgood, d0, d3, dl, di, da, hfr, hlo⟩ := hsite
    obtain ⟨sa, hsa⟩ := hE.1.2.1 _ hstr
    subst hoR
    have hhat := vx_hat (args := av.toArray) (s := s) (L := vx_atS RX3 ic cls kNm) (B := kBad cls) (fun w hw => hts w (hgood w hw)) hbad (kbad_ok hE.1 hcs)
    have hxq : ∀ t : State, s.vm.Alike t.vm → H.size ≤ t.heap.size → (∀ q : Nat, q < H.size → t.heap[q]? = H[q]?) → kXQ E h s.heap.size px cls s t := fun t hal hz hkeep => ⟨(cls, h'), hp, ⟨rfl, kWd_more hW hkeep, hd⟩, Nat.le_trans hS.1 hz, fun q h1 h2 => (hkeep q (Nat.lt_of_lt_of_le h1 hS.1)).trans (hS.2.1 q h1 h2)⟩
    rcases dl with ⟨rfl, dl⟩ | ⟨rfl, dl⟩
    · exact vx_throwS S.1 S.2.1 hl S.2.2.2.1 hf1 hf2 (hts _ hcl) (hts _ hin) hsa hhat hot hE.2.1 hE.2.2.1 hS (hs.1.trans S.2.2.1.symm) d0 d3 dl di da (hnx _) hfr hlo (Nat.le_trans hk (Nat.le_of_eq hrm.1.symm)) (Nat.le_trans hn (Nat.le_of_eq hrm.2.symm)) hlk hxq hS.2.2 hk hn
    · exact vx_throwSW S.1 S.2.1 hl S.2.2.2.1 hf1 hf2 (hts _ hcl) (hts _ hin) hsa hhat hot hE.2.1 hE.2.2.1 hS (hs.1.trans S.2.2.1.symm) d0 d3 dl di da (hnx _) hfr hlo (Nat.le_trans hk (Nat.le_of_eq hrm.1.symm)) (Nat.le_trans hn (Nat.le_of_eq hrm.2.symm)) hlk hxq hS.2.2 hk hn
  · intro k n h' lo pc Ec hk hn hp S hk' hA hE H locs ls st ce q9 hW hd hS hs hc1 hc2 hc3
    exact vx_out (hnx _) hlk hc1 hc2 hc3 (fun t ht hal => ⟨(Ec, h'), hp, ⟨rfl, by rw [ht]; exact hW, hd⟩, hS.F ht⟩) hS.2.2 hk hn
theorem kCq_of {E : kE} {y : MethodName} {ws ws' : List Cond} {rm : Room} {mc ms : Nat} {av : List Value} {h : kH} {post : Option Nat → kH → Prop} {cc : ByteArray} {maxL : Nat} {own : String} {rt : FieldType} (hy : plainName y.cls = true) (ho : y.cls = own) (hw : ws = Cond.code y cc maxL (some rt) :: ws') (hrt : (∃ n, rt = .object n) ∨ ∃ t, rt = .array t) (hav : (lg_sl av).length ≤ maxL)
    (walk : ∀ X : kX, (y.name = "<init>" → kInit X) → (∀ (k n : Nat) (h' : kH) (lo : List (Nat × Value)) (pc : Nat) (r : Option Nat), k ≤ mc → n ≤ ms → decode cc pc = .ok (.areturn, 1) → post r h' → V E X rm cc maxL ws own k n h' lo pc [va_rf r]) → V E X rm cc maxL ws own 0 0 h (lv_args 0 av) 0 []) : kCq E y ws rm mc ms av h post := by
  intro l sz hl
  refine Met.ofW (cc := cc) (maxL := maxL) (ret := (some rt)) hy hw ?_
  intro p e s m args below meth c s₁ B hml hv
  obtain ⟨rfl, hsz, hT, hZ, hW⟩ := hv
  have hts := atoms_spec (ws := ws) B.pre
  have hown : s.vm.findClass own = some m.cls := by rw [← ho]; exact findClass_of_methodNamed B.named
  have hlk := B.notSynchronized
  subst hsz
  rw [lg_entry_eq]
  have K := walk ((p, l, e, s, m, av.toArray, below, meth, c), MQ below (kQq E h s.heap.size post) av.toArray s mc ms (kA h s.heap.size), kA h s.heap.size, c.exceptionTable.toList) (fun hi => (name_of_methodNamed B.named B.method).1.trans hi) ?_
  · exact K ⟨B.exec, B.bytes, hml, hown, hts⟩ ⟨hlk, hl, rfl⟩ (fun q hq => Or.inr hq) ⟨hT, hZ⟩ s.heap [] _ hW kdom0 va_S.rf (lv_entry av hav)
  · intro k n h' lo pc r hk hn hdc hp S hk' hA hE H locs ls hW hd hS hs
    refine W.widen hk hn ?_
    exact W.aret S.1 S.2.1 B.returns hrt (by cases r with | none => exact Or.inl rfl | some a => exact Or.inr ⟨a, rfl⟩) (fun t ht hw' => ⟨⟨r, h', rfl, hp, ⟨by rw [ht]; exact hW, hd⟩⟩, hS.F ht⟩) hS.2.2 hdc hlk
theorem kXq_of {E : kE} {y : MethodName} {ws ws' : List Cond} {rm : Room} {mc ms : Nat} {av : List Value} {h : kH} {post : Option Nat → kH → Prop} {px : String → kH → Prop} {cc : ByteArray} {maxL : Nat} {own : String} {rt : FieldType} (hy : plainName y.cls = true) (ho : y.cls = own) (hw : ws = Cond.code y cc maxL (some rt) :: ws') (hrm : rm.cells = mc ∧ rm.slots = ms) (hrt : (∃ n, rt = .object n) ∨ ∃ t, rt = .array t) (hav : (lg_sl av).length ≤ maxL)
    (walk : ∀ X : kX, (∀ (k n : Nat) (h' : kH) (lo : List (Nat × Value)) (pc : Nat) (r : Option Nat), k ≤ mc → n ≤ ms → decode cc pc = .ok (.areturn, 1) → post r h' → V E X rm cc maxL ws own k n h' lo pc [va_rf r]) → (∀ (k n : Nat) (h' : kH) (lo : List (Nat × Value)) (pc : Nat) (st : List Value) (cls : String), k + 1 ≤ mc → n + 6 ≤ ms → kSite cc ws own rm pc st cls → px cls h' → V E X rm cc maxL ws own k n h' lo pc st) → (∀ (k n : Nat) (h' : kH) (lo : List (Nat × Value)) (pc : Nat) (Ec : String), k ≤ mc → n ≤ ms → px Ec h' → VX E X rm cc maxL ws own k n h' lo pc Ec) → V E X rm cc maxL ws own 0 0 h (lv_args 0 av) 0 []) : kXq E y ws rm mc ms av h px post := by
  intro l sz hl
  refine vx_ofW (cc := cc) (maxL := maxL) (ret := (some rt)) hy hw ?_
  intro p e s m args below meth c s₁ B hml hex hv
  obtain ⟨rfl, hsz, hT, hZ, hW⟩ := hv
  have hts := atoms_spec (ws := ws) B.pre
  have hown : s.vm.findClass own = some m.cls := by rw [← ho]; exact findClass_of_methodNamed B.named
  have hlk := B.notSynchronized
  have hnx : ∀ pc0, ∀ x ∈ c.exceptionTable.toList, covers x pc0 = false := fun pc0 x hx => (hex x hx).elim
  subst hsz
  rw [lg_entry_eq]
  have K := walk ((p, l, e, s, m, av.toArray, below, meth, c), vx_MQ below (kQq E h s.heap.size post) (kXQ E h s.heap.size px) av.toArray s mc ms (kA h s.heap.size), kA h s.heap.size, c.exceptionTable.toList) ?_ ?_ ?_
  · exact K ⟨B.exec, B.bytes, hml, hown, hts⟩ ⟨hlk, hl, rfl⟩ (fun q hq => Or.inr hq) ⟨hT, hZ⟩ s.heap [] _ hW kdom0 va_S.rf (lv_entry av hav)
  · intro k n h' lo pc r hk hn hdc hp S hk' hA hE H locs ls hW hd hS hs
    refine W.widen hk hn (vx_ret ?_)
    exact W.aret S.1 S.2.1 B.returns hrt (by cases r with | none => exact Or.inl rfl | some a => exact Or.inr ⟨a, rfl⟩) (fun t ht hw' => ⟨⟨r, h', rfl, hp, ⟨by rw [ht]; exact hW, hd⟩⟩, hS.F ht⟩) hS.2.2 hdc hlk
  · intro k n h' lo pc st cls hk hn hsite hp S hk' hA hE H locs ls hW hd hS hs
    obtain ⟨text, ik, is, ic, d, ⟨hf1, hf2, hbad, hot, hcs⟩, hoR, hcl, hin, hstr, hgood, d0, d3, dl, di, da, hfr, hlo⟩ := hsite
    obtain ⟨sa, hsa⟩ := hE.1.2.1 _ hstr
    subst hoR
    have hhat := vx_hat (args := av.toArray) (s := s) (L := vx_atS RX3 ic cls kNm) (B := kBad cls) (fun w hw => hts w (hgood w hw)) hbad (kbad_ok hE.1 hcs)
    have hxq : ∀ t : State, s.vm.Alike t.vm → H.size ≤ t.heap.size → (∀ q : Nat, q < H.size → t.heap[q]? = H[q]?) → kXQ E h s.heap.size px cls s t := fun t hal hz hkeep => ⟨(cls, h'), hp, ⟨rfl, kWd_more hW hkeep, hd⟩, Nat.le_trans hS.1 hz, fun q h1 h2 => (hkeep q (Nat.lt_of_lt_of_le h1 hS.1)).trans (hS.2.1 q h1 h2)⟩
    rcases dl with ⟨rfl, dl⟩ | ⟨rfl, dl⟩
    · exact vx_throwS S.1 S.2.1 hl S.2.2.2.1 hf1 hf2 (hts _ hcl) (hts _ hin) hsa hhat hot hE.2.1 hE.2.2.1 hS (hs.1.trans S.2.2.1.symm) d0 d3 dl di da (hnx _) hfr hlo (Nat.le_trans hk (Nat.le_of_eq hrm.1.symm)) (Nat.le_trans hn (Nat.le_of_eq hrm.2.symm)) hlk hxq hS.2.2 hk hn
    · exact vx_throwSW S.1 S.2.1 hl S.2.2.2.1 hf1 hf2 (hts _ hcl) (hts _ hin) hsa hhat hot hE.2.1 hE.2.2.1 hS (hs.1.trans S.2.2.1.symm) d0 d3 dl di da (hnx _) hfr hlo (Nat.le_trans hk (Nat.le_of_eq hrm.1.symm)) (Nat.le_trans hn (Nat.le_of_eq hrm.2.symm)) hlk hxq hS.2.2 hk hn
  · intro k n h' lo pc Ec hk hn hp S hk' hA hE H locs ls st ce q9 hW hd hS hs hc1 hc2 hc3
    exact vx_out (hnx _) hlk hc1 hc2 hc3 (fun t ht hal => ⟨(Ec, h'), hp, ⟨rfl, by rw [ht]; exact hW, hd⟩, hS.F ht⟩) hS.2.2 hk hn
theorem kCv_of {E : kE} {y : MethodName} {ws ws' : List Cond} {rm : Room} {mc ms : Nat} {av : List Value} {h : kH} {post : kH → Prop} {cc : ByteArray} {maxL : Nat} {own : String} (hy : plainName y.cls = true) (ho : y.cls = own) (hw : ws = Cond.code y cc maxL none :: ws') (hav : (lg_sl av).length ≤ maxL)
    (walk : ∀ X : kX, (y.name = "<init>" → kInit X) → (∀ (k n : Nat) (h' : kH) (lo : List (Nat × Value)) (pc : Nat) , k ≤ mc → n ≤ ms → decode cc pc = .ok (.return_, 1) → post h' → V E X rm cc maxL ws own k n h' lo pc []) → V E X rm cc maxL ws own 0 0 h (lv_args 0 av) 0 []) : kCv E y ws rm mc ms av h post := by
  intro l sz hl
  refine Met.ofW (cc := cc) (maxL := maxL) (ret := none) hy hw ?_
  intro p e s m args below meth c s₁ B hml hv
  obtain ⟨rfl, hsz, hT, hZ, hW⟩ := hv
  have hts := atoms_spec (ws := ws) B.pre
  have hown : s.vm.findClass own = some m.cls := by rw [← ho]; exact findClass_of_methodNamed B.named
  have hlk := B.notSynchronized
  subst hsz
  rw [lg_entry_eq]
  have K := walk ((p, l, e, s, m, av.toArray, below, meth, c), MQ below (kQv E h s.heap.size post) av.toArray s mc ms (kA h s.heap.size), kA h s.heap.size, c.exceptionTable.toList) (fun hi => (name_of_methodNamed B.named B.method).1.trans hi) ?_
  · exact K ⟨B.exec, B.bytes, hml, hown, hts⟩ ⟨hlk, hl, rfl⟩ (fun q hq => Or.inr hq) ⟨hT, hZ⟩ s.heap [] _ hW kdom0 va_S.rf (lv_entry av hav)
  · intro k n h' lo pc hk hn hdc hp S hk' hA hE H locs ls hW hd hS hs
    refine W.widen hk hn ?_
    exact W.vret S.1 S.2.1 B.returns (fun t ht hw' => ⟨⟨h', rfl, hp, ⟨by rw [ht]; exact hW, hd⟩⟩, hS.F ht⟩) hS.2.2 hdc hlk
theorem kXv_of {E : kE} {y : MethodName} {ws ws' : List Cond} {rm : Room} {mc ms : Nat} {av : List Value} {h : kH} {post : kH → Prop} {px : String → kH → Prop} {cc : ByteArray} {maxL : Nat} {own : String} (hy : plainName y.cls = true) (ho : y.cls = own) (hw : ws = Cond.code y cc maxL none :: ws') (hrm : rm.cells = mc ∧ rm.slots = ms) (hav : (lg_sl av).length ≤ maxL)
    (walk : ∀ X : kX, (∀ (k n : Nat) (h' : kH) (lo : List (Nat × Value)) (pc : Nat) , k ≤ mc → n ≤ ms → decode cc pc = .ok (.return_, 1) → post h' → V E X rm cc maxL ws own k n h' lo pc []) → (∀ (k n : Nat) (h' : kH) (lo : List (Nat × Value)) (pc : Nat) (st : List Value) (cls : String), k + 1 ≤ mc → n + 6 ≤ ms → kSite cc ws own rm pc st cls → px cls h' → V E X rm cc maxL ws own k n h' lo pc st) → (∀ (k n : Nat) (h' : kH) (lo : List (Nat × Value)) (pc : Nat) (Ec : String), k ≤ mc → n ≤ ms → px Ec h' → VX E X rm cc maxL ws own k n h' lo pc Ec) → V E X rm cc maxL ws own 0 0 h (lv_args 0 av) 0 []) : kXv E y ws rm mc ms av h px post := by
  intro l sz hl
  refine vx_ofW (cc := cc) (maxL := maxL) (ret := none) hy hw ?_
  intro p e s m args below meth c s₁ B hml hex hv
  obtain ⟨rfl, hsz, hT, hZ, hW⟩ := hv
  have hts := atoms_spec (ws := ws) B.pre
  have hown : s.vm.findClass own = some m.cls := by rw [← ho]; exact findClass_of_methodNamed B.named
  have hlk := B.notSynchronized
  have hnx : ∀ pc0, ∀ x ∈ c.exceptionTable.toList, covers x pc0 = false := fun pc0 x hx => (hex x hx).elim
  subst hsz
  rw [lg_entry_eq]
  have K := walk ((p, l, e, s, m, av.toArray, below, meth, c), vx_MQ below (kQv E h s.heap.size post) (kXQ E h s.heap.size px) av.toArray s mc ms (kA h s.heap.size), kA h s.heap.size, c.exceptionTable.toList) ?_ ?_ ?_
  · exact K ⟨B.exec, B.bytes, hml, hown, hts⟩ ⟨hlk, hl, rfl⟩ (fun q hq => Or.inr hq) ⟨hT, hZ⟩ s.heap [] _ hW kdom0 va_S.rf (lv_entry av hav)
  · intro k n h' lo pc hk hn hdc hp S hk' hA hE H locs ls hW hd hS hs
    refine W.widen hk hn (vx_ret ?_)
    exact W.vret S.1 S.2.1 B.returns (fun t ht hw' => ⟨⟨h', rfl, hp, ⟨by rw [ht]; exact hW, hd⟩⟩, hS.F ht⟩) hS.2.2 hdc hlk
  · intro k n h' lo pc st cls hk hn hsite hp S hk' hA hE H locs ls hW hd hS hs
    obtain ⟨text, ik, is, ic, d, ⟨hf1, hf2, hbad, hot, hcs⟩, hoR, hcl, hin, hstr, hgood, d0, d3, dl, di, da, hfr, hlo⟩ := hsite
    obtain ⟨sa, hsa⟩ := hE.1.2.1 _ hstr
    subst hoR
    have hhat := vx_hat (args := av.toArray) (s := s) (L := vx_atS RX3 ic cls kNm) (B := kBad cls) (fun w hw => hts w (hgood w hw)) hbad (kbad_ok hE.1 hcs)
    have hxq : ∀ t : State, s.vm.Alike t.vm → H.size ≤ t.heap.size → (∀ q : Nat, q < H.size → t.heap[q]? = H[q]?) → kXQ E h s.heap.size px cls s t := fun t hal hz hkeep => ⟨(cls, h'), hp, ⟨rfl, kWd_more hW hkeep, hd⟩, Nat.le_trans hS.1 hz, fun q h1 h2 => (hkeep q (Nat.lt_of_lt_of_le h1 hS.1)).trans (hS.2.1 q h1 h2)⟩
    rcases dl with ⟨rfl, dl⟩ | ⟨rfl, dl⟩
    · exact vx_throwS S.1 S.2.1 hl S.2.2.2.1 hf1 hf2 (hts _ hcl) (hts _ hin) hsa hhat hot hE.2.1 hE.2.2.1 hS (hs.1.trans S.2.2.1.symm) d0 d3 dl di da (hnx _) hfr hlo (Nat.le_trans hk (Nat.le_of_eq hrm.1.symm)) (Nat.le_trans hn (Nat.le_of_eq hrm.2.symm)) hlk hxq hS.2.2 hk hn
    · exact vx_throwSW S.1 S.2.1 hl S.2.2.2.1 hf1 hf2 (hts _ hcl) (hts _ hin) hsa hhat hot hE.2.1 hE.2.2.1 hS (hs.1.trans S.2.2.1.symm) d0 d3 dl di da (hnx _) hfr hlo (Nat.le_trans hk (Nat.le_of_eq hrm.1.symm)) (Nat.le_trans hn (Nat.le_of_eq hrm.2.symm)) hlk hxq hS.2.2 hk hn
  · intro k n h' lo pc Ec hk hn hp S hk' hA hE H locs ls st ce q9 hW hd hS hs hc1 hc2 hc3
    exact vx_out (hnx _) hlk hc1 hc2 hc3 (fun t ht hal => ⟨(Ec, h'), hp, ⟨rfl, by rw [ht]; exact hW, hd⟩, hS.F ht⟩) hS.2.2 hk hn
