/-! rows for the law: a catch, methods with a table of their own, the script, remainders -/
section LR
variable {E : kE} {X : kX} {R : Room} {cc : ByteArray} {nL : Nat} {Ts : List Cond} {own : String} {k n : Nat} {h : kH} {lo lo' : List (Nat × Value)} {pc tgt : Nat} {st : List Value} {x v : Int32}
variable {y : MethodName} {bytes : ByteArray} {maxL mc ms nn i : Nat} {ret : Option FieldType} {ws ws' : List Cond} {rm : Room} {As stk : List Value} {px : String → kH → Prop} {hh : List (Nat × Nat × Nat × Nat)}
theorem rx_catch {Ec name : String} (pre : List ExceptionTableEntry) (x : ExceptionTableEntry) (suf : List ExceptionTableEntry) (htb : X.2.2.2 = pre ++ x :: suf) (hpass : ∀ z ∈ pre, z.catchType ≠ 0 ∧ ∃ nm : String, Cond.classLink own z.catchType nm ∈ Ts ∧ (Ec, nm) ∈ kNcs) (hx : covers x pc = true) (h0 : x.catchType ≠ 0) (hlink : Cond.classLink own x.catchType name ∈ Ts) (hcast : (Ec, name) ∈ kCast) (ht : x.handlerPc = tgt) (kk : ∀ q, V E X R cc nL Ts own k n h lo tgt [.ref q]) : VX E X R cc nL Ts own k n h lo pc Ec := by
  obtain ⟨⟨p, l, e, s, m, args, below, meth, c⟩, Q, A, tb⟩ := X
  subst ht
  intro S hk hA hE H locs ls st ce q9 hW hd hS hs h1 h2 h3
  exact vx_catch S.2.2.2.1 pre x suf (hk.2.2.trans htb) (fun z hz => Or.inr ⟨(hpass z hz).1, by obtain ⟨nm, g1, g2⟩ := (hpass z hz).2; exact ⟨nm, S.2.2.2.2 _ g1, hE.1.2.2.2.2.1 _ g2⟩⟩) hx h0 (S.2.2.2.2 _ hlink) (va_Nw.use (A := args) rfl (hE.1.2.2.1 _ hcast)) h1 h2 h3 (kk q9 S hk hA hE H locs ls hW hd hS hs)
theorem r_callXSH {post : Int32 → kH → Prop} (hd0 : decode cc pc = .ok (.invokestatic i, 3)) (hC : kXi E y ws rm mc ms As h px post) (hg : GoodIn Ts (va_wsS own i y ws)) (hw : ws = Cond.codeWith y bytes maxL ret hh :: ws') (hy : y.cls ≠ "java/lang/invoke/MethodHandle" ∧ y.cls ≠ "java/lang/invoke/VarHandle" ∧ (parseMethodDescriptor y.desc).map (fun d => d.parameters.length) = some nn) (hR : rm.frames + 1 ≤ R.frames ∧ 8 + (maxL + 11) + rm.locals ≤ R.locals) (hrm : rm.cells = mc ∧ rm.slots = ms) (hn : As.length = nn) (hcat : (st.map fun v => v.category).sum ≤ 8) (hroom : k + mc ≤ R.cells ∧ n + ms ≤ R.slots) (hst : stk = As.reverse ++ st)
    (kx : ∀ Ec h', px Ec h' → VX E X R cc nL Ts own (k + mc) (n + ms) h' lo pc Ec) (kk : ∀ r h', post r h' → V E X R cc nL Ts own (k + mc) (n + ms) h' lo (pc + 3) (.int r :: st)) : V E X R cc nL Ts own k n h lo pc stk := by
  obtain ⟨⟨p, l, e, s, m, args, below, meth, c⟩, Q, A, tb⟩ := X
  intro S hk hA hE H locs ls hW hd hS hs
  subst hst
  exact vx_calli (vx_runSX (hh := hh) (bytes := bytes) (maxL := maxL) (ret := ret) (As := As) (rest := st) ⟨S.1, S.2.1, S.2.2.1, S.2.2.2.1, S.2.2.2.2⟩ (hC l H.size hk.2.1) (vx_cwSW nn S.2.2.2.2 hg hw hrm.1 hrm.2 hy hR) ⟨kPc_blind, fun U hU hw2 => kPc_at hA hE hW hd hS hU hw2⟩ rfl hn hs.1 rfl (lv_room hcat) hd0 hroom) hS (fun q _ hq => kAq hA hd hS q hq) (fun q hq => kAq hA hd hS q hq) (fun q _ hq => kAq hA hd hS q hq) (fun Ec ce q9 u t H1 locs1 ht hvm hp hB hz hkeep hS1 hc1 hc2 hc3 => by obtain ⟨rfl, hB1, hB2⟩ := hB; exact kx _ u.2 hp S hk hA hE H1 locs1 ls _ ce q9 (by rw [← ht]; exact hB1) (fun q z hz9 => kAq hA hd hS q (hB2 q z hz9)) hS1 hs hc1 hc2 hc3) (fun r h' t H1 locs1 ht hvm hp hB hz hkeep hS1 => kk r h' hp S hk hA hE H1 locs1 ls (by rw [← ht]; exact hB.1) (fun q z hz9 => kAq hA hd hS q (hB.2 q z hz9)) hS1 hs)
theorem kXi_ofH {av : List Value} {post : Int32 → kH → Prop} {rt : FieldType} (hy : plainName y.cls = true) (ho : y.cls = own) (hw : ws = Cond.codeWith y cc maxL (some rt) hh :: ws') (hav : (lg_sl av).length ≤ maxL)
    (walk : ∀ X : kX, X.2.2.2 = tableOf hh → (∀ (k n : Nat) (h' : kH) (lo : List (Nat × Value)) (pc : Nat) (r : Int32), k ≤ mc → n ≤ ms → decode cc pc = .ok (.ireturn, 1) → narrow rt (.int r) = .int r → post r h' → V E X rm cc maxL ws own k n h' lo pc [.int r]) → V E X rm cc maxL ws own 0 0 h (lv_args 0 av) 0 []) : kXi E y ws rm mc ms av h px post := by
  intro l sz hl
  refine vx_ofWH (cc := cc) (maxL := maxL) (ret := (some rt)) (hh := hh) hy hw ?_
  intro p e s m args below meth c s₁ B hml hv
  obtain ⟨rfl, hsz, hT, hZ, hW⟩ := hv
  have hts := atoms_spec (ws := ws) B.pre
  have hown : s.vm.findClass own = some m.cls := by rw [← ho]; exact findClass_of_methodNamed B.named
  have hlk := B.notSynchronized
  have htb : c.exceptionTable.toList = tableOf hh := vx_table (x := y) B (hts _ (by rw [hw]; exact List.mem_cons_self))
  subst hsz
  rw [lg_entry_eq]
  have K := walk ((p, l, e, s, m, av.toArray, below, meth, c), vx_MQ below (kQi E h s.heap.size post) (kXQ E h s.heap.size px) av.toArray s mc ms (kA h s.heap.size), kA h s.heap.size, c.exceptionTable.toList) htb ?_
  · exact K ⟨B.exec, B.bytes, hml, hown, hts⟩ ⟨hlk, hl, rfl⟩ (fun q hq => Or.inr hq) ⟨hT, hZ⟩ s.heap [] _ hW kdom0 va_S.rf (lv_entry av hav)
  · intro k n h' lo pc r hk hn hdc hnr hp S hk' hA hE H locs ls hW hd hS hs
    refine W.widen hk hn (vx_ret ?_)
    exact W.zret S.1 S.2.1 B.returns hnr (fun t ht hw' => ⟨⟨r, h', rfl, hp, ⟨by rw [ht]; exact hW, hd⟩⟩, hS.F ht⟩) hS.2.2 hdc hlk
/-- the script lies where the walk writes nothing -/
def kScr (X : kX) (b L : Nat) (xs : Nat → Int32) : Prop := va_X b L xs X.1.2.2.2.1 X.1.2.2.2.1.heap ∧ b < X.1.2.2.2.1.heap.size ∧ ¬ X.2.2.1 b
theorem r_sld {b L : Nat} {xs : Nat → Int32} (hX : kScr X b L xs) (hd0 : decode cc pc = .ok (.iaload, 1)) (hin : vp_in x L) (kk : V E X R cc nL Ts own k n h lo (pc + 1) (.int (xs x.toNatClampNeg) :: st)) : V E X R cc nL Ts own k n h lo pc (.int x :: .ref b :: st) := by
  obtain ⟨⟨p, l, e, s, m, args, below, meth, c⟩, Q, A, tb⟩ := X
  intro S hk hA hE H locs ls hW hd hS hs
  exact va_sld S.1 S.2.1 hX.1 hX.2.1 hX.2.2 hS hin hd0 (kk S hk hA hE H locs ls hW hd hS hs)
theorem r_slen {b L : Nat} {xs : Nat → Int32} (hX : kScr X b L xs) (hd0 : decode cc pc = .ok (.arraylength, 1)) (kk : V E X R cc nL Ts own k n h lo (pc + 1) (.int (nI L) :: st)) : V E X R cc nL Ts own k n h lo pc (.ref b :: st) := by
  obtain ⟨⟨p, l, e, s, m, args, below, meth, c⟩, Q, A, tb⟩ := X
  intro S hk hA hE H locs ls hW hd hS hs
  exact va_slen S.1 S.2.1 hX.1 hX.2.1 hX.2.2 hS hd0 (kk S hk hA hE H locs ls hW hd hS hs)
theorem r_irem {x2 : Int32} (hd0 : decode cc pc = .ok (.irem, 1)) (hne : ¬ x2 = 0) (kk : V E X R cc nL Ts own k n h lo (pc + 1) (.int (x % x2) :: st)) : V E X R cc nL Ts own k n h lo pc (.int x2 :: .int x :: st) := by
  obtain ⟨⟨p, l, e, s, m, args, below, meth, c⟩, Q, A, tb⟩ := X
  intro S hk hA hE H locs ls hW hd hS hs
  exact lv_irem S.1 S.2.1 hd0 hne (by rw [irem_eq_mod]; exact kk S hk hA hE H locs ls hW hd hS hs)
theorem r_idiv {x2 : Int32} (hd0 : decode cc pc = .ok (.idiv, 1)) (hne : ¬ x2 = 0) (kk : V E X R cc nL Ts own k n h lo (pc + 1) (.int (x / x2) :: st)) : V E X R cc nL Ts own k n h lo pc (.int x2 :: .int x :: st) := by
  obtain ⟨⟨p, l, e, s, m, args, below, meth, c⟩, Q, A, tb⟩ := X
  intro S hk hA hE H locs ls hW hd hS hs
  exact lv_idiv S.1 S.2.1 hd0 hne (kk S hk hA hE H locs ls hW hd hS hs)
theorem r_ineg (hd0 : decode cc pc = .ok (.ineg, 1)) (kk : V E X R cc nL Ts own k n h lo (pc + 1) (.int (-x) :: st)) : V E X R cc nL Ts own k n h lo pc (.int x :: st) := by
  obtain ⟨⟨p, l, e, s, m, args, below, meth, c⟩, Q, A, tb⟩ := X
  intro S hk hA hE H locs ls hW hd hS hs
  exact lv_ineg S.1 S.2.1 hd0 (kk S hk hA hE H locs ls hW hd hS hs)
/-- a static method that reads the script -/
def kPcS (E : kE) (h : kH) (sz b L : Nat) (xs : Nat → Int32) : State → Prop := fun U => kPc E h sz U ∧ va_X b L xs U U.heap ∧ b < sz ∧ ¬ kA h sz b
def kCiS (E : kE) (y : MethodName) (ws : List Cond) (rm : Room) (mc ms : Nat) (av : List Value) (h : kH) (b L : Nat) (xs : Nat → Int32) (post : Int32 → kH → Prop) : Prop := ∀ (l : Launch) (sz : Nat), l.stackTraces = false → Met l y ws rm (va_Pc av (kPcS E h sz b L xs)) (kQi E h sz post) mc ms (kA h sz)
theorem kPcS_blind {sz b L : Nat} {xs : Nat → Int32} {av : List Value} : FrameBlind (va_Pc av (kPcS E h sz b L xs)) := fun a U g mk q => ⟨q.1, (kPc_blind (av := av) a U g mk ⟨q.1, q.2.1⟩).2, va_X.moved (U := U.calling g mk a) (Vm.Alike.refl U.vm) q.2.2.1, q.2.2.2⟩
theorem kPcS_at {A : Nat → Prop} {s U : State} {H : Heap} {locs : List Loc} {av : List Value} {b L : Nat} {xs : Nat → Int32} (hX : va_X b L xs s s.heap ∧ b < s.heap.size ∧ ¬ A b) (hA : ∀ q, s.heap.size ≤ q → A q) (hE : kT E s ∧ kZs E A s s.heap) (hW : kWd E h H) (hd : ∀ q z, h q = some z → A q) (hS : va_S A s.heap H locs) (hU : U.heap = H) (hw : s.WarmedH U.vm) : va_Pc av (kPcS E h H.size b L xs) av.toArray U := by
  refine ⟨rfl, (kPc_at (av := av) hA hE hW hd hS hU hw).2, ?_, Nat.lt_of_lt_of_le hX.2.1 hS.1, ?_⟩
  · rw [hU]
    exact va_X.moved hw.alike (va_X.kept hX.1 (hS.2.1 b hX.2.1 hX.2.2))
  · rintro (q | q)
    · cases hb : h b with
      | none => exact q hb
      | some z => exact hX.2.2 (hd b z hb)
    · have := hX.2.1
      have := hS.1
      omega
theorem r_callSiS {b L : Nat} {xs : Nat → Int32} {post : Int32 → kH → Prop} (hX : kScr X b L xs) (hd0 : decode cc pc = .ok (.invokestatic i, 3)) (hC : kCiS E y ws rm mc ms As h b L xs post) (hg : GoodIn Ts (va_wsS own i y ws)) (hw : ws = Cond.code y bytes maxL ret :: ws') (hy : y.cls ≠ "java/lang/invoke/MethodHandle" ∧ y.cls ≠ "java/lang/invoke/VarHandle" ∧ (parseMethodDescriptor y.desc).map (fun d => d.parameters.length) = some nn) (hR : rm.frames + 1 ≤ R.frames ∧ 8 + (maxL + 11) + rm.locals ≤ R.locals) (hrm : rm.cells = mc ∧ rm.slots = ms) (hn : As.length = nn) (hcat : (st.map fun v => v.category).sum ≤ 8) (hroom : k + mc ≤ R.cells ∧ n + ms ≤ R.slots) (hst : stk = As.reverse ++ st)
    (kk : ∀ r h', post r h' → V E X R cc nL Ts own (k + mc) (n + ms) h' lo (pc + 3) (.int r :: st)) : V E X R cc nL Ts own k n h lo pc stk := by
  obtain ⟨⟨p, l, e, s, m, args, below, meth, c⟩, Q, A, tb⟩ := X
  intro S hk hA hE H locs ls hW hd hS hs
  subst hst
  exact va_calli (va_runS (As := As) (rest := st) ⟨S.1, S.2.1, S.2.2.1, S.2.2.2.1, S.2.2.2.2⟩ (hC l H.size hk.2.1) (va_cwS nn S.2.2.2.2 hg hw hrm.1 hrm.2 hy hR) ⟨kPcS_blind, fun U hU hw2 => kPcS_at hX hA hE hW hd hS hU hw2⟩ rfl hn hs.1 rfl (lv_room hcat) hd0 hroom) hS (fun q _ hq => kAq hA hd hS q hq) (fun q hq => kAq hA hd hS q hq) (fun r h' t H1 locs1 ht hvm hp hB hz hkeep hS1 => kk r h' hp S hk hA hE H1 locs1 ls (by rw [← ht]; exact hB.1) (fun q z hz9 => kAq hA hd hS q (hB.2 q z hz9)) hS1 hs)
theorem kCiS_of {av : List Value} {b L : Nat} {xs : Nat → Int32} {post : Int32 → kH → Prop} {rt : FieldType} (hy : plainName y.cls = true) (ho : y.cls = own) (hw : ws = Cond.code y cc maxL (some rt) :: ws') (hav : (lg_sl av).length ≤ maxL)
    (walk : ∀ X : kX, kScr X b L xs → (∀ (k n : Nat) (h' : kH) (lo : List (Nat × Value)) (pc : Nat) (r : Int32), k ≤ mc → n ≤ ms → decode cc pc = .ok (.ireturn, 1) → narrow rt (.int r) = .int r → post r h' → V E X rm cc maxL ws own k n h' lo pc [.int r]) → V E X rm cc maxL ws own 0 0 h (lv_args 0 av) 0 []) : kCiS E y ws rm mc ms av h b L xs post := by
  intro l sz hl
  refine Met.ofW (cc := cc) (maxL := maxL) (ret := (some rt)) hy hw ?_
  intro p e s m args below meth c s₁ B hml hv
  obtain ⟨rfl, ⟨hsz, hT, hZ, hW⟩, hX, hbl, hbA⟩ := hv
  have hts := atoms_spec (ws := ws) B.pre
  have hown : s.vm.findClass own = some m.cls := by rw [← ho]; exact findClass_of_methodNamed B.named
  have hlk := B.notSynchronized
  subst hsz
  rw [lg_entry_eq]
  have K := walk ((p, l, e, s, m, av.toArray, below, meth, c), MQ below (kQi E h s.heap.size post) av.toArray s mc ms (kA h s.heap.size), kA h s.heap.size, c.exceptionTable.toList) ⟨hX, hbl, hbA⟩ ?_
  · exact K ⟨B.exec, B.bytes, hml, hown, hts⟩ ⟨hlk, hl, rfl⟩ (fun q hq => Or.inr hq) ⟨hT, hZ⟩ s.heap [] _ hW kdom0 va_S.rf (lv_entry av hav)
  · intro k n h' lo pc r hk hn hdc hnr hp S hk' hA hE H locs ls hW hd hS hs
    refine W.widen hk hn ?_
    exact W.zret S.1 S.2.1 B.returns hnr (fun t ht hw' => ⟨⟨r, h', rfl, hp, ⟨by rw [ht]; exact hW, hd⟩⟩, hS.F ht⟩) hS.2.2 hdc hlk
end LR
theorem nI_div {a b : Nat} (ha : a < 2 ^ 31) (hb : 0 < b) (hb2 : b < 2 ^ 31) : nI a / nI b = nI (a / b) := by
  apply Int32.toInt_inj.mp
  rw [lg_idiv_nonneg (by rw [nI_toInt ha]; omega) (by rw [nI_toInt hb2]; omega), nI_toInt ha, nI_toInt hb2, nI_toInt (Nat.lt_of_le_of_lt (Nat.div_le_self _ _) ha)]
  rfl
theorem nI_mod {a b : Nat} (ha : a < 2 ^ 31) (hb : 0 < b) (hb2 : b < 2 ^ 31) : nI a % nI b = nI (a % b) := by
  apply Int32.toInt_inj.mp
  rw [Int32.toInt_mod, nI_toInt ha, nI_toInt hb2, nI_toInt (Nat.lt_of_le_of_lt (Nat.mod_le _ _) ha)]
  exact Int.tmod_eq_emod_of_nonneg (by omega)
/-! the world outside a desk -/
section OV
variable {E : kE} {a cap b capb : Nat → Nat} {nF nC nE nF' nC' nE' : Nat} {dt dtb dt' : kM} {h0 : kH} {po : Nat} {e : va_E}
theorem dgeo_up (hg : dgeo E a cap nF nC nE h0) (hp : h0 po ≠ none) : dgeo E a cap nF nC nE (kup h0 po e) := by
  refine ⟨hg.1, fun k hk => ?_, hg.2.2⟩
  have h1 := hg.2.1 k hk
  rw [kup_n h0 e (fun z => hp (by rw [← z]; exact h1))]
  exact h1
theorem dw_kup (hg : dgeo E a cap nF nC nE h0) (hp : h0 po ≠ none) : kup (dw E a cap nF nC nE dt h0) po e = dw E a cap nF nC nE dt (kup h0 po e) := by
  have hne : ∀ k, dD cap nF nC nE k → a k ≠ po := fun k hk z => hp (by rw [← z]; exact hg.2.1 k hk)
  refine og_ext (D := dD cap nF nC nE) (a := a) (c := dcell E a cap nF nC nE dt) hg.1 (fun k hk => ?_) (fun q hq => ?_)
  · rw [kup_n _ _ (hne k hk)]
    exact og_at hg.1 _ h0 hk
  · by_cases c : q = po
    · subst c; rw [kup_s, kup_s]
    · rw [kup_n _ _ c, kup_n _ _ c]
      exact og_out _ h0 hq
theorem dw_at (hg : dgeo E a cap nF nC nE h0) (hp : h0 po = some e) : dw E a cap nF nC nE dt h0 po = some e := by
  have hne : ∀ k, dD cap nF nC nE k → a k ≠ po := fun k hk z => by
    have := hg.2.1 k hk
    rw [z, hp] at this
    cases this
  unfold dw
  rw [og_out _ h0 hne, hp]
theorem dw_new (hg : dgeo E a cap nF nC nE h0) (hp : dw E a cap nF nC nE dt h0 po = none) : (∀ k, dD cap nF nC nE k → a k ≠ po) ∧ h0 po = none := by
  have hne : ∀ k, dD cap nF nC nE k → a k ≠ po := fun k hk z => by
    have h1 : dw E a cap nF nC nE dt h0 (a k) = some (dcell E a cap nF nC nE dt k) := og_at hg.1 _ _ hk
    rw [z, hp] at h1
    cases h1
  refine ⟨hne, ?_⟩
  unfold dw at hp
  rw [og_out _ h0 hne] at hp
  exact hp
/-- two desks, apart, over one world -/
def Two (E : kE) (a cap : Nat → Nat) (nF nC nE : Nat) (b capb : Nat → Nat) (nF' nC' nE' : Nat) (h0 : kH) : Prop := dgeo E a cap nF nC nE h0 ∧ dgeo E b capb nF' nC' nE' h0 ∧ ∀ k j, dD cap nF nC nE k → dD capb nF' nC' nE' j → a k ≠ b j
theorem Two.sym (T : Two E a cap nF nC nE b capb nF' nC' nE' h0) : Two E b capb nF' nC' nE' a cap nF nC nE h0 := ⟨T.2.1, T.1, fun k j hk hj z => T.2.2 j k hj hk z.symm⟩
theorem Two.ga (T : Two E a cap nF nC nE b capb nF' nC' nE' h0) : dgeo E a cap nF nC nE (dw E b capb nF' nC' nE' dtb h0) := by
  refine ⟨T.1.1, fun k hk => ?_, T.1.2.2⟩
  unfold dw
  rw [og_out _ h0 (fun j hj z => T.2.2 k j hk hj z.symm)]
  exact T.1.2.1 k hk
theorem Two.of (hb : dgeo E b capb nF' nC' nE' h0) (ha : dgeo E a cap nF nC nE (dw E b capb nF' nC' nE' dtb h0)) : Two E a cap nF nC nE b capb nF' nC' nE' h0 := by
  have hne : ∀ k j, dD cap nF nC nE k → dD capb nF' nC' nE' j → a k ≠ b j := fun k j hk hj z => by
    have h1 := ha.2.1 k hk
    have h2 : dw E b capb nF' nC' nE' dtb h0 (b j) = some (dcell E b capb nF' nC' nE' dtb j) := og_at hb.1 _ _ hj
    rw [z, h2] at h1
    cases h1
  refine ⟨⟨ha.1, fun k hk => ?_, ha.2.2⟩, hb, hne⟩
  have h1 := ha.2.1 k hk
  unfold dw at h1
  rw [og_out _ h0 (fun j hj z => hne k j hk hj z.symm)] at h1
  exact h1
theorem Two.swap (T : Two E a cap nF nC nE b capb nF' nC' nE' h0) : dw E a cap nF nC nE dt (dw E b capb nF' nC' nE' dtb h0) = dw E b capb nF' nC' nE' dtb (dw E a cap nF nC nE dt h0) := by
  symm
  refine og_ext (D := dD cap nF nC nE) (a := a) (c := dcell E a cap nF nC nE dt) T.1.1 (fun k hk => ?_) (fun q hq => ?_)
  · unfold dw
    rw [og_out _ _ (fun j hj z => T.2.2 k j hk hj z.symm)]
    exact og_at T.1.1 _ h0 hk
  · by_cases c : ∃ j, dD capb nF' nC' nE' j ∧ b j = q
    · obtain ⟨j, hj, rfl⟩ := c
      unfold dw
      rw [og_at T.2.1.1 _ _ hj, og_at T.2.1.1 _ _ hj]
    · have hq2 : ∀ j, dD capb nF' nC' nE' j → b j ≠ q := fun j h1 h2 => c ⟨j, h1, h2⟩
      unfold dw
      rw [og_out _ _ hq2, og_out _ _ hq2]
      exact og_out _ h0 hq
theorem Two.up (T : Two E a cap nF nC nE b capb nF' nC' nE' h0) (hp : h0 po ≠ none) : Two E a cap nF nC nE b capb nF' nC' nE' (kup h0 po e) := ⟨dgeo_up T.1 hp, dgeo_up T.2.1 hp, T.2.2⟩
end OV
/-- at q lies a desk of the state told -/
def Dk (E : kE) (q : Nat) (dt : kM) (nF nC nE w : Nat) (H : kH) : Prop := ∃ (a cap : Nat → Nat) (h0 : kH), a 15 = q ∧ dgeo E a cap nF nC nE h0 ∧ dwf dt nF nC nE w ∧ H = dw E a cap nF nC nE dt h0
theorem Dk.at {E : kE} {q : Nat} {dt : kM} {nF nC nE w : Nat} {H : kH} (D : Dk E q dt nF nC nE w H) : ∃ fs, H q = some (.inr (3, fs)) := by
  obtain ⟨a, cap, h0, rfl, hg, hd, rfl⟩ := D
  exact ⟨_, dw_obj hg⟩
theorem Dk.wf {E : kE} {q : Nat} {dt : kM} {nF nC nE w : Nat} {H : kH} (D : Dk E q dt nF nC nE w H) : dwf dt nF nC nE w := by
  obtain ⟨a, cap, h0, rfl, hg, hd, rfl⟩ := D
  exact hd
