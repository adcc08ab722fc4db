/-! rows for the law: a catch, methods with a table of their own, the script -/
section LR
variable {E : kE} {X : kX} {R : Room} {cc : ByteArray} {nL : Nat} {Ts : List Cond} {own : String} {k n : Nat} {h : kH} {lo lo' : List (Nat × Value)} {pc tgt : Nat} {st : List Value} {x v : Int32}
variable {y : MethodName} {bytes : ByteArray} {maxL mc ms nn i : Nat} {ret : Option FieldType} {ws ws' : List Cond} {rm : Room} {As stk : List Value} {px : String → kH → Prop} {hh : List (Nat × Nat × Nat × Nat)}
theorem rx_catch {Ec name : String} (pre : List ExceptionTableEntry) (x : ExceptionTableEntry) (suf : List ExceptionTableEntry) (htb : X.2.2.2 = pre ++ x :: suf) (hpass : ∀ z ∈ pre, z.catchType ≠ 0 ∧ ∃ nm : String, Cond.classLink own z.catchType nm ∈ Ts ∧ (Ec, nm) ∈ kNcs) (hx : covers x pc = true) (h0 : x.catchType ≠ 0) (hlink : Cond.classLink own x.catchType name ∈ Ts) (hcast : (Ec, name) ∈ kCast) (ht : x.handlerPc = tgt) (kk : ∀ q, V E X R cc nL Ts own k n h lo tgt [.ref q]) : VX E X R cc nL Ts own k n h lo pc Ec := by
  obtain ⟨⟨p, l, e, s, m, args, below, meth, c⟩, Q, A, tb⟩ := X
  subst ht
  intro S hk hA hE H locs ls st ce q9 hW hd hS hs h1 h2 h3
  exact vx_catch S.2.2.2.1 pre x suf (hk.2.2.trans htb) (fun z hz => Or.inr ⟨(hpass z hz).1, by obtain ⟨nm, g1, g2⟩ := (hpass z hz).2; exact ⟨nm, S.2.2.2.2 _ g1, hE.1.2.2.2.2.1 _ g2⟩⟩) hx h0 (S.2.2.2.2 _ hlink) (va_Nw.use (A := args) rfl (hE.1.2.2.1 _ hcast)) h1 h2 h3 (kk q9 S hk hA hE H locs ls hW hd hS hs)
theorem r_callXSH {post : Int32 → kH → Prop} (hd0 : decode cc pc = .ok (.invokestatic i, 3)) (hC : kXi E y ws rm mc ms As h px post) (hg : GoodIn Ts (va_wsS own i y ws)) (hw : ws = Cond.codeWith y bytes maxL ret hh :: ws') (hy : y.cls ≠ "java/lang/invoke/MethodHandle" ∧ y.cls ≠ "java/lang/invoke/VarHandle" ∧ (parseMethodDescriptor y.desc).map (fun d => d.parameters.length) = some nn) (hR : rm.frames + 1 ≤ R.frames ∧ 8 + (maxL + 11) + rm.locals ≤ R.locals) (hrm : rm.cells = mc ∧ rm.slots = ms) (hn : As.length = nn) (hcat : (st.map fun v => v.category).sum ≤ 8) (hroom : k + mc ≤ R.cells ∧ n + ms ≤ R.slots) (hst : stk = As.reverse ++ st)
    (kx : ∀ Ec h', px Ec h' → VX E X R cc nL Ts own (k + mc) (n + ms) h' lo pc Ec) (kk : ∀ r h', post r h' → V E X R cc nL Ts own (k + mc) (n + ms) h' lo (pc + 3) (.int r :: st)) : V E X R cc nL Ts own k n h lo pc stk := by
  obtain ⟨⟨p, l, e, s, m, args, below, meth, c⟩, Q, A, tb⟩ := X
  intro S hk hA hE H locs ls hW hd hS hs
  subst hst
  exact vx_calli (vx_runSX (hh := hh) (bytes := bytes) (maxL := maxL) (ret := ret) (As := As) (rest := st) ⟨S.1, S.2.1, S.2.2.1, S.2.2.2.1, S.2.2.2.2⟩ (hC l H.size hk.2.1) (vx_cwSW nn S.2.2.2.2 hg hw hrm.1 hrm.2 hy hR) ⟨kPc_blind, fun U hU hw2 => kPc_at hA hE hW hd hS hU hw2⟩ rfl hn hs.1 rfl (lv_room hcat) hd0 hroom) hS (fun q _ hq => kAq hA hd hS q hq) (fun q hq => kAq hA hd hS q hq) (fun q _ hq => kAq hA hd hS q hq) (fun Ec ce q9 u t H1 locs1 ht hvm hp hB hz hkeep hS1 hc1 hc2 hc3 => by obtain ⟨rfl, hB1, hB2⟩ := hB; exact kx _ u.2 hp S hk hA hE H1 locs1 ls _ ce q9 (by rw [← ht]; exact hB1) (fun q z hz9 => kAq hA hd hS q (hB2 q z hz9)) hS1 hs hc1 hc2 hc3) (fun r h' t H1 locs1 ht hvm hp hB hz hkeep hS1 => kk r h' hp S hk hA hE H1 locs1 ls (by rw [← ht]; exact hB.1) (fun q z hz9 => kAq hA hd hS q (hB.2 q z hz9)) hS1 hs)
theorem kXi_ofH {av : List Value} {post : Int32 → kH → Prop} {rt : FieldType} (hy : plainName y.cls = true) (ho : y.cls = own) (hw : ws = Cond.codeWith y cc maxL (some rt) hh :: ws') (hav : (lg_sl av).length ≤ maxL)
    (walk : ∀ X : kX, X.2.2.2 = tableOf hh → (∀ (k n : Nat) (h' : kH) (lo : List (Nat × Value)) (pc : Nat) (r : Int32), k ≤ mc → n ≤ ms → decode cc pc = .ok (.ireturn, 1) → narrow rt (.int r) = .int r → post r h' → V E X rm cc maxL ws own k n h' lo pc [.int r]) → V E X rm cc maxL ws own 0 0 h (lv_args 0 av) 0 []) : kXi E y ws rm mc ms av h px post := by
  intro l sz hl
  refine vx_ofWH (cc := cc) (maxL := maxL) (ret := (some rt)) (hh := hh) hy hw ?_
  intro p e s m args below meth c s₁ B hml hv
  obtain ⟨rfl, hsz, hT, hZ, hW⟩ := hv
  have hts := atoms_spec (ws := ws) B.pre
  have hown : s.vm.findClass own = some m.cls := by rw [← ho]; exact findClass_of_methodNamed B.named
  have hlk := B.notSynchronized
  have htb : c.exceptionTable.toList = tableOf hh := vx_table (x := y) B (hts _ (by rw [hw]; exact List.mem_cons_self))
  subst hsz
  rw [lg_entry_eq]
  have K := walk ((p, l, e, s, m, av.toArray, below, meth, c), vx_MQ below (kQi E h s.heap.size post) (kXQ E h s.heap.size px) av.toArray s mc ms (kA h s.heap.size), kA h s.heap.size, c.exceptionTable.toList) htb ?_
  · exact K ⟨B.exec, B.bytes, hml, hown, hts⟩ ⟨hlk, hl, rfl⟩ (fun q hq => Or.inr hq) ⟨hT, hZ⟩ s.heap [] _ hW kdom0 va_S.rf (lv_entry av hav)
  · intro k n h' lo pc r hk hn hdc hnr hp S hk' hA hE H locs ls hW hd hS hs
    refine W.widen hk hn (vx_ret ?_)
    exact W.zret S.1 S.2.1 B.returns hnr (fun t ht hw' => ⟨⟨r, h', rfl, hp, ⟨by rw [ht]; exact hW, hd⟩⟩, hS.F ht⟩) hS.2.2 hdc hlk
/-- the script lies where the walk writes nothing -/
def kScr (X : kX) (b L : Nat) (xs : Nat → Int32) : Prop := va_X b L xs X.1.2.2.2.1 X.1.2.2.2.1.heap ∧ b < X.1.2.2.2.1.heap.size ∧ ¬ X.2.2.1 b
theorem r_sld {b L : Nat} {xs : Nat → Int32} (hX : kScr X b L xs) (hd0 : decode cc pc = .ok (.iaload, 1)) (hin : vp_in x L) (kk : V E X R cc nL Ts own k n h lo (pc + 1) (.int (xs x.toNatClampNeg) :: st)) : V E X R cc nL Ts own k n h lo pc (.int x :: .ref b :: st) := by
  obtain ⟨⟨p, l, e, s, m, args, below, meth, c⟩, Q, A, tb⟩ := X
  intro S hk hA hE H locs ls hW hd hS hs
  exact va_sld S.1 S.2.1 hX.1 hX.2.1 hX.2.2 hS hin hd0 (kk S hk hA hE H locs ls hW hd hS hs)
theorem r_slen {b L : Nat} {xs : Nat → Int32} (hX : kScr X b L xs) (hd0 : decode cc pc = .ok (.arraylength, 1)) (kk : V E X R cc nL Ts own k n h lo (pc + 1) (.int (nI L) :: st)) : V E X R cc nL Ts own k n h lo pc (.ref b :: st) := by
  obtain ⟨⟨p, l, e, s, m, args, below, meth, c⟩, Q, A, tb⟩ := X
  intro S hk hA hE H locs ls hW hd hS hs
  exact va_slen S.1 S.2.1 hX.1 hX.2.1 hX.2.2 hS hd0 (kk S hk hA hE H locs ls hW hd hS hs)
end LR
/-! the heaps of both sides, one over the other -/
section OV
variable {E : kE} {a cap b : Nat → Nat} {nF nC nE w : Nat} {dt st : kM} {h0 : kH} {po : Nat} {e : va_E}
theorem dgeo_up (hg : dgeo E a cap nF nC nE h0) (hp : h0 po ≠ none) : dgeo E a cap nF nC nE (kup h0 po e) := by
  refine ⟨hg.1, fun k hk => ?_, hg.2.2⟩
  have h1 := hg.2.1 k hk
  rw [kup_n h0 e (fun z => hp (by rw [← z]; exact h1))]
  exact h1
theorem dw_kup (hg : dgeo E a cap nF nC nE h0) (hp : h0 po ≠ none) : kup (dw E a cap nF nC nE dt h0) po e = dw E a cap nF nC nE dt (kup h0 po e) := by
  have hne : ∀ k, dD cap nF nC nE k → a k ≠ po := fun k hk z => hp (by rw [← z]; exact hg.2.1 k hk)
  refine og_ext (D := dD cap nF nC nE) (a := a) (c := dcell E a cap nF nC nE dt) hg.1 (fun k hk => ?_) (fun q hq => ?_)
  · rw [kup_n _ _ (hne k hk)]
    exact og_at hg.1 _ h0 hk
  · by_cases c : q = po
    · subst c; rw [kup_s, kup_s]
    · rw [kup_n _ _ c, kup_n _ _ c]
      exact og_out _ h0 hq
theorem dw_at (hg : dgeo E a cap nF nC nE h0) (hp : h0 po = some e) : dw E a cap nF nC nE dt h0 po = some e := by
  have hne : ∀ k, dD cap nF nC nE k → a k ≠ po := fun k hk z => by
    have := hg.2.1 k hk
    rw [z, hp] at this
    cases this
  unfold dw
  rw [og_out _ h0 hne, hp]
theorem ov_ne (hb : binj b) (hg : dgeo E a cap nF nC nE (ov E b st h0)) {k j : Nat} (hk : dD cap nF nC nE k) (hj : mdom j = true) : a k ≠ b j := by
  intro z
  have h1 := hg.2.1 k hk
  rw [z, ov_at hb st h0 hj] at h1
  cases h1
theorem dw_ov (hb : binj b) (hg : dgeo E a cap nF nC nE (ov E b st h0)) : dw E a cap nF nC nE dt (ov E b st h0) = ov E b st (dw E a cap nF nC nE dt h0) := by
  symm
  refine og_ext (D := dD cap nF nC nE) (a := a) (c := dcell E a cap nF nC nE dt) hg.1 (fun k hk => ?_) (fun q hq => ?_)
  · rw [ov_out st _ (fun j hj z => ov_ne hb hg hk hj z.symm)]
    exact og_at hg.1 _ h0 hk
  · by_cases c : ∃ j, mdom j = true ∧ b j = q
    · obtain ⟨j, hj, rfl⟩ := c
      rw [ov_at hb st _ hj, ov_at hb st _ hj]
    · have hq2 : ∀ j, mdom j = true → b j ≠ q := fun j h1 h2 => c ⟨j, h1, h2⟩
      rw [ov_out st _ hq2, ov_out st _ hq2]
      exact og_out _ h0 hq
theorem dgeo_ov {st' : kM} (hb : binj b) (hg : dgeo E a cap nF nC nE (ov E b st h0)) : dgeo E a cap nF nC nE (ov E b st' h0) := by
  refine ⟨hg.1, fun k hk => ?_, hg.2.2⟩
  have hq2 : ∀ j, mdom j = true → b j ≠ a k := fun j h1 h2 => ov_ne hb hg hk h1 h2.symm
  have h1 := hg.2.1 k hk
  rw [ov_out st _ hq2] at h1
  rw [ov_out st' _ hq2]
  exact h1
theorem ov_kup (hp : ∀ k, mdom k = true → b k ≠ po) (hb : binj b) : kup (ov E b st h0) po e = ov E b st (kup h0 po e) := by
  funext q
  by_cases c : ∃ j, mdom j = true ∧ b j = q
  · obtain ⟨j, hj, rfl⟩ := c
    rw [kup_n _ _ (hp j hj), ov_at hb st _ hj, ov_at hb st _ hj]
  · have hq2 : ∀ j, mdom j = true → b j ≠ q := fun j h1 h2 => c ⟨j, h1, h2⟩
    rw [ov_out st _ hq2]
    by_cases d : q = po
    · subst d; rw [kup_s, kup_s]
    · rw [kup_n _ _ d, kup_n _ _ d, ov_out st _ hq2]
end OV
