/-! THE REFERENCE'S OBJECT: its fields by number (29: the object itself), its state 'st' by field: scalars at 0; the map with the object laid over h0 -/
abbrev kM : Type := Nat → Nat → Int32
def msc (k : Nat) : Bool := k == 0 || k == 1 || k == 2 || k == 3 || k == 5 || k == 10 || k == 15 || k == 16 || k == 20 || k == 28
def mlen (k : Nat) : Nat := match k with
  | 4 => 10
  | 6 => 20
  | 7 => 20
  | 8 => 20
  | 9 => 20
  | 11 => 6
  | 12 => 6
  | 13 => 6
  | 14 => 6
  | 17 => 3000
  | 18 => 3000
  | 19 => 3000
  | 21 => 80
  | 22 => 80
  | 23 => 80
  | 24 => 80
  | 25 => 80
  | 26 => 6
  | 27 => 60
  | _ => 0
def ms (st : kM) (k : Nat) (v : Int32) : kM := fun j => if j = k then (fun _ => v) else st j
def ma (st : kM) (k i : Nat) (v : Int32) : kM := fun j => if j = k then upd (st k) i v else st j
def mfs (b : Nat → Nat) (st : kM) : List Value := (List.range 29).map (fun j => if msc j = true then .int (st j 0) else .ref (b j))
def mcell (E : kE) (b : Nat → Nat) (st : kM) (k : Nat) : va_E := if k = 29 then .inr (4, mfs b st) else .inl (if k = 25 ∨ k = 27 then kZ E else kI E, mlen k, .inl (st k))
def mdom (k : Nat) : Bool := k == 29 || (decide (k < 29) && !(msc k))
def binj (b : Nat → Nat) : Prop := ∀ i j, mdom i = true → mdom j = true → b i = b j → i = j
noncomputable def ov (E : kE) (b : Nat → Nat) (st : kM) (h0 : kH) : kH := fun q => @dite _ (∃ k, mdom k = true ∧ b k = q) (Classical.propDecidable _) (fun hq => some (mcell E b st (Classical.choose hq))) (fun _ => h0 q)
theorem ov_at {E : kE} {b : Nat → Nat} (hb : binj b) (st : kM) (h0 : kH) {k : Nat} (hk : mdom k = true) : ov E b st h0 (b k) = some (mcell E b st k) := by
  have hex : ∃ j, mdom j = true ∧ b j = b k := ⟨k, hk, rfl⟩
  unfold ov
  rw [dif_pos hex]
  have h := Classical.choose_spec hex
  rw [hb _ _ h.1 hk h.2]
theorem ov_out {E : kE} {b : Nat → Nat} (st : kM) (h0 : kH) {q : Nat} (hq : ∀ k, mdom k = true → b k ≠ q) : ov E b st h0 q = h0 q := by
  unfold ov
  exact dif_neg (fun ⟨k, h1, h2⟩ => hq k h1 h2)
theorem ov_up {E : kE} {b : Nat → Nat} (hb : binj b) {st st' : kM} {h0 : kH} {k : Nat} (hk : mdom k = true) (hs : ∀ j, mdom j = true → j ≠ k → mcell E b st' j = mcell E b st j) : kup (ov E b st h0) (b k) (mcell E b st' k) = ov E b st' h0 := by
  funext q
  by_cases c : ∃ j, mdom j = true ∧ b j = q
  · obtain ⟨j, hj, rfl⟩ := c
    rw [ov_at hb st' h0 hj]
    by_cases e : j = k
    · subst e
      rw [kup_s]
    · rw [kup_n _ _ (fun z => e (hb j k hj hk z)), ov_at hb st h0 hj, hs j hj e]
  · have hq : ∀ j, mdom j = true → b j ≠ q := fun j h1 h2 => c ⟨j, h1, h2⟩
    rw [kup_n _ _ (fun z => hq k hk z.symm), ov_out st h0 hq, ov_out st' h0 hq]
theorem mfs_at (b : Nat → Nat) (st : kM) {f : Nat} (hf : f < 29) : (mfs b st)[f]? = some (if msc f = true then .int (st f 0) else .ref (b f)) := by
  unfold mfs
  rw [List.getElem?_map, List.getElem?_range hf]
  rfl
theorem mfs_len (b : Nat → Nat) (st : kM) : (mfs b st).length = 29 := by simp [mfs]
theorem mfs_set (b : Nat → Nat) (st : kM) {f : Nat} (hf : f < 29) (hm : msc f = true) (v : Int32) : (mfs b st).set f (.int v) = mfs b (ms st f v) := by
  apply List.ext_getElem?
  intro i
  by_cases hi : i < 29
  · rw [mfs_at b (ms st f v) hi]
    by_cases e : i = f
    · subst e
      rw [List.getElem?_set_self (by rw [mfs_len]; exact hi), if_pos hm]
      simp [ms]
    · rw [List.getElem?_set_ne (Ne.symm e), mfs_at b st hi]
      simp [ms, e]
  · rw [List.getElem?_eq_none (by rw [List.length_set, mfs_len]; omega), List.getElem?_eq_none (by rw [mfs_len]; omega)]
theorem mfs_ma (b : Nat → Nat) (st : kM) {f i : Nat} (hm : msc f = false) (v : Int32) : mfs b (ma st f i v) = mfs b st := by
  unfold mfs
  apply List.map_congr_left
  intro j hj
  by_cases c : msc j = true
  · rw [if_pos c, if_pos c]
    have : j ≠ f := fun e => by rw [e, hm] at c; cases c
    simp [ma, this]
  · rw [if_neg c, if_neg c]
theorem mcell_obj (E : kE) (b : Nat → Nat) (st : kM) : mcell E b st 29 = .inr (4, mfs b st) := by simp [mcell]
theorem ov_obj {E : kE} {b : Nat → Nat} (hb : binj b) (st : kM) (h0 : kH) : ov E b st h0 (b 29) = some (.inr (4, mfs b st)) := by
  rw [ov_at hb st h0 (k := 29) rfl, mcell_obj]
theorem mdom_a {f : Nat} (hf : f < 29) (hm : msc f = false) : mdom f = true := by simp [mdom, hf, hm]
theorem ov_arr {E : kE} {b : Nat → Nat} (hb : binj b) (st : kM) (h0 : kH) {f : Nat} (hf : f < 29) (hm : msc f = false) (hz : f ≠ 25 ∧ f ≠ 27) : ov E b st h0 (b f) = some (.inl (kI E, mlen f, .inl (st f))) := by
  rw [ov_at hb st h0 (mdom_a hf hm)]
  unfold mcell
  rw [if_neg (by omega), if_neg (by omega)]
theorem ov_arz {E : kE} {b : Nat → Nat} (hb : binj b) (st : kM) (h0 : kH) {f : Nat} (hf : f = 25 ∨ f = 27) : ov E b st h0 (b f) = some (.inl (kZ E, mlen f, .inl (st f))) := by
  rw [ov_at hb st h0 (by rcases hf with rfl | rfl <;> rfl)]
  unfold mcell
  rw [if_neg (by omega), if_pos hf]
theorem ov_ms {E : kE} {b : Nat → Nat} (hb : binj b) (st : kM) (h0 : kH) {f : Nat} (hf : f < 29) (hm : msc f = true) (v : Int32) : kup (ov E b st h0) (b 29) (.inr (4, (mfs b st).set f (.int v))) = ov E b (ms st f v) h0 := by
  rw [mfs_set b st hf hm, ← mcell_obj E b (ms st f v)]
  refine ov_up hb rfl (fun j hj hne => ?_)
  have hjf : j ≠ f := fun e => by
    subst e
    simp [mdom, hm] at hj
    exact hne hj
  simp [mcell, ms, hjf, hne]
theorem ov_ma {E : kE} {b : Nat → Nat} (hb : binj b) (st : kM) (h0 : kH) {f i : Nat} (hf : f < 29) (hm : msc f = false) (v : Int32) : kup (ov E b st h0) (b f) (mcell E b (ma st f i v) f) = ov E b (ma st f i v) h0 := by
  refine ov_up hb (mdom_a hf hm) (fun j hj hne => ?_)
  unfold mcell
  rw [mfs_ma b st hm v]
  simp [ma, hne]
theorem mcell_ma (E : kE) (b : Nat → Nat) (st : kM) {f i : Nat} (hf : f < 29) (hz : f ≠ 25 ∧ f ≠ 27) (v : Int32) : mcell E b (ma st f i v) f = .inl (kI E, mlen f, .inl (upd (st f) i v)) := by
  unfold mcell
  rw [if_neg (by omega), if_neg (by omega)]
  simp [ma]
theorem mcell_mz (E : kE) (b : Nat → Nat) (st : kM) {f i : Nat} (hz : f = 25 ∨ f = 27) (v : Int32) : mcell E b (ma st f i v) f = .inl (kZ E, mlen f, .inl (upd (st f) i v)) := by
  unfold mcell
  rw [if_neg (by omega), if_pos hz]
  simp [ma]
section ML
variable {E : kE} {X : kX} {R : Room} {cc : ByteArray} {nL : Nat} {Ts : List Cond} {own : String} {k n : Nat} {h0 : kH} {lo lo' : List (Nat × Value)} {pc tgt : Nat} {rest : List Value} {x v : Int32} {b : Nat → Nat} {st : kM} {i : Nat} {ref : String}
theorem rn_icmp_ge {a c : Nat} {x y : Int32} {off : Int} {h : kH} (hd0 : decode cc pc = .ok (.if_icmp .ge off, 3)) (ht : (pc : Int) + off = (tgt : Int)) (hx : x = nI a) (hy : y = nI c) (ha : a < 2 ^ 31) (hc : c < 2 ^ 31) (kt : c ≤ a → V E X R cc nL Ts own k n h lo tgt rest) (kf : a < c → V E X R cc nL Ts own k n h lo (pc + 3) rest) : V E X R cc nL Ts own k n h lo pc (.int y :: .int x :: rest) := by
  subst hx hy
  refine r_icmp_ge hd0 ht (fun q => kt ?_) (fun q => kf ?_)
  · rw [nI_ltI ha hc] at q; omega
  · rw [nI_ltI ha hc] at q; omega
theorem rn_icmp_lt {a c : Nat} {x y : Int32} {off : Int} {h : kH} (hd0 : decode cc pc = .ok (.if_icmp .lt off, 3)) (ht : (pc : Int) + off = (tgt : Int)) (hx : x = nI a) (hy : y = nI c) (ha : a < 2 ^ 31) (hc : c < 2 ^ 31) (kt : a < c → V E X R cc nL Ts own k n h lo tgt rest) (kf : c ≤ a → V E X R cc nL Ts own k n h lo (pc + 3) rest) : V E X R cc nL Ts own k n h lo pc (.int y :: .int x :: rest) := by
  subst hx hy
  refine r_icmp_lt hd0 ht (fun q => kt ?_) (fun q => kf ?_)
  · rw [nI_ltI ha hc] at q; omega
  · rw [nI_ltI ha hc] at q; omega
end ML
