/-! act: one step of a desk, by the step's number -/
def ownA (nF y : Nat) : Nat := if nF = 0 then 0 else nF - 1 - y % (if 4 < nF then 4 else nF)
noncomputable def aRes' (dt : kM) (nF nC nE w X : Nat) (c : Nat) : lRes := match c with
  | 0 => oFight dt nF nC nE w (nI (X / 20 % 6)) (nI (X / 20 / 6 % 6))
  | 1 => oFight dt nF nC nE w (nI (X / 20 % 6)) (nI (X / 20 / 6 % 6))
  | 2 => oEnd dt nF nC nE w (nI (ownA nF (X / 20)))
  | 3 => oReplay dt nF nC nE w (nI (if nF = 0 then 0 else X / 20 % nF))
  | 4 => oCamera dt nF nC nE w (nI (1 + X / 20 % 20)) (nI (X / 20 / 20 % 20))
  | 5 => oDelay dt nF nC nE w (nI (X / 20 % 30))
  | 6 => oRank dt nF nC nE w (nI (X / 20 % 10)) (nI (X / 20 / 10 % 30))
  | 7 => oPromise dt nF nC nE w (nI (X / 20 % 6)) (nI (X / 20 / 6 % 120))
  | 8 => oSlot dt nF nC nE w (nI (X / 20 % 6)) (nI (X / 20 / 6 % 6))
  | 9 => oBlow dt nF nC nE w (nI (ownA nF (X / 20))) (nI (X / 20 / 4 % 6)) (nI (1 + X / 20 / 24 % 9))
  | 10 => oBlow dt nF nC nE w (nI (ownA nF (X / 20))) (nI (X / 20 / 4 % 6)) (nI (1 + X / 20 / 24 % 9))
  | 11 => oBlow dt nF nC nE w (nI (ownA nF (X / 20))) (nI (X / 20 / 4 % 6)) (nI (1 + X / 20 / 24 % 9))
  | 12 => oStrike dt nF nC nE w (nI (if nE = 0 then 0 else X / 20 % nE))
  | 13 => oMend dt nF nC nE w (nI (if nE = 0 then 0 else X / 20 % nE)) (nI (1 + X / 20 / 80 % 9))
  | _ => oPass dt nF nC nE w (nI (1 + X / 20 % (if X / 20 % 5 = 0 then 60 else 6)))
noncomputable def aRes (dt : kM) (nF nC nE w X : Nat) : lRes := aRes' dt nF nC nE w X (X % 20)
abbrev rmL_act : Room := { frames := 10, cells := 12, slots := 500, locals := 442 }
set_option maxHeartbeats 8000000 in
set_option maxRecDepth 100000 in
theorem ac_k0 {E : kE} {a cap : Nat → Nat} {h0 : kH} {dt : kM} {nF nC nE w X pn : Nat} {fn : Nat → Int32} {X9 : kX} (hg : dgeo E a cap nF nC nE h0) (hd : dwf dt nF nC nE w) (hX : X < 2 ^ 31) (hpn : h0 pn = some (.inl (kI E, 3, .inl fn))) (hn_0 : fn 0 = nI nF) (hn_1 : fn 1 = nI nC) (hn_2 : fn 2 = nI nE) (kret : ∀ (k n : Nat) (h' : kH) (lo : List (Nat × Value)) (pc : Nat) (r : Int32), k ≤ 12 → n ≤ 500 → decode cL_act pc = .ok (.ireturn, 1) → narrow .int (.int r) = .int r → OPost E a h0 (dw E a cap nF nC nE dt h0) (aRes dt nF nC nE w X) r h' → V E X9 rmL_act cL_act 5 wsL_act RL k n h' lo pc [.int r]) (e20 : X % 20 = 0 ∨ X % 20 = 1) : V E X9 rmL_act cL_act 5 wsL_act RL 0 0 (dw E a cap nF nC nE dt h0) [(0, .ref (a 15)), (1, .ref pn), (2, .int (nI X)), (3, .int (nI (X / 20))), (4, .int (nI (ownA nF (X / 20))))] 112 [] := by
  obtain ⟨hF, hF20, hC, hC6, hE, hE80, hW, hW3, hpl, hof, hsp⟩ := id hd
  refine r_aload_n dL_act_112 0 rfl ?_
  refine r_iload_n dL_act_113 3 rfl ?_
  refine r_bipush (v := nI 6) dL_act_114 (by decide) ?_
  refine r_irem dL_act_116 (by decide) ?_
  rw [nI_mod (a := X / 20) (b := 6) (by omega) (by omega) (by omega)]
  refine r_iload_n dL_act_117 3 rfl ?_
  refine r_bipush (v := nI 6) dL_act_118 (by decide) ?_
  refine r_idiv dL_act_120 (by decide) ?_
  rw [nI_div (a := X / 20) (b := 6) (by omega) (by omega) (by omega)]
  refine r_bipush (v := nI 6) dL_act_121 (by decide) ?_
  refine r_irem dL_act_123 (by decide) ?_
  rw [nI_mod (a := (X / 20) / 6) (b := 6) (by omega) (by omega) (by omega)]
  refine r_callXSH (nn := 3) (As := [.ref (a 15), .int (nI ((X / 20) % 6)), .int (nI (((X / 20) / 6) % 6))]) (st := []) dL_act_124 (tL_fight hg hd (nI ((X / 20) % 6)) (nI (((X / 20) / 6) % 6))) gL_act_L_fight rfl (by decide +kernel) ⟨Nat.le_of_ble_eq_true rfl, Nat.le_of_ble_eq_true rfl⟩ ⟨rfl, rfl⟩ rfl (Nat.le_of_ble_eq_true rfl) ⟨by show _ ≤ 12; omega, by show _ ≤ 500; omega⟩ rfl (fun Ec hh hp => hp.elim) (fun r hh hp => ?_)
  have ha : aRes dt nF nC nE w X = oFight dt nF nC nE w (nI ((X / 20) % 6)) (nI (((X / 20) / 6) % 6)) := by
      unfold aRes
      rcases e20 with e20 | e20
      · rw [e20]; rfl
      · rw [e20]; rfl
  exact kret _ _ _ _ _ _ (by omega) (by omega) dL_act_127 rfl (by rw [ha]; exact hp)

set_option maxHeartbeats 8000000 in
set_option maxRecDepth 100000 in
theorem ac_k2 {E : kE} {a cap : Nat → Nat} {h0 : kH} {dt : kM} {nF nC nE w X pn : Nat} {fn : Nat → Int32} {X9 : kX} (hg : dgeo E a cap nF nC nE h0) (hd : dwf dt nF nC nE w) (hX : X < 2 ^ 31) (hpn : h0 pn = some (.inl (kI E, 3, .inl fn))) (hn_0 : fn 0 = nI nF) (hn_1 : fn 1 = nI nC) (hn_2 : fn 2 = nI nE) (kret : ∀ (k n : Nat) (h' : kH) (lo : List (Nat × Value)) (pc : Nat) (r : Int32), k ≤ 12 → n ≤ 500 → decode cL_act pc = .ok (.ireturn, 1) → narrow .int (.int r) = .int r → OPost E a h0 (dw E a cap nF nC nE dt h0) (aRes dt nF nC nE w X) r h' → V E X9 rmL_act cL_act 5 wsL_act RL k n h' lo pc [.int r]) (e20 : X % 20 = 2) : V E X9 rmL_act cL_act 5 wsL_act RL 0 0 (dw E a cap nF nC nE dt h0) [(0, .ref (a 15)), (1, .ref pn), (2, .int (nI X)), (3, .int (nI (X / 20))), (4, .int (nI (ownA nF (X / 20))))] 128 [] := by
  obtain ⟨hF, hF20, hC, hC6, hE, hE80, hW, hW3, hpl, hof, hsp⟩ := id hd
  refine r_aload_n dL_act_128 0 rfl ?_
  refine r_iload dL_act_129 4 rfl ?_
  refine r_callXSH (nn := 2) (As := [.ref (a 15), .int (nI (ownA nF (X / 20)))]) (st := []) dL_act_131 (tL_end hg hd (nI (ownA nF (X / 20)))) gL_act_L_end rfl (by decide +kernel) ⟨Nat.le_of_ble_eq_true rfl, Nat.le_of_ble_eq_true rfl⟩ ⟨rfl, rfl⟩ rfl (Nat.le_of_ble_eq_true rfl) ⟨by show _ ≤ 12; omega, by show _ ≤ 500; omega⟩ rfl (fun Ec hh hp => hp.elim) (fun r hh hp => ?_)
  have ha : aRes dt nF nC nE w X = oEnd dt nF nC nE w (nI (ownA nF (X / 20))) := by rw [aRes, e20]; rfl
  exact kret _ _ _ _ _ _ (by omega) (by omega) dL_act_134 rfl (by rw [ha]; exact hp)

set_option maxHeartbeats 8000000 in
set_option maxRecDepth 100000 in
theorem ac_k3 {E : kE} {a cap : Nat → Nat} {h0 : kH} {dt : kM} {nF nC nE w X pn : Nat} {fn : Nat → Int32} {X9 : kX} (hg : dgeo E a cap nF nC nE h0) (hd : dwf dt nF nC nE w) (hX : X < 2 ^ 31) (hpn : h0 pn = some (.inl (kI E, 3, .inl fn))) (hn_0 : fn 0 = nI nF) (hn_1 : fn 1 = nI nC) (hn_2 : fn 2 = nI nE) (kret : ∀ (k n : Nat) (h' : kH) (lo : List (Nat × Value)) (pc : Nat) (r : Int32), k ≤ 12 → n ≤ 500 → decode cL_act pc = .ok (.ireturn, 1) → narrow .int (.int r) = .int r → OPost E a h0 (dw E a cap nF nC nE dt h0) (aRes dt nF nC nE w X) r h' → V E X9 rmL_act cL_act 5 wsL_act RL k n h' lo pc [.int r]) (e20 : X % 20 = 3) : V E X9 rmL_act cL_act 5 wsL_act RL 0 0 (dw E a cap nF nC nE dt h0) [(0, .ref (a 15)), (1, .ref pn), (2, .int (nI X)), (3, .int (nI (X / 20))), (4, .int (nI (ownA nF (X / 20))))] 135 [] := by
  obtain ⟨hF, hF20, hC, hC6, hE, hE80, hW, hW3, hpl, hof, hsp⟩ := id hd
  refine r_aload_n dL_act_135 0 rfl ?_
  refine r_aload_n dL_act_136 1 rfl ?_
  refine r_iconst (v := nI 0) dL_act_137 (by decide) ?_
  refine r_iald dL_act_138 (dw_at hg hpn) (vp_in_nI (by decide) (by decide)) ?_
  rw [show fn (nI 0).toNatClampNeg = nI nF from hn_0]
  refine r_if_ne (tgt := 146) dL_act_139 (by decide) (fun c6 => ?_) (fun c6 => ?_)
  · skip
    have hn0 : 0 < nF := Nat.pos_of_ne_zero (fun z => c6 (by rw [z]; rfl))
    refine r_iload_n dL_act_146 3 rfl ?_
    refine r_aload_n dL_act_147 1 rfl ?_
    refine r_iconst (v := nI 0) dL_act_148 (by decide) ?_
    refine r_iald dL_act_149 (dw_at hg hpn) (vp_in_nI (by decide) (by decide)) ?_
    rw [show fn (nI 0).toNatClampNeg = nI nF from hn_0]
    refine r_irem dL_act_150 (nI_ne0 hn0 (by omega)) ?_
    rw [nI_mod (a := X / 20) (b := nF) (by omega) hn0 (by omega)]
    refine r_callXSH (nn := 2) (As := [.ref (a 15), .int (nI ((X / 20) % nF))]) (st := []) dL_act_151 (tL_replay hg hd (nI ((X / 20) % nF))) gL_act_L_replay rfl (by decide +kernel) ⟨Nat.le_of_ble_eq_true rfl, Nat.le_of_ble_eq_true rfl⟩ ⟨rfl, rfl⟩ rfl (Nat.le_of_ble_eq_true rfl) ⟨by show _ ≤ 12; omega, by show _ ≤ 500; omega⟩ rfl (fun Ec hh hp => hp.elim) (fun r hh hp => ?_)
    have ha : aRes dt nF nC nE w X = oReplay dt nF nC nE w (nI ((X / 20) % nF)) := by rw [aRes, e20]; show oReplay dt nF nC nE w (nI (if nF = 0 then 0 else X / 20 % nF)) = _; rw [if_neg (by omega)]
    exact kret _ _ _ _ _ _ (by omega) (by omega) dL_act_154 rfl (by rw [ha]; exact hp)
  · skip
    have hz : nF = 0 := (nIz (by omega)).mp c6
    refine r_iconst (v := nI 0) dL_act_142 (by decide) ?_
    refine r_goto (tgt := 151) dL_act_143 (by decide) ?_
    refine r_callXSH (nn := 2) (As := [.ref (a 15), .int (nI 0)]) (st := []) dL_act_151 (tL_replay hg hd (nI 0)) gL_act_L_replay rfl (by decide +kernel) ⟨Nat.le_of_ble_eq_true rfl, Nat.le_of_ble_eq_true rfl⟩ ⟨rfl, rfl⟩ rfl (Nat.le_of_ble_eq_true rfl) ⟨by show _ ≤ 12; omega, by show _ ≤ 500; omega⟩ rfl (fun Ec hh hp => hp.elim) (fun r hh hp => ?_)
    have ha : aRes dt nF nC nE w X = oReplay dt nF nC nE w (nI 0) := by rw [aRes, e20]; show oReplay dt nF nC nE w (nI (if nF = 0 then 0 else X / 20 % nF)) = _; rw [if_pos hz]
    exact kret _ _ _ _ _ _ (by omega) (by omega) dL_act_154 rfl (by rw [ha]; exact hp)

set_option maxHeartbeats 8000000 in
set_option maxRecDepth 100000 in
theorem ac_k4 {E : kE} {a cap : Nat → Nat} {h0 : kH} {dt : kM} {nF nC nE w X pn : Nat} {fn : Nat → Int32} {X9 : kX} (hg : dgeo E a cap nF nC nE h0) (hd : dwf dt nF nC nE w) (hX : X < 2 ^ 31) (hpn : h0 pn = some (.inl (kI E, 3, .inl fn))) (hn_0 : fn 0 = nI nF) (hn_1 : fn 1 = nI nC) (hn_2 : fn 2 = nI nE) (kret : ∀ (k n : Nat) (h' : kH) (lo : List (Nat × Value)) (pc : Nat) (r : Int32), k ≤ 12 → n ≤ 500 → decode cL_act pc = .ok (.ireturn, 1) → narrow .int (.int r) = .int r → OPost E a h0 (dw E a cap nF nC nE dt h0) (aRes dt nF nC nE w X) r h' → V E X9 rmL_act cL_act 5 wsL_act RL k n h' lo pc [.int r]) (e20 : X % 20 = 4) : V E X9 rmL_act cL_act 5 wsL_act RL 0 0 (dw E a cap nF nC nE dt h0) [(0, .ref (a 15)), (1, .ref pn), (2, .int (nI X)), (3, .int (nI (X / 20))), (4, .int (nI (ownA nF (X / 20))))] 155 [] := by
  obtain ⟨hF, hF20, hC, hC6, hE, hE80, hW, hW3, hpl, hof, hsp⟩ := id hd
  refine r_aload_n dL_act_155 0 rfl ?_
  refine r_iconst (v := nI 1) dL_act_156 (by decide) ?_
  refine r_iload_n dL_act_157 3 rfl ?_
  refine r_bipush (v := nI 20) dL_act_158 (by decide) ?_
  refine r_irem dL_act_160 (by decide) ?_
  rw [nI_mod (a := X / 20) (b := 20) (by omega) (by omega) (by omega)]
  refine r_iadd dL_act_161 ?_
  rw [nI_add 1 ((X / 20) % 20)]
  refine r_iload_n dL_act_162 3 rfl ?_
  refine r_bipush (v := nI 20) dL_act_163 (by decide) ?_
  refine r_idiv dL_act_165 (by decide) ?_
  rw [nI_div (a := X / 20) (b := 20) (by omega) (by omega) (by omega)]
  refine r_bipush (v := nI 20) dL_act_166 (by decide) ?_
  refine r_irem dL_act_168 (by decide) ?_
  rw [nI_mod (a := (X / 20) / 20) (b := 20) (by omega) (by omega) (by omega)]
  refine r_callXSH (nn := 3) (As := [.ref (a 15), .int (nI (1 + ((X / 20) % 20))), .int (nI (((X / 20) / 20) % 20))]) (st := []) dL_act_169 (tL_camera hg hd (nI (1 + ((X / 20) % 20))) (nI (((X / 20) / 20) % 20))) gL_act_L_camera rfl (by decide +kernel) ⟨Nat.le_of_ble_eq_true rfl, Nat.le_of_ble_eq_true rfl⟩ ⟨rfl, rfl⟩ rfl (Nat.le_of_ble_eq_true rfl) ⟨by show _ ≤ 12; omega, by show _ ≤ 500; omega⟩ rfl (fun Ec hh hp => hp.elim) (fun r hh hp => ?_)
  have ha : aRes dt nF nC nE w X = oCamera dt nF nC nE w (nI (1 + ((X / 20) % 20))) (nI (((X / 20) / 20) % 20)) := by rw [aRes, e20]; rfl
  exact kret _ _ _ _ _ _ (by omega) (by omega) dL_act_172 rfl (by rw [ha]; exact hp)

set_option maxHeartbeats 8000000 in
set_option maxRecDepth 100000 in
theorem ac_k5 {E : kE} {a cap : Nat → Nat} {h0 : kH} {dt : kM} {nF nC nE w X pn : Nat} {fn : Nat → Int32} {X9 : kX} (hg : dgeo E a cap nF nC nE h0) (hd : dwf dt nF nC nE w) (hX : X < 2 ^ 31) (hpn : h0 pn = some (.inl (kI E, 3, .inl fn))) (hn_0 : fn 0 = nI nF) (hn_1 : fn 1 = nI nC) (hn_2 : fn 2 = nI nE) (kret : ∀ (k n : Nat) (h' : kH) (lo : List (Nat × Value)) (pc : Nat) (r : Int32), k ≤ 12 → n ≤ 500 → decode cL_act pc = .ok (.ireturn, 1) → narrow .int (.int r) = .int r → OPost E a h0 (dw E a cap nF nC nE dt h0) (aRes dt nF nC nE w X) r h' → V E X9 rmL_act cL_act 5 wsL_act RL k n h' lo pc [.int r]) (e20 : X % 20 = 5) : V E X9 rmL_act cL_act 5 wsL_act RL 0 0 (dw E a cap nF nC nE dt h0) [(0, .ref (a 15)), (1, .ref pn), (2, .int (nI X)), (3, .int (nI (X / 20))), (4, .int (nI (ownA nF (X / 20))))] 173 [] := by
  obtain ⟨hF, hF20, hC, hC6, hE, hE80, hW, hW3, hpl, hof, hsp⟩ := id hd
  refine r_aload_n dL_act_173 0 rfl ?_
  refine r_iload_n dL_act_174 3 rfl ?_
  refine r_bipush (v := nI 30) dL_act_175 (by decide) ?_
  refine r_irem dL_act_177 (by decide) ?_
  rw [nI_mod (a := X / 20) (b := 30) (by omega) (by omega) (by omega)]
  refine r_callXSH (nn := 2) (As := [.ref (a 15), .int (nI ((X / 20) % 30))]) (st := []) dL_act_178 (tL_delay hg hd (nI ((X / 20) % 30))) gL_act_L_delay rfl (by decide +kernel) ⟨Nat.le_of_ble_eq_true rfl, Nat.le_of_ble_eq_true rfl⟩ ⟨rfl, rfl⟩ rfl (Nat.le_of_ble_eq_true rfl) ⟨by show _ ≤ 12; omega, by show _ ≤ 500; omega⟩ rfl (fun Ec hh hp => hp.elim) (fun r hh hp => ?_)
  have ha : aRes dt nF nC nE w X = oDelay dt nF nC nE w (nI ((X / 20) % 30)) := by rw [aRes, e20]; rfl
  exact kret _ _ _ _ _ _ (by omega) (by omega) dL_act_181 rfl (by rw [ha]; exact hp)

set_option maxHeartbeats 8000000 in
set_option maxRecDepth 100000 in
theorem ac_k6 {E : kE} {a cap : Nat → Nat} {h0 : kH} {dt : kM} {nF nC nE w X pn : Nat} {fn : Nat → Int32} {X9 : kX} (hg : dgeo E a cap nF nC nE h0) (hd : dwf dt nF nC nE w) (hX : X < 2 ^ 31) (hpn : h0 pn = some (.inl (kI E, 3, .inl fn))) (hn_0 : fn 0 = nI nF) (hn_1 : fn 1 = nI nC) (hn_2 : fn 2 = nI nE) (kret : ∀ (k n : Nat) (h' : kH) (lo : List (Nat × Value)) (pc : Nat) (r : Int32), k ≤ 12 → n ≤ 500 → decode cL_act pc = .ok (.ireturn, 1) → narrow .int (.int r) = .int r → OPost E a h0 (dw E a cap nF nC nE dt h0) (aRes dt nF nC nE w X) r h' → V E X9 rmL_act cL_act 5 wsL_act RL k n h' lo pc [.int r]) (e20 : X % 20 = 6) : V E X9 rmL_act cL_act 5 wsL_act RL 0 0 (dw E a cap nF nC nE dt h0) [(0, .ref (a 15)), (1, .ref pn), (2, .int (nI X)), (3, .int (nI (X / 20))), (4, .int (nI (ownA nF (X / 20))))] 182 [] := by
  obtain ⟨hF, hF20, hC, hC6, hE, hE80, hW, hW3, hpl, hof, hsp⟩ := id hd
  refine r_aload_n dL_act_182 0 rfl ?_
  refine r_iload_n dL_act_183 3 rfl ?_
  refine r_bipush (v := nI 10) dL_act_184 (by decide) ?_
  refine r_irem dL_act_186 (by decide) ?_
  rw [nI_mod (a := X / 20) (b := 10) (by omega) (by omega) (by omega)]
  refine r_iload_n dL_act_187 3 rfl ?_
  refine r_bipush (v := nI 10) dL_act_188 (by decide) ?_
  refine r_idiv dL_act_190 (by decide) ?_
  rw [nI_div (a := X / 20) (b := 10) (by omega) (by omega) (by omega)]
  refine r_bipush (v := nI 30) dL_act_191 (by decide) ?_
  refine r_irem dL_act_193 (by decide) ?_
  rw [nI_mod (a := (X / 20) / 10) (b := 30) (by omega) (by omega) (by omega)]
  refine r_callXSH (nn := 3) (As := [.ref (a 15), .int (nI ((X / 20) % 10)), .int (nI (((X / 20) / 10) % 30))]) (st := []) dL_act_194 (tL_rank hg hd (nI ((X / 20) % 10)) (nI (((X / 20) / 10) % 30))) gL_act_L_rank rfl (by decide +kernel) ⟨Nat.le_of_ble_eq_true rfl, Nat.le_of_ble_eq_true rfl⟩ ⟨rfl, rfl⟩ rfl (Nat.le_of_ble_eq_true rfl) ⟨by show _ ≤ 12; omega, by show _ ≤ 500; omega⟩ rfl (fun Ec hh hp => hp.elim) (fun r hh hp => ?_)
  have ha : aRes dt nF nC nE w X = oRank dt nF nC nE w (nI ((X / 20) % 10)) (nI (((X / 20) / 10) % 30)) := by rw [aRes, e20]; rfl
  exact kret _ _ _ _ _ _ (by omega) (by omega) dL_act_197 rfl (by rw [ha]; exact hp)

set_option maxHeartbeats 8000000 in
set_option maxRecDepth 100000 in
theorem ac_k7 {E : kE} {a cap : Nat → Nat} {h0 : kH} {dt : kM} {nF nC nE w X pn : Nat} {fn : Nat → Int32} {X9 : kX} (hg : dgeo E a cap nF nC nE h0) (hd : dwf dt nF nC nE w) (hX : X < 2 ^ 31) (hpn : h0 pn = some (.inl (kI E, 3, .inl fn))) (hn_0 : fn 0 = nI nF) (hn_1 : fn 1 = nI nC) (hn_2 : fn 2 = nI nE) (kret : ∀ (k n : Nat) (h' : kH) (lo : List (Nat × Value)) (pc : Nat) (r : Int32), k ≤ 12 → n ≤ 500 → decode cL_act pc = .ok (.ireturn, 1) → narrow .int (.int r) = .int r → OPost E a h0 (dw E a cap nF nC nE dt h0) (aRes dt nF nC nE w X) r h' → V E X9 rmL_act cL_act 5 wsL_act RL k n h' lo pc [.int r]) (e20 : X % 20 = 7) : V E X9 rmL_act cL_act 5 wsL_act RL 0 0 (dw E a cap nF nC nE dt h0) [(0, .ref (a 15)), (1, .ref pn), (2, .int (nI X)), (3, .int (nI (X / 20))), (4, .int (nI (ownA nF (X / 20))))] 198 [] := by
  obtain ⟨hF, hF20, hC, hC6, hE, hE80, hW, hW3, hpl, hof, hsp⟩ := id hd
  refine r_aload_n dL_act_198 0 rfl ?_
  refine r_iload_n dL_act_199 3 rfl ?_
  refine r_bipush (v := nI 6) dL_act_200 (by decide) ?_
  refine r_irem dL_act_202 (by decide) ?_
  rw [nI_mod (a := X / 20) (b := 6) (by omega) (by omega) (by omega)]
  refine r_iload_n dL_act_203 3 rfl ?_
  refine r_bipush (v := nI 6) dL_act_204 (by decide) ?_
  refine r_idiv dL_act_206 (by decide) ?_
  rw [nI_div (a := X / 20) (b := 6) (by omega) (by omega) (by omega)]
  refine r_bipush (v := nI 120) dL_act_207 (by decide) ?_
  refine r_irem dL_act_209 (by decide) ?_
  rw [nI_mod (a := (X / 20) / 6) (b := 120) (by omega) (by omega) (by omega)]
  refine r_callXSH (nn := 3) (As := [.ref (a 15), .int (nI ((X / 20) % 6)), .int (nI (((X / 20) / 6) % 120))]) (st := []) dL_act_210 (tL_promise hg hd (nI ((X / 20) % 6)) (nI (((X / 20) / 6) % 120))) gL_act_L_promise rfl (by decide +kernel) ⟨Nat.le_of_ble_eq_true rfl, Nat.le_of_ble_eq_true rfl⟩ ⟨rfl, rfl⟩ rfl (Nat.le_of_ble_eq_true rfl) ⟨by show _ ≤ 12; omega, by show _ ≤ 500; omega⟩ rfl (fun Ec hh hp => hp.elim) (fun r hh hp => ?_)
  have ha : aRes dt nF nC nE w X = oPromise dt nF nC nE w (nI ((X / 20) % 6)) (nI (((X / 20) / 6) % 120)) := by rw [aRes, e20]; rfl
  exact kret _ _ _ _ _ _ (by omega) (by omega) dL_act_213 rfl (by rw [ha]; exact hp)

set_option maxHeartbeats 8000000 in
set_option maxRecDepth 100000 in
theorem ac_k8 {E : kE} {a cap : Nat → Nat} {h0 : kH} {dt : kM} {nF nC nE w X pn : Nat} {fn : Nat → Int32} {X9 : kX} (hg : dgeo E a cap nF nC nE h0) (hd : dwf dt nF nC nE w) (hX : X < 2 ^ 31) (hpn : h0 pn = some (.inl (kI E, 3, .inl fn))) (hn_0 : fn 0 = nI nF) (hn_1 : fn 1 = nI nC) (hn_2 : fn 2 = nI nE) (kret : ∀ (k n : Nat) (h' : kH) (lo : List (Nat × Value)) (pc : Nat) (r : Int32), k ≤ 12 → n ≤ 500 → decode cL_act pc = .ok (.ireturn, 1) → narrow .int (.int r) = .int r → OPost E a h0 (dw E a cap nF nC nE dt h0) (aRes dt nF nC nE w X) r h' → V E X9 rmL_act cL_act 5 wsL_act RL k n h' lo pc [.int r]) (e20 : X % 20 = 8) : V E X9 rmL_act cL_act 5 wsL_act RL 0 0 (dw E a cap nF nC nE dt h0) [(0, .ref (a 15)), (1, .ref pn), (2, .int (nI X)), (3, .int (nI (X / 20))), (4, .int (nI (ownA nF (X / 20))))] 214 [] := by
  obtain ⟨hF, hF20, hC, hC6, hE, hE80, hW, hW3, hpl, hof, hsp⟩ := id hd
  refine r_aload_n dL_act_214 0 rfl ?_
  refine r_iload_n dL_act_215 3 rfl ?_
  refine r_bipush (v := nI 6) dL_act_216 (by decide) ?_
  refine r_irem dL_act_218 (by decide) ?_
  rw [nI_mod (a := X / 20) (b := 6) (by omega) (by omega) (by omega)]
  refine r_iload_n dL_act_219 3 rfl ?_
  refine r_bipush (v := nI 6) dL_act_220 (by decide) ?_
  refine r_idiv dL_act_222 (by decide) ?_
  rw [nI_div (a := X / 20) (b := 6) (by omega) (by omega) (by omega)]
  refine r_bipush (v := nI 6) dL_act_223 (by decide) ?_
  refine r_irem dL_act_225 (by decide) ?_
  rw [nI_mod (a := (X / 20) / 6) (b := 6) (by omega) (by omega) (by omega)]
  refine r_callXSH (nn := 3) (As := [.ref (a 15), .int (nI ((X / 20) % 6)), .int (nI (((X / 20) / 6) % 6))]) (st := []) dL_act_226 (tL_slot hg hd (nI ((X / 20) % 6)) (nI (((X / 20) / 6) % 6))) gL_act_L_slot rfl (by decide +kernel) ⟨Nat.le_of_ble_eq_true rfl, Nat.le_of_ble_eq_true rfl⟩ ⟨rfl, rfl⟩ rfl (Nat.le_of_ble_eq_true rfl) ⟨by show _ ≤ 12; omega, by show _ ≤ 500; omega⟩ rfl (fun Ec hh hp => hp.elim) (fun r hh hp => ?_)
  have ha : aRes dt nF nC nE w X = oSlot dt nF nC nE w (nI ((X / 20) % 6)) (nI (((X / 20) / 6) % 6)) := by rw [aRes, e20]; rfl
  exact kret _ _ _ _ _ _ (by omega) (by omega) dL_act_229 rfl (by rw [ha]; exact hp)

set_option maxHeartbeats 8000000 in
set_option maxRecDepth 100000 in
theorem ac_k9 {E : kE} {a cap : Nat → Nat} {h0 : kH} {dt : kM} {nF nC nE w X pn : Nat} {fn : Nat → Int32} {X9 : kX} (hg : dgeo E a cap nF nC nE h0) (hd : dwf dt nF nC nE w) (hX : X < 2 ^ 31) (hpn : h0 pn = some (.inl (kI E, 3, .inl fn))) (hn_0 : fn 0 = nI nF) (hn_1 : fn 1 = nI nC) (hn_2 : fn 2 = nI nE) (kret : ∀ (k n : Nat) (h' : kH) (lo : List (Nat × Value)) (pc : Nat) (r : Int32), k ≤ 12 → n ≤ 500 → decode cL_act pc = .ok (.ireturn, 1) → narrow .int (.int r) = .int r → OPost E a h0 (dw E a cap nF nC nE dt h0) (aRes dt nF nC nE w X) r h' → V E X9 rmL_act cL_act 5 wsL_act RL k n h' lo pc [.int r]) (e20 : X % 20 = 9 ∨ X % 20 = 10 ∨ X % 20 = 11) : V E X9 rmL_act cL_act 5 wsL_act RL 0 0 (dw E a cap nF nC nE dt h0) [(0, .ref (a 15)), (1, .ref pn), (2, .int (nI X)), (3, .int (nI (X / 20))), (4, .int (nI (ownA nF (X / 20))))] 230 [] := by
  obtain ⟨hF, hF20, hC, hC6, hE, hE80, hW, hW3, hpl, hof, hsp⟩ := id hd
  refine r_aload_n dL_act_230 0 rfl ?_
  refine r_iload dL_act_231 4 rfl ?_
  refine r_iload_n dL_act_233 3 rfl ?_
  refine r_iconst (v := nI 4) dL_act_234 (by decide) ?_
  refine r_idiv dL_act_235 (by decide) ?_
  rw [nI_div (a := X / 20) (b := 4) (by omega) (by omega) (by omega)]
  refine r_bipush (v := nI 6) dL_act_236 (by decide) ?_
  refine r_irem dL_act_238 (by decide) ?_
  rw [nI_mod (a := (X / 20) / 4) (b := 6) (by omega) (by omega) (by omega)]
  refine r_iconst (v := nI 1) dL_act_239 (by decide) ?_
  refine r_iload_n dL_act_240 3 rfl ?_
  refine r_bipush (v := nI 24) dL_act_241 (by decide) ?_
  refine r_idiv dL_act_243 (by decide) ?_
  rw [nI_div (a := X / 20) (b := 24) (by omega) (by omega) (by omega)]
  refine r_bipush (v := nI 9) dL_act_244 (by decide) ?_
  refine r_irem dL_act_246 (by decide) ?_
  rw [nI_mod (a := (X / 20) / 24) (b := 9) (by omega) (by omega) (by omega)]
  refine r_iadd dL_act_247 ?_
  rw [nI_add 1 (((X / 20) / 24) % 9)]
  refine r_callXSH (nn := 4) (As := [.ref (a 15), .int (nI (ownA nF (X / 20))), .int (nI (((X / 20) / 4) % 6)), .int (nI (1 + (((X / 20) / 24) % 9)))]) (st := []) dL_act_248 (tL_blow hg hd (nI (ownA nF (X / 20))) (nI (((X / 20) / 4) % 6)) (nI (1 + (((X / 20) / 24) % 9)))) gL_act_L_blow rfl (by decide +kernel) ⟨Nat.le_of_ble_eq_true rfl, Nat.le_of_ble_eq_true rfl⟩ ⟨rfl, rfl⟩ rfl (Nat.le_of_ble_eq_true rfl) ⟨by show _ ≤ 12; omega, by show _ ≤ 500; omega⟩ rfl (fun Ec hh hp => hp.elim) (fun r hh hp => ?_)
  have ha : aRes dt nF nC nE w X = oBlow dt nF nC nE w (nI (ownA nF (X / 20))) (nI (((X / 20) / 4) % 6)) (nI (1 + (((X / 20) / 24) % 9))) := by
      unfold aRes
      rcases e20 with e20 | e20 | e20
      · rw [e20]; rfl
      · rw [e20]; rfl
      · rw [e20]; rfl
  exact kret _ _ _ _ _ _ (by omega) (by omega) dL_act_251 rfl (by rw [ha]; exact hp)

set_option maxHeartbeats 8000000 in
set_option maxRecDepth 100000 in
theorem ac_k12 {E : kE} {a cap : Nat → Nat} {h0 : kH} {dt : kM} {nF nC nE w X pn : Nat} {fn : Nat → Int32} {X9 : kX} (hg : dgeo E a cap nF nC nE h0) (hd : dwf dt nF nC nE w) (hX : X < 2 ^ 31) (hpn : h0 pn = some (.inl (kI E, 3, .inl fn))) (hn_0 : fn 0 = nI nF) (hn_1 : fn 1 = nI nC) (hn_2 : fn 2 = nI nE) (kret : ∀ (k n : Nat) (h' : kH) (lo : List (Nat × Value)) (pc : Nat) (r : Int32), k ≤ 12 → n ≤ 500 → decode cL_act pc = .ok (.ireturn, 1) → narrow .int (.int r) = .int r → OPost E a h0 (dw E a cap nF nC nE dt h0) (aRes dt nF nC nE w X) r h' → V E X9 rmL_act cL_act 5 wsL_act RL k n h' lo pc [.int r]) (e20 : X % 20 = 12) : V E X9 rmL_act cL_act 5 wsL_act RL 0 0 (dw E a cap nF nC nE dt h0) [(0, .ref (a 15)), (1, .ref pn), (2, .int (nI X)), (3, .int (nI (X / 20))), (4, .int (nI (ownA nF (X / 20))))] 252 [] := by
  obtain ⟨hF, hF20, hC, hC6, hE, hE80, hW, hW3, hpl, hof, hsp⟩ := id hd
  refine r_aload_n dL_act_252 0 rfl ?_
  refine r_aload_n dL_act_253 1 rfl ?_
  refine r_iconst (v := nI 2) dL_act_254 (by decide) ?_
  refine r_iald dL_act_255 (dw_at hg hpn) (vp_in_nI (by decide) (by decide)) ?_
  rw [show fn (nI 2).toNatClampNeg = nI nE from hn_2]
  refine r_if_ne (tgt := 263) dL_act_256 (by decide) (fun c6 => ?_) (fun c6 => ?_)
  · skip
    have hn0 : 0 < nE := Nat.pos_of_ne_zero (fun z => c6 (by rw [z]; rfl))
    refine r_iload_n dL_act_263 3 rfl ?_
    refine r_aload_n dL_act_264 1 rfl ?_
    refine r_iconst (v := nI 2) dL_act_265 (by decide) ?_
    refine r_iald dL_act_266 (dw_at hg hpn) (vp_in_nI (by decide) (by decide)) ?_
    rw [show fn (nI 2).toNatClampNeg = nI nE from hn_2]
    refine r_irem dL_act_267 (nI_ne0 hn0 (by omega)) ?_
    rw [nI_mod (a := X / 20) (b := nE) (by omega) hn0 (by omega)]
    refine r_callXSH (nn := 2) (As := [.ref (a 15), .int (nI ((X / 20) % nE))]) (st := []) dL_act_268 (tL_strike hg hd (nI ((X / 20) % nE))) gL_act_L_strike rfl (by decide +kernel) ⟨Nat.le_of_ble_eq_true rfl, Nat.le_of_ble_eq_true rfl⟩ ⟨rfl, rfl⟩ rfl (Nat.le_of_ble_eq_true rfl) ⟨by show _ ≤ 12; omega, by show _ ≤ 500; omega⟩ rfl (fun Ec hh hp => hp.elim) (fun r hh hp => ?_)
    have ha : aRes dt nF nC nE w X = oStrike dt nF nC nE w (nI ((X / 20) % nE)) := by rw [aRes, e20]; show oStrike dt nF nC nE w (nI (if nE = 0 then 0 else X / 20 % nE)) = _; rw [if_neg (by omega)]
    exact kret _ _ _ _ _ _ (by omega) (by omega) dL_act_271 rfl (by rw [ha]; exact hp)
  · skip
    have hz : nE = 0 := (nIz (by omega)).mp c6
    refine r_iconst (v := nI 0) dL_act_259 (by decide) ?_
    refine r_goto (tgt := 268) dL_act_260 (by decide) ?_
    refine r_callXSH (nn := 2) (As := [.ref (a 15), .int (nI 0)]) (st := []) dL_act_268 (tL_strike hg hd (nI 0)) gL_act_L_strike rfl (by decide +kernel) ⟨Nat.le_of_ble_eq_true rfl, Nat.le_of_ble_eq_true rfl⟩ ⟨rfl, rfl⟩ rfl (Nat.le_of_ble_eq_true rfl) ⟨by show _ ≤ 12; omega, by show _ ≤ 500; omega⟩ rfl (fun Ec hh hp => hp.elim) (fun r hh hp => ?_)
    have ha : aRes dt nF nC nE w X = oStrike dt nF nC nE w (nI 0) := by rw [aRes, e20]; show oStrike dt nF nC nE w (nI (if nE = 0 then 0 else X / 20 % nE)) = _; rw [if_pos hz]
    exact kret _ _ _ _ _ _ (by omega) (by omega) dL_act_271 rfl (by rw [ha]; exact hp)

set_option maxHeartbeats 8000000 in
set_option maxRecDepth 100000 in
theorem ac_k13 {E : kE} {a cap : Nat → Nat} {h0 : kH} {dt : kM} {nF nC nE w X pn : Nat} {fn : Nat → Int32} {X9 : kX} (hg : dgeo E a cap nF nC nE h0) (hd : dwf dt nF nC nE w) (hX : X < 2 ^ 31) (hpn : h0 pn = some (.inl (kI E, 3, .inl fn))) (hn_0 : fn 0 = nI nF) (hn_1 : fn 1 = nI nC) (hn_2 : fn 2 = nI nE) (kret : ∀ (k n : Nat) (h' : kH) (lo : List (Nat × Value)) (pc : Nat) (r : Int32), k ≤ 12 → n ≤ 500 → decode cL_act pc = .ok (.ireturn, 1) → narrow .int (.int r) = .int r → OPost E a h0 (dw E a cap nF nC nE dt h0) (aRes dt nF nC nE w X) r h' → V E X9 rmL_act cL_act 5 wsL_act RL k n h' lo pc [.int r]) (e20 : X % 20 = 13) : V E X9 rmL_act cL_act 5 wsL_act RL 0 0 (dw E a cap nF nC nE dt h0) [(0, .ref (a 15)), (1, .ref pn), (2, .int (nI X)), (3, .int (nI (X / 20))), (4, .int (nI (ownA nF (X / 20))))] 272 [] := by
  obtain ⟨hF, hF20, hC, hC6, hE, hE80, hW, hW3, hpl, hof, hsp⟩ := id hd
  refine r_aload_n dL_act_272 0 rfl ?_
  refine r_aload_n dL_act_273 1 rfl ?_
  refine r_iconst (v := nI 2) dL_act_274 (by decide) ?_
  refine r_iald dL_act_275 (dw_at hg hpn) (vp_in_nI (by decide) (by decide)) ?_
  rw [show fn (nI 2).toNatClampNeg = nI nE from hn_2]
  refine r_if_ne (tgt := 283) dL_act_276 (by decide) (fun c6 => ?_) (fun c6 => ?_)
  · skip
    have hn0 : 0 < nE := Nat.pos_of_ne_zero (fun z => c6 (by rw [z]; rfl))
    refine r_iload_n dL_act_283 3 rfl ?_
    refine r_aload_n dL_act_284 1 rfl ?_
    refine r_iconst (v := nI 2) dL_act_285 (by decide) ?_
    refine r_iald dL_act_286 (dw_at hg hpn) (vp_in_nI (by decide) (by decide)) ?_
    rw [show fn (nI 2).toNatClampNeg = nI nE from hn_2]
    refine r_irem dL_act_287 (nI_ne0 hn0 (by omega)) ?_
    rw [nI_mod (a := X / 20) (b := nE) (by omega) hn0 (by omega)]
    refine r_iconst (v := nI 1) dL_act_288 (by decide) ?_
    refine r_iload_n dL_act_289 3 rfl ?_
    refine r_bipush (v := nI 80) dL_act_290 (by decide) ?_
    refine r_idiv dL_act_292 (by decide) ?_
    rw [nI_div (a := X / 20) (b := 80) (by omega) (by omega) (by omega)]
    refine r_bipush (v := nI 9) dL_act_293 (by decide) ?_
    refine r_irem dL_act_295 (by decide) ?_
    rw [nI_mod (a := (X / 20) / 80) (b := 9) (by omega) (by omega) (by omega)]
    refine r_iadd dL_act_296 ?_
    rw [nI_add 1 (((X / 20) / 80) % 9)]
    refine r_callXSH (nn := 3) (As := [.ref (a 15), .int (nI ((X / 20) % nE)), .int (nI (1 + (((X / 20) / 80) % 9)))]) (st := []) dL_act_297 (tL_mend hg hd (nI ((X / 20) % nE)) (nI (1 + (((X / 20) / 80) % 9)))) gL_act_L_mend rfl (by decide +kernel) ⟨Nat.le_of_ble_eq_true rfl, Nat.le_of_ble_eq_true rfl⟩ ⟨rfl, rfl⟩ rfl (Nat.le_of_ble_eq_true rfl) ⟨by show _ ≤ 12; omega, by show _ ≤ 500; omega⟩ rfl (fun Ec hh hp => hp.elim) (fun r hh hp => ?_)
    have ha : aRes dt nF nC nE w X = oMend dt nF nC nE w (nI ((X / 20) % nE)) (nI (1 + (((X / 20) / 80) % 9))) := by rw [aRes, e20]; show oMend dt nF nC nE w (nI (if nE = 0 then 0 else X / 20 % nE)) (nI (1 + X / 20 / 80 % 9)) = _; rw [if_neg (by omega)]
    exact kret _ _ _ _ _ _ (by omega) (by omega) dL_act_300 rfl (by rw [ha]; exact hp)
  · skip
    have hz : nE = 0 := (nIz (by omega)).mp c6
    refine r_iconst (v := nI 0) dL_act_279 (by decide) ?_
    refine r_goto (tgt := 288) dL_act_280 (by decide) ?_
    refine r_iconst (v := nI 1) dL_act_288 (by decide) ?_
    refine r_iload_n dL_act_289 3 rfl ?_
    refine r_bipush (v := nI 80) dL_act_290 (by decide) ?_
    refine r_idiv dL_act_292 (by decide) ?_
    rw [nI_div (a := X / 20) (b := 80) (by omega) (by omega) (by omega)]
    refine r_bipush (v := nI 9) dL_act_293 (by decide) ?_
    refine r_irem dL_act_295 (by decide) ?_
    rw [nI_mod (a := (X / 20) / 80) (b := 9) (by omega) (by omega) (by omega)]
    refine r_iadd dL_act_296 ?_
    rw [nI_add 1 (((X / 20) / 80) % 9)]
    refine r_callXSH (nn := 3) (As := [.ref (a 15), .int (nI 0), .int (nI (1 + (((X / 20) / 80) % 9)))]) (st := []) dL_act_297 (tL_mend hg hd (nI 0) (nI (1 + (((X / 20) / 80) % 9)))) gL_act_L_mend rfl (by decide +kernel) ⟨Nat.le_of_ble_eq_true rfl, Nat.le_of_ble_eq_true rfl⟩ ⟨rfl, rfl⟩ rfl (Nat.le_of_ble_eq_true rfl) ⟨by show _ ≤ 12; omega, by show _ ≤ 500; omega⟩ rfl (fun Ec hh hp => hp.elim) (fun r hh hp => ?_)
    have ha : aRes dt nF nC nE w X = oMend dt nF nC nE w (nI 0) (nI (1 + (((X / 20) / 80) % 9))) := by rw [aRes, e20]; show oMend dt nF nC nE w (nI (if nE = 0 then 0 else X / 20 % nE)) (nI (1 + X / 20 / 80 % 9)) = _; rw [if_pos hz]
    exact kret _ _ _ _ _ _ (by omega) (by omega) dL_act_300 rfl (by rw [ha]; exact hp)

set_option maxHeartbeats 8000000 in
set_option maxRecDepth 100000 in
theorem ac_kd {E : kE} {a cap : Nat → Nat} {h0 : kH} {dt : kM} {nF nC nE w X pn : Nat} {fn : Nat → Int32} {X9 : kX} (hg : dgeo E a cap nF nC nE h0) (hd : dwf dt nF nC nE w) (hX : X < 2 ^ 31) (hpn : h0 pn = some (.inl (kI E, 3, .inl fn))) (hn_0 : fn 0 = nI nF) (hn_1 : fn 1 = nI nC) (hn_2 : fn 2 = nI nE) (kret : ∀ (k n : Nat) (h' : kH) (lo : List (Nat × Value)) (pc : Nat) (r : Int32), k ≤ 12 → n ≤ 500 → decode cL_act pc = .ok (.ireturn, 1) → narrow .int (.int r) = .int r → OPost E a h0 (dw E a cap nF nC nE dt h0) (aRes dt nF nC nE w X) r h' → V E X9 rmL_act cL_act 5 wsL_act RL k n h' lo pc [.int r]) (e20 : X % 20 = 14 ∨ X % 20 = 15 ∨ X % 20 = 16 ∨ X % 20 = 17 ∨ X % 20 = 18 ∨ X % 20 = 19) : V E X9 rmL_act cL_act 5 wsL_act RL 0 0 (dw E a cap nF nC nE dt h0) [(0, .ref (a 15)), (1, .ref pn), (2, .int (nI X)), (3, .int (nI (X / 20))), (4, .int (nI (ownA nF (X / 20))))] 301 [] := by
  obtain ⟨hF, hF20, hC, hC6, hE, hE80, hW, hW3, hpl, hof, hsp⟩ := id hd
  refine r_aload_n dL_act_301 0 rfl ?_
  refine r_iconst (v := nI 1) dL_act_302 (by decide) ?_
  refine r_iload_n dL_act_303 3 rfl ?_
  refine r_iload_n dL_act_304 3 rfl ?_
  refine r_iconst (v := nI 5) dL_act_305 (by decide) ?_
  refine r_irem dL_act_306 (by decide) ?_
  rw [nI_mod (a := X / 20) (b := 5) (by omega) (by omega) (by omega)]
  refine r_if_ne (tgt := 315) dL_act_307 (by decide) (fun c6 => ?_) (fun c6 => ?_)
  · skip
    have h5 : ¬ X / 20 % 5 = 0 := fun z => c6 (by rw [z]; rfl)
    refine r_bipush (v := nI 6) dL_act_315 (by decide) ?_
    refine r_irem dL_act_317 (by decide) ?_
    rw [nI_mod (a := X / 20) (b := 6) (by omega) (by omega) (by omega)]
    refine r_iadd dL_act_318 ?_
    rw [nI_add 1 ((X / 20) % 6)]
    refine r_callXSH (nn := 2) (As := [.ref (a 15), .int (nI (1 + ((X / 20) % 6)))]) (st := []) dL_act_319 (tL_pass hg hd (nI (1 + ((X / 20) % 6)))) gL_act_L_pass rfl (by decide +kernel) ⟨Nat.le_of_ble_eq_true rfl, Nat.le_of_ble_eq_true rfl⟩ ⟨rfl, rfl⟩ rfl (Nat.le_of_ble_eq_true rfl) ⟨by show _ ≤ 12; omega, by show _ ≤ 500; omega⟩ rfl (fun Ec hh hp => hp.elim) (fun r hh hp => ?_)
    have ha : aRes dt nF nC nE w X = oPass dt nF nC nE w (nI (1 + ((X / 20) % 6))) := by
      unfold aRes
      rcases e20 with e20 | e20 | e20 | e20 | e20 | e20
      · rw [e20]; show oPass dt nF nC nE w (nI (1 + X / 20 % (if X / 20 % 5 = 0 then 60 else 6))) = _; rw [if_neg h5]
      · rw [e20]; show oPass dt nF nC nE w (nI (1 + X / 20 % (if X / 20 % 5 = 0 then 60 else 6))) = _; rw [if_neg h5]
      · rw [e20]; show oPass dt nF nC nE w (nI (1 + X / 20 % (if X / 20 % 5 = 0 then 60 else 6))) = _; rw [if_neg h5]
      · rw [e20]; show oPass dt nF nC nE w (nI (1 + X / 20 % (if X / 20 % 5 = 0 then 60 else 6))) = _; rw [if_neg h5]
      · rw [e20]; show oPass dt nF nC nE w (nI (1 + X / 20 % (if X / 20 % 5 = 0 then 60 else 6))) = _; rw [if_neg h5]
      · rw [e20]; show oPass dt nF nC nE w (nI (1 + X / 20 % (if X / 20 % 5 = 0 then 60 else 6))) = _; rw [if_neg h5]
    exact kret _ _ _ _ _ _ (by omega) (by omega) dL_act_322 rfl (by rw [ha]; exact hp)
  · skip
    have h5 : X / 20 % 5 = 0 := (nIz (by omega)).mp c6
    refine r_bipush (v := nI 60) dL_act_310 (by decide) ?_
    refine r_goto (tgt := 317) dL_act_312 (by decide) ?_
    refine r_irem dL_act_317 (by decide) ?_
    rw [nI_mod (a := X / 20) (b := 60) (by omega) (by omega) (by omega)]
    refine r_iadd dL_act_318 ?_
    rw [nI_add 1 ((X / 20) % 60)]
    refine r_callXSH (nn := 2) (As := [.ref (a 15), .int (nI (1 + ((X / 20) % 60)))]) (st := []) dL_act_319 (tL_pass hg hd (nI (1 + ((X / 20) % 60)))) gL_act_L_pass rfl (by decide +kernel) ⟨Nat.le_of_ble_eq_true rfl, Nat.le_of_ble_eq_true rfl⟩ ⟨rfl, rfl⟩ rfl (Nat.le_of_ble_eq_true rfl) ⟨by show _ ≤ 12; omega, by show _ ≤ 500; omega⟩ rfl (fun Ec hh hp => hp.elim) (fun r hh hp => ?_)
    have ha : aRes dt nF nC nE w X = oPass dt nF nC nE w (nI (1 + ((X / 20) % 60))) := by
      unfold aRes
      rcases e20 with e20 | e20 | e20 | e20 | e20 | e20
      · rw [e20]; show oPass dt nF nC nE w (nI (1 + X / 20 % (if X / 20 % 5 = 0 then 60 else 6))) = _; rw [if_pos h5]
      · rw [e20]; show oPass dt nF nC nE w (nI (1 + X / 20 % (if X / 20 % 5 = 0 then 60 else 6))) = _; rw [if_pos h5]
      · rw [e20]; show oPass dt nF nC nE w (nI (1 + X / 20 % (if X / 20 % 5 = 0 then 60 else 6))) = _; rw [if_pos h5]
      · rw [e20]; show oPass dt nF nC nE w (nI (1 + X / 20 % (if X / 20 % 5 = 0 then 60 else 6))) = _; rw [if_pos h5]
      · rw [e20]; show oPass dt nF nC nE w (nI (1 + X / 20 % (if X / 20 % 5 = 0 then 60 else 6))) = _; rw [if_pos h5]
      · rw [e20]; show oPass dt nF nC nE w (nI (1 + X / 20 % (if X / 20 % 5 = 0 then 60 else 6))) = _; rw [if_pos h5]
    exact kret _ _ _ _ _ _ (by omega) (by omega) dL_act_322 rfl (by rw [ha]; exact hp)

set_option maxHeartbeats 8000000 in
set_option maxRecDepth 100000 in
theorem ac_39 {E : kE} {a cap : Nat → Nat} {h0 : kH} {dt : kM} {nF nC nE w X pn : Nat} {fn : Nat → Int32} {X9 : kX} (hg : dgeo E a cap nF nC nE h0) (hd : dwf dt nF nC nE w) (hX : X < 2 ^ 31) (hpn : h0 pn = some (.inl (kI E, 3, .inl fn))) (hn_0 : fn 0 = nI nF) (hn_1 : fn 1 = nI nC) (hn_2 : fn 2 = nI nE) (kret : ∀ (k n : Nat) (h' : kH) (lo : List (Nat × Value)) (pc : Nat) (r : Int32), k ≤ 12 → n ≤ 500 → decode cL_act pc = .ok (.ireturn, 1) → narrow .int (.int r) = .int r → OPost E a h0 (dw E a cap nF nC nE dt h0) (aRes dt nF nC nE w X) r h' → V E X9 rmL_act cL_act 5 wsL_act RL k n h' lo pc [.int r]) : V E X9 rmL_act cL_act 5 wsL_act RL 0 0 (dw E a cap nF nC nE dt h0) [(0, .ref (a 15)), (1, .ref pn), (2, .int (nI X)), (3, .int (nI (X / 20))), (4, .int (nI (ownA nF (X / 20))))] 39 [] := by
  refine r_iload_n dL_act_39 2 rfl ?_
  refine r_bipush (v := nI 20) dL_act_40 (by decide) ?_
  refine r_irem dL_act_42 (by decide) ?_
  rw [nI_mod (a := X) (b := 20) (by omega) (by omega) (by omega)]
  have h20 : X % 20 < 20 := Nat.mod_lt _ (by omega)
  generalize hc : X % 20 = c at h20
  match c, h20 with
  | 0, _ =>
    refine r_tableIn (tgt := 112) (off := 69) dL_act_43 (by decide) (by decide) (by decide) (by decide) ?_
    exact ac_k0 hg hd hX hpn hn_0 hn_1 hn_2 kret (Or.inl hc)
  | 1, _ =>
    refine r_tableIn (tgt := 112) (off := 69) dL_act_43 (by decide) (by decide) (by decide) (by decide) ?_
    exact ac_k0 hg hd hX hpn hn_0 hn_1 hn_2 kret (Or.inr hc)
  | 2, _ =>
    refine r_tableIn (tgt := 128) (off := 85) dL_act_43 (by decide) (by decide) (by decide) (by decide) ?_
    exact ac_k2 hg hd hX hpn hn_0 hn_1 hn_2 kret hc
  | 3, _ =>
    refine r_tableIn (tgt := 135) (off := 92) dL_act_43 (by decide) (by decide) (by decide) (by decide) ?_
    exact ac_k3 hg hd hX hpn hn_0 hn_1 hn_2 kret hc
  | 4, _ =>
    refine r_tableIn (tgt := 155) (off := 112) dL_act_43 (by decide) (by decide) (by decide) (by decide) ?_
    exact ac_k4 hg hd hX hpn hn_0 hn_1 hn_2 kret hc
  | 5, _ =>
    refine r_tableIn (tgt := 173) (off := 130) dL_act_43 (by decide) (by decide) (by decide) (by decide) ?_
    exact ac_k5 hg hd hX hpn hn_0 hn_1 hn_2 kret hc
  | 6, _ =>
    refine r_tableIn (tgt := 182) (off := 139) dL_act_43 (by decide) (by decide) (by decide) (by decide) ?_
    exact ac_k6 hg hd hX hpn hn_0 hn_1 hn_2 kret hc
  | 7, _ =>
    refine r_tableIn (tgt := 198) (off := 155) dL_act_43 (by decide) (by decide) (by decide) (by decide) ?_
    exact ac_k7 hg hd hX hpn hn_0 hn_1 hn_2 kret hc
  | 8, _ =>
    refine r_tableIn (tgt := 214) (off := 171) dL_act_43 (by decide) (by decide) (by decide) (by decide) ?_
    exact ac_k8 hg hd hX hpn hn_0 hn_1 hn_2 kret hc
  | 9, _ =>
    refine r_tableIn (tgt := 230) (off := 187) dL_act_43 (by decide) (by decide) (by decide) (by decide) ?_
    exact ac_k9 hg hd hX hpn hn_0 hn_1 hn_2 kret (Or.inl hc)
  | 10, _ =>
    refine r_tableIn (tgt := 230) (off := 187) dL_act_43 (by decide) (by decide) (by decide) (by decide) ?_
    exact ac_k9 hg hd hX hpn hn_0 hn_1 hn_2 kret (Or.inr (Or.inl hc))
  | 11, _ =>
    refine r_tableIn (tgt := 230) (off := 187) dL_act_43 (by decide) (by decide) (by decide) (by decide) ?_
    exact ac_k9 hg hd hX hpn hn_0 hn_1 hn_2 kret (Or.inr (Or.inr hc))
  | 12, _ =>
    refine r_tableIn (tgt := 252) (off := 209) dL_act_43 (by decide) (by decide) (by decide) (by decide) ?_
    exact ac_k12 hg hd hX hpn hn_0 hn_1 hn_2 kret hc
  | 13, _ =>
    refine r_tableIn (tgt := 272) (off := 229) dL_act_43 (by decide) (by decide) (by decide) (by decide) ?_
    exact ac_k13 hg hd hX hpn hn_0 hn_1 hn_2 kret hc
  | 14, _ =>
    refine r_tableOut (tgt := 301) dL_act_43 (by decide) (by decide) ?_
    exact ac_kd hg hd hX hpn hn_0 hn_1 hn_2 kret (Or.inl hc)
  | 15, _ =>
    refine r_tableOut (tgt := 301) dL_act_43 (by decide) (by decide) ?_
    exact ac_kd hg hd hX hpn hn_0 hn_1 hn_2 kret (Or.inr (Or.inl hc))
  | 16, _ =>
    refine r_tableOut (tgt := 301) dL_act_43 (by decide) (by decide) ?_
    exact ac_kd hg hd hX hpn hn_0 hn_1 hn_2 kret (Or.inr (Or.inr (Or.inl hc)))
  | 17, _ =>
    refine r_tableOut (tgt := 301) dL_act_43 (by decide) (by decide) ?_
    exact ac_kd hg hd hX hpn hn_0 hn_1 hn_2 kret (Or.inr (Or.inr (Or.inr (Or.inl hc))))
  | 18, _ =>
    refine r_tableOut (tgt := 301) dL_act_43 (by decide) (by decide) ?_
    exact ac_kd hg hd hX hpn hn_0 hn_1 hn_2 kret (Or.inr (Or.inr (Or.inr (Or.inr (Or.inl hc)))))
  | 19, _ =>
    refine r_tableOut (tgt := 301) dL_act_43 (by decide) (by decide) ?_
    exact ac_kd hg hd hX hpn hn_0 hn_1 hn_2 kret (Or.inr (Or.inr (Or.inr (Or.inr (Or.inr hc)))))
  | (c + 20), h => exact absurd h (by omega)

set_option maxHeartbeats 8000000 in
set_option maxRecDepth 100000 in
theorem ac_0 {E : kE} {a cap : Nat → Nat} {h0 : kH} {dt : kM} {nF nC nE w X pn : Nat} {fn : Nat → Int32} {X9 : kX} (hg : dgeo E a cap nF nC nE h0) (hd : dwf dt nF nC nE w) (hX : X < 2 ^ 31) (hpn : h0 pn = some (.inl (kI E, 3, .inl fn))) (hn_0 : fn 0 = nI nF) (hn_1 : fn 1 = nI nC) (hn_2 : fn 2 = nI nE) (kret : ∀ (k n : Nat) (h' : kH) (lo : List (Nat × Value)) (pc : Nat) (r : Int32), k ≤ 12 → n ≤ 500 → decode cL_act pc = .ok (.ireturn, 1) → narrow .int (.int r) = .int r → OPost E a h0 (dw E a cap nF nC nE dt h0) (aRes dt nF nC nE w X) r h' → V E X9 rmL_act cL_act 5 wsL_act RL k n h' lo pc [.int r]) : V E X9 rmL_act cL_act 5 wsL_act RL 0 0 (dw E a cap nF nC nE dt h0) [(0, .ref (a 15)), (1, .ref pn), (2, .int (nI X))] 0 [] := by
  obtain ⟨hF, hF20, hC, hC6, hE, hE80, hW, hW3, hpl, hof, hsp⟩ := id hd
  refine r_iload_n dL_act_0 2 rfl ?_
  refine r_bipush (v := nI 20) dL_act_1 (by decide) ?_
  refine r_idiv dL_act_3 (by decide) ?_
  rw [nI_div (a := X) (b := 20) (by omega) (by omega) (by omega)]
  refine r_istore_n (lo' := [(3, .int (nI (X / 20))), (0, .ref (a 15)), (1, .ref pn), (2, .int (nI X))]) dL_act_4 (by decide) rfl ?_
  refine r_aload_n dL_act_5 2 rfl ?_
  refine r_iconst (v := nI 0) dL_act_6 (by decide) ?_
  refine r_iald dL_act_7 (dw_at hg hpn) (vp_in_nI (by decide) (by decide)) ?_
  rw [show fn (nI 0).toNatClampNeg = nI nF from hn_0]
  refine r_if_ne (tgt := 15) dL_act_8 (by decide) (fun c6 => ?_) (fun c6 => ?_)
  · skip
    have hn0 : 0 < nF := Nat.pos_of_ne_zero (fun z => c6 (by rw [z]; rfl))
    refine r_aload_n dL_act_15 2 rfl ?_
    refine r_iconst (v := nI 0) dL_act_16 (by decide) ?_
    refine r_iald dL_act_17 (dw_at hg hpn) (vp_in_nI (by decide) (by decide)) ?_
    rw [show fn (nI 0).toNatClampNeg = nI nF from hn_0]
    refine r_iconst (v := nI 1) dL_act_18 (by decide) ?_
    refine r_isub dL_act_19 ?_
    rw [nI_sub (a := nF) (b := 1) (show 1 ≤ nF from hn0) (by omega)]
    refine r_iload_n dL_act_20 0 rfl ?_
    refine r_aload_n dL_act_21 2 rfl ?_
    refine r_iconst (v := nI 0) dL_act_22 (by decide) ?_
    refine r_iald dL_act_23 (dw_at hg hpn) (vp_in_nI (by decide) (by decide)) ?_
    rw [show fn (nI 0).toNatClampNeg = nI nF from hn_0]
    refine r_iconst (v := nI 4) dL_act_24 (by decide) ?_
    refine r_icmp_le (tgt := 32) dL_act_25 (by decide) (fun c7 => ?_) (fun c7 => ?_)
    · skip
      have h4 : ¬ 4 < nF := fun z => c7 (by rw [nI_ltI (by omega) (by omega)]; exact z)
      refine r_aload_n dL_act_32 2 rfl ?_
      refine r_iconst (v := nI 0) dL_act_33 (by decide) ?_
      refine r_iald dL_act_34 (dw_at hg hpn) (vp_in_nI (by decide) (by decide)) ?_
      rw [show fn (nI 0).toNatClampNeg = nI nF from hn_0]
      refine r_irem dL_act_35 (nI_ne0 hn0 (by omega)) ?_
      rw [nI_mod (a := X / 20) (b := nF) (by omega) hn0 (by omega)]
      refine r_isub dL_act_36 ?_
      rw [nI_sub (a := nF - 1) (b := (X / 20) % nF) (by have := Nat.mod_lt (X / 20) hn0; omega) (by omega)]
      refine r_istore (lo' := [(4, .int (nI (nF - 1 - ((X / 20) % nF)))), (3, .int (nI (X / 20))), (0, .ref (a 15)), (1, .ref pn), (2, .int (nI X))]) dL_act_37 (by decide) rfl ?_
      rw [show nI (nF - 1 - ((X / 20) % nF)) = nI (ownA nF (X / 20)) from by unfold ownA; rw [if_neg (by omega), if_neg h4]]
      refine r_lo (lo' := [(0, .ref (a 15)), (1, .ref pn), (2, .int (nI X)), (3, .int (nI (X / 20))), (4, .int (nI (ownA nF (X / 20))))]) [2, 3, 4, 1, 0] rfl ?_
      exact ac_39 hg hd hX hpn hn_0 hn_1 hn_2 kret
    · skip
      have h4 : 4 < nF := (nI_ltI (by omega) (by omega)).mp c7
      refine r_iconst (v := nI 4) dL_act_28 (by decide) ?_
      refine r_goto (tgt := 35) dL_act_29 (by decide) ?_
      refine r_irem dL_act_35 (by decide) ?_
      rw [nI_mod (a := X / 20) (b := 4) (by omega) (by omega) (by omega)]
      refine r_isub dL_act_36 ?_
      rw [nI_sub (a := nF - 1) (b := (X / 20) % 4) (by omega) (by omega)]
      refine r_istore (lo' := [(4, .int (nI (nF - 1 - ((X / 20) % 4)))), (3, .int (nI (X / 20))), (0, .ref (a 15)), (1, .ref pn), (2, .int (nI X))]) dL_act_37 (by decide) rfl ?_
      rw [show nI (nF - 1 - ((X / 20) % 4)) = nI (ownA nF (X / 20)) from by unfold ownA; rw [if_neg (by omega), if_pos h4]]
      refine r_lo (lo' := [(0, .ref (a 15)), (1, .ref pn), (2, .int (nI X)), (3, .int (nI (X / 20))), (4, .int (nI (ownA nF (X / 20))))]) [2, 3, 4, 1, 0] rfl ?_
      exact ac_39 hg hd hX hpn hn_0 hn_1 hn_2 kret
  · skip
    have hz : nF = 0 := (nIz (by omega)).mp c6
    refine r_iconst (v := nI 0) dL_act_11 (by decide) ?_
    refine r_goto (tgt := 37) dL_act_12 (by decide) ?_
    refine r_istore (lo' := [(4, .int (nI 0)), (3, .int (nI (X / 20))), (0, .ref (a 15)), (1, .ref pn), (2, .int (nI X))]) dL_act_37 (by decide) rfl ?_
    rw [show nI 0 = nI (ownA nF (X / 20)) from by unfold ownA; rw [if_pos hz]]
    refine r_lo (lo' := [(0, .ref (a 15)), (1, .ref pn), (2, .int (nI X)), (3, .int (nI (X / 20))), (4, .int (nI (ownA nF (X / 20))))]) [2, 3, 4, 1, 0] rfl ?_
    exact ac_39 hg hd hX hpn hn_0 hn_1 hn_2 kret
set_option maxHeartbeats 4000000 in
set_option maxRecDepth 100000 in
theorem tK_act {E : kE} {a cap : Nat → Nat} {h0 : kH} {dt : kM} {nF nC nE w X pn : Nat} {fn : Nat → Int32} (hg : dgeo E a cap nF nC nE h0) (hd : dwf dt nF nC nE w) (hX : X < 2 ^ 31) (hpn : h0 pn = some (.inl (kI E, 3, .inl fn))) (hn_0 : fn 0 = nI nF) (hn_1 : fn 1 = nI nC) (hn_2 : fn 2 = nI nE) : kCi E yL_act wsL_act rmL_act 12 500 [.ref (a 15), .ref pn, .int (nI X)] (dw E a cap nF nC nE dt h0) (OPost E a h0 (dw E a cap nF nC nE dt h0) (aRes dt nF nC nE w X)) := by
  refine kCi_of (rt := .int) (own := RL) (cc := cL_act) (maxL := 5) (by decide) rfl rfl (Nat.le_of_ble_eq_true rfl) ?_
  intro X9 hini kret
  refine r_lo (lo' := [(0, .ref (a 15)), (1, .ref pn), (2, .int (nI X))]) [0, 1, 2] rfl ?_
  exact ac_0 hg hd hX hpn hn_0 hn_1 hn_2 kret
