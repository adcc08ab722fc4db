/-! isAlike: both desks answer alike -/
abbrev rmL_isAlike : Room := { frames := 9, cells := 60, slots := 360, locals := 157 }
set_option maxHeartbeats 8000000 in
set_option maxRecDepth 100000 in
theorem al_53 {E : kE} {H : kH} {dt : kM} {nF nC nE w X pn q1 q2 : Nat} {fn : Nat → Int32} {X9 : kX} (D1 : Dk E q1 dt nF nC nE w H) (D2 : Dk E q2 dt nF nC nE w H) (hX : X < 2 ^ 31) (hH : H pn = some (.inl (kI E, 3, .inl fn))) (hn_0 : fn 0 = nI nF) (hn_1 : fn 1 = nI nC) (kret : ∀ (k n : Nat) (h' : kH) (lo : List (Nat × Value)) (pc : Nat) (r : Int32), k ≤ 60 → n ≤ 360 → decode cL_isAlike pc = .ok (.ireturn, 1) → narrow .boolean (.int r) = .int r → (r = 1 ∧ h' = H) → V E X9 rmL_isAlike cL_isAlike 9 wsL_isAlike RL k n h' lo pc [.int r]) (o4 o5 o6 : Int32) : V E X9 rmL_isAlike cL_isAlike 9 wsL_isAlike RL 0 0 H [(0, .ref q1), (1, .ref q2), (2, .ref pn), (3, .int (nI X)), (4, .int o4), (5, .int o5), (6, .int o6)] 53 [] := by
  obtain ⟨hF, hF20, hC, hC6, hE, hE80, hW, hW3, hpl, hof, hsp⟩ := id D1.wf
  obtain ⟨fs1, hf1⟩ := D1.at
  obtain ⟨fs2, hf2⟩ := D2.at
  refine r_aload_n dL_isAlike_53 0 rfl ?_
  refine r_callVi (nn := 0) (As := []) (st := []) dL_isAlike_54 (tR_frame D1) gL_isAlike_X3_frame rfl (by decide +kernel) ⟨Nat.le_of_ble_eq_true rfl, Nat.le_of_ble_eq_true rfl⟩ ⟨rfl, rfl⟩ hf1 rfl rfl (Nat.le_of_ble_eq_true rfl) ⟨by show _ ≤ 60; omega, by show _ ≤ 360; omega⟩ rfl (fun r hh hp => ?_)
  obtain ⟨hr, hhe⟩ := hp
  rw [hhe, hr]
  refine r_aload_n dL_isAlike_57 1 rfl ?_
  refine r_callVi (nn := 0) (As := []) (st := [.int (nI w)]) dL_isAlike_58 (tR_frame D2) gL_isAlike_X3_frame rfl (by decide +kernel) ⟨Nat.le_of_ble_eq_true rfl, Nat.le_of_ble_eq_true rfl⟩ ⟨rfl, rfl⟩ hf2 rfl rfl (Nat.le_of_ble_eq_true rfl) ⟨by show _ ≤ 60; omega, by show _ ≤ 360; omega⟩ rfl (fun r hh hp => ?_)
  obtain ⟨hr, hhe⟩ := hp
  rw [hhe, hr]
  refine r_icmp_ne (tgt := 194) dL_isAlike_61 (by decide) (fun c9 => absurd rfl c9) (fun _ => ?_)
  refine r_aload_n dL_isAlike_64 0 rfl ?_
  refine r_callVi (nn := 0) (As := []) (st := []) dL_isAlike_65 (tR_seen D1) gL_isAlike_X3_seen rfl (by decide +kernel) ⟨Nat.le_of_ble_eq_true rfl, Nat.le_of_ble_eq_true rfl⟩ ⟨rfl, rfl⟩ hf1 rfl rfl (Nat.le_of_ble_eq_true rfl) ⟨by show _ ≤ 60; omega, by show _ ≤ 360; omega⟩ rfl (fun r hh hp => ?_)
  obtain ⟨hr, hhe⟩ := hp
  rw [hhe, hr]
  refine r_aload_n dL_isAlike_68 1 rfl ?_
  refine r_callVi (nn := 0) (As := []) (st := [.int (dt 3 0)]) dL_isAlike_69 (tR_seen D2) gL_isAlike_X3_seen rfl (by decide +kernel) ⟨Nat.le_of_ble_eq_true rfl, Nat.le_of_ble_eq_true rfl⟩ ⟨rfl, rfl⟩ hf2 rfl rfl (Nat.le_of_ble_eq_true rfl) ⟨by show _ ≤ 60; omega, by show _ ≤ 360; omega⟩ rfl (fun r hh hp => ?_)
  obtain ⟨hr, hhe⟩ := hp
  rw [hhe, hr]
  refine r_icmp_ne (tgt := 194) dL_isAlike_72 (by decide) (fun c9 => absurd rfl c9) (fun _ => ?_)
  refine r_aload_n dL_isAlike_75 0 rfl ?_
  refine r_iload_n dL_isAlike_76 3 rfl ?_
  refine r_bipush (v := nI 6) dL_isAlike_77 (by decide) ?_
  refine r_irem dL_isAlike_79 (by decide) ?_
  rw [nI_mod (a := X) (b := 6) (by omega) (by omega) (by omega)]
  refine r_callXSH (nn := 2) (As := [.ref q1, .int (nI (X % 6))]) (st := []) dL_isAlike_80 (tR_counted D1 (nI (X % 6))) gL_isAlike_L_counted rfl (by decide +kernel) ⟨Nat.le_of_ble_eq_true rfl, Nat.le_of_ble_eq_true rfl⟩ ⟨rfl, rfl⟩ rfl (Nat.le_of_ble_eq_true rfl) ⟨by show _ ≤ 60; omega, by show _ ≤ 360; omega⟩ rfl (fun Ec hh hp => hp.elim) (fun r hh hp => ?_)
  obtain ⟨hr, hhe⟩ := hp
  rw [hhe, hr]
  refine r_aload_n dL_isAlike_83 1 rfl ?_
  refine r_iload_n dL_isAlike_84 3 rfl ?_
  refine r_bipush (v := nI 6) dL_isAlike_85 (by decide) ?_
  refine r_irem dL_isAlike_87 (by decide) ?_
  rw [nI_mod (a := X) (b := 6) (by omega) (by omega) (by omega)]
  refine r_callXSH (nn := 2) (As := [.ref q2, .int (nI (X % 6))]) (st := [.int (vCounted dt nF nC nE w (nI (X % 6)))]) dL_isAlike_88 (tR_counted D2 (nI (X % 6))) gL_isAlike_L_counted rfl (by decide +kernel) ⟨Nat.le_of_ble_eq_true rfl, Nat.le_of_ble_eq_true rfl⟩ ⟨rfl, rfl⟩ rfl (Nat.le_of_ble_eq_true rfl) ⟨by show _ ≤ 60; omega, by show _ ≤ 360; omega⟩ rfl (fun Ec hh hp => hp.elim) (fun r hh hp => ?_)
  obtain ⟨hr, hhe⟩ := hp
  rw [hhe, hr]
  refine r_icmp_ne (tgt := 194) dL_isAlike_91 (by decide) (fun c9 => absurd rfl c9) (fun _ => ?_)
  refine r_aload_n dL_isAlike_94 0 rfl ?_
  refine r_iload_n dL_isAlike_95 3 rfl ?_
  refine r_bipush (v := nI 6) dL_isAlike_96 (by decide) ?_
  refine r_irem dL_isAlike_98 (by decide) ?_
  rw [nI_mod (a := X) (b := 6) (by omega) (by omega) (by omega)]
  refine r_callXSH (nn := 2) (As := [.ref q1, .int (nI (X % 6))]) (st := []) dL_isAlike_99 (tR_owed D1 (nI (X % 6))) gL_isAlike_L_owed rfl (by decide +kernel) ⟨Nat.le_of_ble_eq_true rfl, Nat.le_of_ble_eq_true rfl⟩ ⟨rfl, rfl⟩ rfl (Nat.le_of_ble_eq_true rfl) ⟨by show _ ≤ 60; omega, by show _ ≤ 360; omega⟩ rfl (fun Ec hh hp => hp.elim) (fun r hh hp => ?_)
  obtain ⟨hr, hhe⟩ := hp
  rw [hhe, hr]
  refine r_aload_n dL_isAlike_102 1 rfl ?_
  refine r_iload_n dL_isAlike_103 3 rfl ?_
  refine r_bipush (v := nI 6) dL_isAlike_104 (by decide) ?_
  refine r_irem dL_isAlike_106 (by decide) ?_
  rw [nI_mod (a := X) (b := 6) (by omega) (by omega) (by omega)]
  refine r_callXSH (nn := 2) (As := [.ref q2, .int (nI (X % 6))]) (st := [.int (vOwed dt nF nC nE w (nI (X % 6)))]) dL_isAlike_107 (tR_owed D2 (nI (X % 6))) gL_isAlike_L_owed rfl (by decide +kernel) ⟨Nat.le_of_ble_eq_true rfl, Nat.le_of_ble_eq_true rfl⟩ ⟨rfl, rfl⟩ rfl (Nat.le_of_ble_eq_true rfl) ⟨by show _ ≤ 60; omega, by show _ ≤ 360; omega⟩ rfl (fun Ec hh hp => hp.elim) (fun r hh hp => ?_)
  obtain ⟨hr, hhe⟩ := hp
  rw [hhe, hr]
  refine r_icmp_ne (tgt := 194) dL_isAlike_110 (by decide) (fun c9 => absurd rfl c9) (fun _ => ?_)
  refine r_aload_n dL_isAlike_113 0 rfl ?_
  refine r_iload_n dL_isAlike_114 3 rfl ?_
  refine r_bipush (v := nI 10) dL_isAlike_115 (by decide) ?_
  refine r_irem dL_isAlike_117 (by decide) ?_
  rw [nI_mod (a := X) (b := 10) (by omega) (by omega) (by omega)]
  refine r_callXSH (nn := 2) (As := [.ref q1, .int (nI (X % 10))]) (st := []) dL_isAlike_118 (tR_leader D1 (nI (X % 10))) gL_isAlike_L_leader rfl (by decide +kernel) ⟨Nat.le_of_ble_eq_true rfl, Nat.le_of_ble_eq_true rfl⟩ ⟨rfl, rfl⟩ rfl (Nat.le_of_ble_eq_true rfl) ⟨by show _ ≤ 60; omega, by show _ ≤ 360; omega⟩ rfl (fun Ec hh hp => hp.elim) (fun rl1 hh hp => ?_)
  obtain ⟨hl1, hhe⟩ := hp
  rw [hhe]
  refine r_aload_n dL_isAlike_121 1 rfl ?_
  refine r_iload_n dL_isAlike_122 3 rfl ?_
  refine r_bipush (v := nI 10) dL_isAlike_123 (by decide) ?_
  refine r_irem dL_isAlike_125 (by decide) ?_
  rw [nI_mod (a := X) (b := 10) (by omega) (by omega) (by omega)]
  refine r_callXSH (nn := 2) (As := [.ref q2, .int (nI (X % 10))]) (st := [.int rl1]) dL_isAlike_126 (tR_leader D2 (nI (X % 10))) gL_isAlike_L_leader rfl (by decide +kernel) ⟨Nat.le_of_ble_eq_true rfl, Nat.le_of_ble_eq_true rfl⟩ ⟨rfl, rfl⟩ rfl (Nat.le_of_ble_eq_true rfl) ⟨by show _ ≤ 60; omega, by show _ ≤ 360; omega⟩ rfl (fun Ec hh hp => hp.elim) (fun rl2 hh hp => ?_)
  obtain ⟨hl2, hhe⟩ := hp
  rw [hhe]
  refine r_icmp_ne (tgt := 194) dL_isAlike_129 (by decide) (fun c9 => absurd (PLea_uniq hl1 hl2) c9) (fun _ => ?_)
  refine r_aload_n dL_isAlike_132 0 rfl ?_
  refine r_iload dL_isAlike_133 4 rfl ?_
  refine r_iload_n dL_isAlike_135 3 rfl ?_
  refine r_bipush (v := nI 7) dL_isAlike_136 (by decide) ?_
  refine r_idiv dL_isAlike_138 (by decide) ?_
  rw [nI_div (a := X) (b := 7) (by omega) (by omega) (by omega)]
  refine r_bipush (v := nI 6) dL_isAlike_139 (by decide) ?_
  refine r_irem dL_isAlike_141 (by decide) ?_
  rw [nI_mod (a := X / 7) (b := 6) (by omega) (by omega) (by omega)]
  refine r_callXSH (nn := 3) (As := [.ref q1, .int o4, .int (nI ((X / 7) % 6))]) (st := []) dL_isAlike_142 (tR_points D1 o4 (nI ((X / 7) % 6))) gL_isAlike_L_points rfl (by decide +kernel) ⟨Nat.le_of_ble_eq_true rfl, Nat.le_of_ble_eq_true rfl⟩ ⟨rfl, rfl⟩ rfl (Nat.le_of_ble_eq_true rfl) ⟨by show _ ≤ 60; omega, by show _ ≤ 360; omega⟩ rfl (fun Ec hh hp => hp.elim) (fun r hh hp => ?_)
  obtain ⟨hr, hhe⟩ := hp
  rw [hhe, hr]
  refine r_aload_n dL_isAlike_145 1 rfl ?_
  refine r_iload dL_isAlike_146 4 rfl ?_
  refine r_iload_n dL_isAlike_148 3 rfl ?_
  refine r_bipush (v := nI 7) dL_isAlike_149 (by decide) ?_
  refine r_idiv dL_isAlike_151 (by decide) ?_
  rw [nI_div (a := X) (b := 7) (by omega) (by omega) (by omega)]
  refine r_bipush (v := nI 6) dL_isAlike_152 (by decide) ?_
  refine r_irem dL_isAlike_154 (by decide) ?_
  rw [nI_mod (a := X / 7) (b := 6) (by omega) (by omega) (by omega)]
  refine r_callXSH (nn := 3) (As := [.ref q2, .int o4, .int (nI ((X / 7) % 6))]) (st := [.int (vPoints dt nF nC nE w o4 (nI ((X / 7) % 6)))]) dL_isAlike_155 (tR_points D2 o4 (nI ((X / 7) % 6))) gL_isAlike_L_points rfl (by decide +kernel) ⟨Nat.le_of_ble_eq_true rfl, Nat.le_of_ble_eq_true rfl⟩ ⟨rfl, rfl⟩ rfl (Nat.le_of_ble_eq_true rfl) ⟨by show _ ≤ 60; omega, by show _ ≤ 360; omega⟩ rfl (fun Ec hh hp => hp.elim) (fun r hh hp => ?_)
  obtain ⟨hr, hhe⟩ := hp
  rw [hhe, hr]
  refine r_icmp_ne (tgt := 194) dL_isAlike_158 (by decide) (fun c9 => absurd rfl c9) (fun _ => ?_)
  refine r_aload_n dL_isAlike_161 0 rfl ?_
  refine r_iload dL_isAlike_162 4 rfl ?_
  refine r_iload_n dL_isAlike_164 3 rfl ?_
  refine r_bipush (v := nI 7) dL_isAlike_165 (by decide) ?_
  refine r_idiv dL_isAlike_167 (by decide) ?_
  rw [nI_div (a := X) (b := 7) (by omega) (by omega) (by omega)]
  refine r_bipush (v := nI 6) dL_isAlike_168 (by decide) ?_
  refine r_irem dL_isAlike_170 (by decide) ?_
  rw [nI_mod (a := X / 7) (b := 6) (by omega) (by omega) (by omega)]
  refine r_callXSH (nn := 3) (As := [.ref q1, .int o4, .int (nI ((X / 7) % 6))]) (st := []) dL_isAlike_171 (tR_overlay D1 o4 (nI ((X / 7) % 6))) gL_isAlike_L_overlay rfl (by decide +kernel) ⟨Nat.le_of_ble_eq_true rfl, Nat.le_of_ble_eq_true rfl⟩ ⟨rfl, rfl⟩ rfl (Nat.le_of_ble_eq_true rfl) ⟨by show _ ≤ 60; omega, by show _ ≤ 360; omega⟩ rfl (fun Ec hh hp => hp.elim) (fun r hh hp => ?_)
  obtain ⟨hr, hhe⟩ := hp
  rw [hhe, hr]
  refine r_aload_n dL_isAlike_174 1 rfl ?_
  refine r_iload dL_isAlike_175 4 rfl ?_
  refine r_iload_n dL_isAlike_177 3 rfl ?_
  refine r_bipush (v := nI 7) dL_isAlike_178 (by decide) ?_
  refine r_idiv dL_isAlike_180 (by decide) ?_
  rw [nI_div (a := X) (b := 7) (by omega) (by omega) (by omega)]
  refine r_bipush (v := nI 6) dL_isAlike_181 (by decide) ?_
  refine r_irem dL_isAlike_183 (by decide) ?_
  rw [nI_mod (a := X / 7) (b := 6) (by omega) (by omega) (by omega)]
  refine r_callXSH (nn := 3) (As := [.ref q2, .int o4, .int (nI ((X / 7) % 6))]) (st := [.int (vOverlay dt nF nC nE w o4 (nI ((X / 7) % 6)))]) dL_isAlike_184 (tR_overlay D2 o4 (nI ((X / 7) % 6))) gL_isAlike_L_overlay rfl (by decide +kernel) ⟨Nat.le_of_ble_eq_true rfl, Nat.le_of_ble_eq_true rfl⟩ ⟨rfl, rfl⟩ rfl (Nat.le_of_ble_eq_true rfl) ⟨by show _ ≤ 60; omega, by show _ ≤ 360; omega⟩ rfl (fun Ec hh hp => hp.elim) (fun r hh hp => ?_)
  obtain ⟨hr, hhe⟩ := hp
  rw [hhe, hr]
  refine r_icmp_ne (tgt := 194) dL_isAlike_187 (by decide) (fun c9 => absurd rfl c9) (fun _ => ?_)
  refine r_iconst (v := nI 1) dL_isAlike_190 (by decide) ?_
  refine r_goto (tgt := 195) dL_isAlike_191 (by decide) ?_
  refine r_istore (lo' := [(7, .int (nI 1)), (0, .ref q1), (1, .ref q2), (2, .ref pn), (3, .int (nI X)), (4, .int o4), (5, .int o5), (6, .int o6)]) dL_isAlike_195 (by decide) rfl ?_
  refine r_iconst (v := nI 0) dL_isAlike_197 (by decide) ?_
  refine r_istore (lo' := [(8, .int (nI 0)), (7, .int (nI 1)), (0, .ref q1), (1, .ref q2), (2, .ref pn), (3, .int (nI X)), (4, .int o4), (5, .int o5), (6, .int o6)]) dL_isAlike_198 (by decide) rfl ?_
  refine r_iload dL_isAlike_200 0 rfl ?_
  refine r_iconst (v := nI 5) dL_isAlike_202 (by decide) ?_
  refine r_icmp_ge (tgt := 281) dL_isAlike_203 (by decide) (fun c9 => absurd c9 (by decide)) (fun _ => ?_)
  refine r_iload dL_isAlike_206 1 rfl ?_
  refine r_if_eq (tgt := 281) dL_isAlike_208 (by decide) (fun c9 => absurd c9 (by decide)) (fun _ => ?_)
  refine r_aload_n dL_isAlike_211 2 rfl ?_
  refine r_iload dL_isAlike_212 6 rfl ?_
  refine r_iload dL_isAlike_214 0 rfl ?_
  refine r_callXSH (nn := 3) (As := [.ref q1, .int o4, .int (nI 0)]) (st := []) dL_isAlike_216 (tR_fightOf D1 o4 (nI 0)) gL_isAlike_L_fightOf rfl (by decide +kernel) ⟨Nat.le_of_ble_eq_true rfl, Nat.le_of_ble_eq_true rfl⟩ ⟨rfl, rfl⟩ rfl (Nat.le_of_ble_eq_true rfl) ⟨by show _ ≤ 60; omega, by show _ ≤ 360; omega⟩ rfl (fun Ec hh hp => hp.elim) (fun r hh hp => ?_)
  obtain ⟨hr, hhe⟩ := hp
  rw [hhe, hr]
  refine r_aload_n dL_isAlike_219 3 rfl ?_
  refine r_iload dL_isAlike_220 6 rfl ?_
  refine r_iload dL_isAlike_222 0 rfl ?_
  refine r_callXSH (nn := 3) (As := [.ref q2, .int o4, .int (nI 0)]) (st := [.int (vFightOf dt nF nC nE w o4 (nI 0))]) dL_isAlike_224 (tR_fightOf D2 o4 (nI 0)) gL_isAlike_L_fightOf rfl (by decide +kernel) ⟨Nat.le_of_ble_eq_true rfl, Nat.le_of_ble_eq_true rfl⟩ ⟨rfl, rfl⟩ rfl (Nat.le_of_ble_eq_true rfl) ⟨by show _ ≤ 60; omega, by show _ ≤ 360; omega⟩ rfl (fun Ec hh hp => hp.elim) (fun r hh hp => ?_)
  obtain ⟨hr, hhe⟩ := hp
  rw [hhe, hr]
  refine r_icmp_ne (tgt := 272) dL_isAlike_227 (by decide) (fun c9 => absurd rfl c9) (fun _ => ?_)
  refine r_aload_n dL_isAlike_230 2 rfl ?_
  refine r_iload dL_isAlike_231 7 rfl ?_
  refine r_iload dL_isAlike_233 0 rfl ?_
  refine r_callXSH (nn := 3) (As := [.ref q1, .int o5, .int (nI 0)]) (st := []) dL_isAlike_235 (tR_cameraOf D1 o5 (nI 0)) gL_isAlike_L_cameraOf rfl (by decide +kernel) ⟨Nat.le_of_ble_eq_true rfl, Nat.le_of_ble_eq_true rfl⟩ ⟨rfl, rfl⟩ rfl (Nat.le_of_ble_eq_true rfl) ⟨by show _ ≤ 60; omega, by show _ ≤ 360; omega⟩ rfl (fun Ec hh hp => hp.elim) (fun r hh hp => ?_)
  obtain ⟨hr, hhe⟩ := hp
  rw [hhe, hr]
  refine r_aload_n dL_isAlike_238 3 rfl ?_
  refine r_iload dL_isAlike_239 7 rfl ?_
  refine r_iload dL_isAlike_241 0 rfl ?_
  refine r_callXSH (nn := 3) (As := [.ref q2, .int o5, .int (nI 0)]) (st := [.int (vCameraOf dt nF nC nE w o5 (nI 0))]) dL_isAlike_243 (tR_cameraOf D2 o5 (nI 0)) gL_isAlike_L_cameraOf rfl (by decide +kernel) ⟨Nat.le_of_ble_eq_true rfl, Nat.le_of_ble_eq_true rfl⟩ ⟨rfl, rfl⟩ rfl (Nat.le_of_ble_eq_true rfl) ⟨by show _ ≤ 60; omega, by show _ ≤ 360; omega⟩ rfl (fun Ec hh hp => hp.elim) (fun r hh hp => ?_)
  obtain ⟨hr, hhe⟩ := hp
  rw [hhe, hr]
  refine r_icmp_ne (tgt := 272) dL_isAlike_246 (by decide) (fun c9 => absurd rfl c9) (fun _ => ?_)
  refine r_aload_n dL_isAlike_249 2 rfl ?_
  refine r_iload dL_isAlike_250 8 rfl ?_
  refine r_iload dL_isAlike_252 0 rfl ?_
  refine r_callXSH (nn := 3) (As := [.ref q1, .int o6, .int (nI 0)]) (st := []) dL_isAlike_254 (tR_shown D1 o6 (nI 0)) gL_isAlike_L_shown rfl (by decide +kernel) ⟨Nat.le_of_ble_eq_true rfl, Nat.le_of_ble_eq_true rfl⟩ ⟨rfl, rfl⟩ rfl (Nat.le_of_ble_eq_true rfl) ⟨by show _ ≤ 60; omega, by show _ ≤ 360; omega⟩ rfl (fun Ec hh hp => hp.elim) (fun r hh hp => ?_)
  obtain ⟨hr, hhe⟩ := hp
  rw [hhe, hr]
  refine r_aload_n dL_isAlike_257 3 rfl ?_
  refine r_iload dL_isAlike_258 8 rfl ?_
  refine r_iload dL_isAlike_260 0 rfl ?_
  refine r_callXSH (nn := 3) (As := [.ref q2, .int o6, .int (nI 0)]) (st := [.int (vShown dt nF nC nE w o6 (nI 0))]) dL_isAlike_262 (tR_shown D2 o6 (nI 0)) gL_isAlike_L_shown rfl (by decide +kernel) ⟨Nat.le_of_ble_eq_true rfl, Nat.le_of_ble_eq_true rfl⟩ ⟨rfl, rfl⟩ rfl (Nat.le_of_ble_eq_true rfl) ⟨by show _ ≤ 60; omega, by show _ ≤ 360; omega⟩ rfl (fun Ec hh hp => hp.elim) (fun r hh hp => ?_)
  obtain ⟨hr, hhe⟩ := hp
  rw [hhe, hr]
  refine r_icmp_ne (tgt := 272) dL_isAlike_265 (by decide) (fun c9 => absurd rfl c9) (fun _ => ?_)
  refine r_iconst (v := nI 1) dL_isAlike_268 (by decide) ?_
  refine r_goto (tgt := 273) dL_isAlike_269 (by decide) ?_
  refine r_istore (lo' := [(7, .int (nI 1)), (8, .int (nI 0)), (0, .ref q1), (1, .ref q2), (2, .ref pn), (3, .int (nI X)), (4, .int o4), (5, .int o5), (6, .int o6)]) dL_isAlike_273 (by decide) rfl ?_
  refine r_iinc (v := nI 1) (lo' := [(8, .int (nI 1)), (7, .int (nI 1)), (0, .ref q1), (1, .ref q2), (2, .ref pn), (3, .int (nI X)), (4, .int o4), (5, .int o5), (6, .int o6)]) dL_isAlike_275 1 rfl (by decide) (by decide) rfl ?_
  refine r_goto (tgt := 200) dL_isAlike_278 (by decide) ?_
  refine r_iload dL_isAlike_200 0 rfl ?_
  refine r_iconst (v := nI 5) dL_isAlike_202 (by decide) ?_
  refine r_icmp_ge (tgt := 281) dL_isAlike_203 (by decide) (fun c9 => absurd c9 (by decide)) (fun _ => ?_)
  refine r_iload dL_isAlike_206 1 rfl ?_
  refine r_if_eq (tgt := 281) dL_isAlike_208 (by decide) (fun c9 => absurd c9 (by decide)) (fun _ => ?_)
  refine r_aload_n dL_isAlike_211 2 rfl ?_
  refine r_iload dL_isAlike_212 6 rfl ?_
  refine r_iload dL_isAlike_214 0 rfl ?_
  refine r_callXSH (nn := 3) (As := [.ref q1, .int o4, .int (nI 1)]) (st := []) dL_isAlike_216 (tR_fightOf D1 o4 (nI 1)) gL_isAlike_L_fightOf rfl (by decide +kernel) ⟨Nat.le_of_ble_eq_true rfl, Nat.le_of_ble_eq_true rfl⟩ ⟨rfl, rfl⟩ rfl (Nat.le_of_ble_eq_true rfl) ⟨by show _ ≤ 60; omega, by show _ ≤ 360; omega⟩ rfl (fun Ec hh hp => hp.elim) (fun r hh hp => ?_)
  obtain ⟨hr, hhe⟩ := hp
  rw [hhe, hr]
  refine r_aload_n dL_isAlike_219 3 rfl ?_
  refine r_iload dL_isAlike_220 6 rfl ?_
  refine r_iload dL_isAlike_222 0 rfl ?_
  refine r_callXSH (nn := 3) (As := [.ref q2, .int o4, .int (nI 1)]) (st := [.int (vFightOf dt nF nC nE w o4 (nI 1))]) dL_isAlike_224 (tR_fightOf D2 o4 (nI 1)) gL_isAlike_L_fightOf rfl (by decide +kernel) ⟨Nat.le_of_ble_eq_true rfl, Nat.le_of_ble_eq_true rfl⟩ ⟨rfl, rfl⟩ rfl (Nat.le_of_ble_eq_true rfl) ⟨by show _ ≤ 60; omega, by show _ ≤ 360; omega⟩ rfl (fun Ec hh hp => hp.elim) (fun r hh hp => ?_)
  obtain ⟨hr, hhe⟩ := hp
  rw [hhe, hr]
  refine r_icmp_ne (tgt := 272) dL_isAlike_227 (by decide) (fun c9 => absurd rfl c9) (fun _ => ?_)
  refine r_aload_n dL_isAlike_230 2 rfl ?_
  refine r_iload dL_isAlike_231 7 rfl ?_
  refine r_iload dL_isAlike_233 0 rfl ?_
  refine r_callXSH (nn := 3) (As := [.ref q1, .int o5, .int (nI 1)]) (st := []) dL_isAlike_235 (tR_cameraOf D1 o5 (nI 1)) gL_isAlike_L_cameraOf rfl (by decide +kernel) ⟨Nat.le_of_ble_eq_true rfl, Nat.le_of_ble_eq_true rfl⟩ ⟨rfl, rfl⟩ rfl (Nat.le_of_ble_eq_true rfl) ⟨by show _ ≤ 60; omega, by show _ ≤ 360; omega⟩ rfl (fun Ec hh hp => hp.elim) (fun r hh hp => ?_)
  obtain ⟨hr, hhe⟩ := hp
  rw [hhe, hr]
  refine r_aload_n dL_isAlike_238 3 rfl ?_
  refine r_iload dL_isAlike_239 7 rfl ?_
  refine r_iload dL_isAlike_241 0 rfl ?_
  refine r_callXSH (nn := 3) (As := [.ref q2, .int o5, .int (nI 1)]) (st := [.int (vCameraOf dt nF nC nE w o5 (nI 1))]) dL_isAlike_243 (tR_cameraOf D2 o5 (nI 1)) gL_isAlike_L_cameraOf rfl (by decide +kernel) ⟨Nat.le_of_ble_eq_true rfl, Nat.le_of_ble_eq_true rfl⟩ ⟨rfl, rfl⟩ rfl (Nat.le_of_ble_eq_true rfl) ⟨by show _ ≤ 60; omega, by show _ ≤ 360; omega⟩ rfl (fun Ec hh hp => hp.elim) (fun r hh hp => ?_)
  obtain ⟨hr, hhe⟩ := hp
  rw [hhe, hr]
  refine r_icmp_ne (tgt := 272) dL_isAlike_246 (by decide) (fun c9 => absurd rfl c9) (fun _ => ?_)
  refine r_aload_n dL_isAlike_249 2 rfl ?_
  refine r_iload dL_isAlike_250 8 rfl ?_
  refine r_iload dL_isAlike_252 0 rfl ?_
  refine r_callXSH (nn := 3) (As := [.ref q1, .int o6, .int (nI 1)]) (st := []) dL_isAlike_254 (tR_shown D1 o6 (nI 1)) gL_isAlike_L_shown rfl (by decide +kernel) ⟨Nat.le_of_ble_eq_true rfl, Nat.le_of_ble_eq_true rfl⟩ ⟨rfl, rfl⟩ rfl (Nat.le_of_ble_eq_true rfl) ⟨by show _ ≤ 60; omega, by show _ ≤ 360; omega⟩ rfl (fun Ec hh hp => hp.elim) (fun r hh hp => ?_)
  obtain ⟨hr, hhe⟩ := hp
  rw [hhe, hr]
  refine r_aload_n dL_isAlike_257 3 rfl ?_
  refine r_iload dL_isAlike_258 8 rfl ?_
  refine r_iload dL_isAlike_260 0 rfl ?_
  refine r_callXSH (nn := 3) (As := [.ref q2, .int o6, .int (nI 1)]) (st := [.int (vShown dt nF nC nE w o6 (nI 1))]) dL_isAlike_262 (tR_shown D2 o6 (nI 1)) gL_isAlike_L_shown rfl (by decide +kernel) ⟨Nat.le_of_ble_eq_true rfl, Nat.le_of_ble_eq_true rfl⟩ ⟨rfl, rfl⟩ rfl (Nat.le_of_ble_eq_true rfl) ⟨by show _ ≤ 60; omega, by show _ ≤ 360; omega⟩ rfl (fun Ec hh hp => hp.elim) (fun r hh hp => ?_)
  obtain ⟨hr, hhe⟩ := hp
  rw [hhe, hr]
  refine r_icmp_ne (tgt := 272) dL_isAlike_265 (by decide) (fun c9 => absurd rfl c9) (fun _ => ?_)
  refine r_iconst (v := nI 1) dL_isAlike_268 (by decide) ?_
  refine r_goto (tgt := 273) dL_isAlike_269 (by decide) ?_
  refine r_istore (lo' := [(7, .int (nI 1)), (8, .int (nI 1)), (0, .ref q1), (1, .ref q2), (2, .ref pn), (3, .int (nI X)), (4, .int o4), (5, .int o5), (6, .int o6)]) dL_isAlike_273 (by decide) rfl ?_
  refine r_iinc (v := nI 2) (lo' := [(8, .int (nI 2)), (7, .int (nI 1)), (0, .ref q1), (1, .ref q2), (2, .ref pn), (3, .int (nI X)), (4, .int o4), (5, .int o5), (6, .int o6)]) dL_isAlike_275 1 rfl (by decide) (by decide) rfl ?_
  refine r_goto (tgt := 200) dL_isAlike_278 (by decide) ?_
  refine r_iload dL_isAlike_200 0 rfl ?_
  refine r_iconst (v := nI 5) dL_isAlike_202 (by decide) ?_
  refine r_icmp_ge (tgt := 281) dL_isAlike_203 (by decide) (fun c9 => absurd c9 (by decide)) (fun _ => ?_)
  refine r_iload dL_isAlike_206 1 rfl ?_
  refine r_if_eq (tgt := 281) dL_isAlike_208 (by decide) (fun c9 => absurd c9 (by decide)) (fun _ => ?_)
  refine r_aload_n dL_isAlike_211 2 rfl ?_
  refine r_iload dL_isAlike_212 6 rfl ?_
  refine r_iload dL_isAlike_214 0 rfl ?_
  refine r_callXSH (nn := 3) (As := [.ref q1, .int o4, .int (nI 2)]) (st := []) dL_isAlike_216 (tR_fightOf D1 o4 (nI 2)) gL_isAlike_L_fightOf rfl (by decide +kernel) ⟨Nat.le_of_ble_eq_true rfl, Nat.le_of_ble_eq_true rfl⟩ ⟨rfl, rfl⟩ rfl (Nat.le_of_ble_eq_true rfl) ⟨by show _ ≤ 60; omega, by show _ ≤ 360; omega⟩ rfl (fun Ec hh hp => hp.elim) (fun r hh hp => ?_)
  obtain ⟨hr, hhe⟩ := hp
  rw [hhe, hr]
  refine r_aload_n dL_isAlike_219 3 rfl ?_
  refine r_iload dL_isAlike_220 6 rfl ?_
  refine r_iload dL_isAlike_222 0 rfl ?_
  refine r_callXSH (nn := 3) (As := [.ref q2, .int o4, .int (nI 2)]) (st := [.int (vFightOf dt nF nC nE w o4 (nI 2))]) dL_isAlike_224 (tR_fightOf D2 o4 (nI 2)) gL_isAlike_L_fightOf rfl (by decide +kernel) ⟨Nat.le_of_ble_eq_true rfl, Nat.le_of_ble_eq_true rfl⟩ ⟨rfl, rfl⟩ rfl (Nat.le_of_ble_eq_true rfl) ⟨by show _ ≤ 60; omega, by show _ ≤ 360; omega⟩ rfl (fun Ec hh hp => hp.elim) (fun r hh hp => ?_)
  obtain ⟨hr, hhe⟩ := hp
  rw [hhe, hr]
  refine r_icmp_ne (tgt := 272) dL_isAlike_227 (by decide) (fun c9 => absurd rfl c9) (fun _ => ?_)
  refine r_aload_n dL_isAlike_230 2 rfl ?_
  refine r_iload dL_isAlike_231 7 rfl ?_
  refine r_iload dL_isAlike_233 0 rfl ?_
  refine r_callXSH (nn := 3) (As := [.ref q1, .int o5, .int (nI 2)]) (st := []) dL_isAlike_235 (tR_cameraOf D1 o5 (nI 2)) gL_isAlike_L_cameraOf rfl (by decide +kernel) ⟨Nat.le_of_ble_eq_true rfl, Nat.le_of_ble_eq_true rfl⟩ ⟨rfl, rfl⟩ rfl (Nat.le_of_ble_eq_true rfl) ⟨by show _ ≤ 60; omega, by show _ ≤ 360; omega⟩ rfl (fun Ec hh hp => hp.elim) (fun r hh hp => ?_)
  obtain ⟨hr, hhe⟩ := hp
  rw [hhe, hr]
  refine r_aload_n dL_isAlike_238 3 rfl ?_
  refine r_iload dL_isAlike_239 7 rfl ?_
  refine r_iload dL_isAlike_241 0 rfl ?_
  refine r_callXSH (nn := 3) (As := [.ref q2, .int o5, .int (nI 2)]) (st := [.int (vCameraOf dt nF nC nE w o5 (nI 2))]) dL_isAlike_243 (tR_cameraOf D2 o5 (nI 2)) gL_isAlike_L_cameraOf rfl (by decide +kernel) ⟨Nat.le_of_ble_eq_true rfl, Nat.le_of_ble_eq_true rfl⟩ ⟨rfl, rfl⟩ rfl (Nat.le_of_ble_eq_true rfl) ⟨by show _ ≤ 60; omega, by show _ ≤ 360; omega⟩ rfl (fun Ec hh hp => hp.elim) (fun r hh hp => ?_)
  obtain ⟨hr, hhe⟩ := hp
  rw [hhe, hr]
  refine r_icmp_ne (tgt := 272) dL_isAlike_246 (by decide) (fun c9 => absurd rfl c9) (fun _ => ?_)
  refine r_aload_n dL_isAlike_249 2 rfl ?_
  refine r_iload dL_isAlike_250 8 rfl ?_
  refine r_iload dL_isAlike_252 0 rfl ?_
  refine r_callXSH (nn := 3) (As := [.ref q1, .int o6, .int (nI 2)]) (st := []) dL_isAlike_254 (tR_shown D1 o6 (nI 2)) gL_isAlike_L_shown rfl (by decide +kernel) ⟨Nat.le_of_ble_eq_true rfl, Nat.le_of_ble_eq_true rfl⟩ ⟨rfl, rfl⟩ rfl (Nat.le_of_ble_eq_true rfl) ⟨by show _ ≤ 60; omega, by show _ ≤ 360; omega⟩ rfl (fun Ec hh hp => hp.elim) (fun r hh hp => ?_)
  obtain ⟨hr, hhe⟩ := hp
  rw [hhe, hr]
  refine r_aload_n dL_isAlike_257 3 rfl ?_
  refine r_iload dL_isAlike_258 8 rfl ?_
  refine r_iload dL_isAlike_260 0 rfl ?_
  refine r_callXSH (nn := 3) (As := [.ref q2, .int o6, .int (nI 2)]) (st := [.int (vShown dt nF nC nE w o6 (nI 2))]) dL_isAlike_262 (tR_shown D2 o6 (nI 2)) gL_isAlike_L_shown rfl (by decide +kernel) ⟨Nat.le_of_ble_eq_true rfl, Nat.le_of_ble_eq_true rfl⟩ ⟨rfl, rfl⟩ rfl (Nat.le_of_ble_eq_true rfl) ⟨by show _ ≤ 60; omega, by show _ ≤ 360; omega⟩ rfl (fun Ec hh hp => hp.elim) (fun r hh hp => ?_)
  obtain ⟨hr, hhe⟩ := hp
  rw [hhe, hr]
  refine r_icmp_ne (tgt := 272) dL_isAlike_265 (by decide) (fun c9 => absurd rfl c9) (fun _ => ?_)
  refine r_iconst (v := nI 1) dL_isAlike_268 (by decide) ?_
  refine r_goto (tgt := 273) dL_isAlike_269 (by decide) ?_
  refine r_istore (lo' := [(7, .int (nI 1)), (8, .int (nI 2)), (0, .ref q1), (1, .ref q2), (2, .ref pn), (3, .int (nI X)), (4, .int o4), (5, .int o5), (6, .int o6)]) dL_isAlike_273 (by decide) rfl ?_
  refine r_iinc (v := nI 3) (lo' := [(8, .int (nI 3)), (7, .int (nI 1)), (0, .ref q1), (1, .ref q2), (2, .ref pn), (3, .int (nI X)), (4, .int o4), (5, .int o5), (6, .int o6)]) dL_isAlike_275 1 rfl (by decide) (by decide) rfl ?_
  refine r_goto (tgt := 200) dL_isAlike_278 (by decide) ?_
  refine r_iload dL_isAlike_200 0 rfl ?_
  refine r_iconst (v := nI 5) dL_isAlike_202 (by decide) ?_
  refine r_icmp_ge (tgt := 281) dL_isAlike_203 (by decide) (fun c9 => absurd c9 (by decide)) (fun _ => ?_)
  refine r_iload dL_isAlike_206 1 rfl ?_
  refine r_if_eq (tgt := 281) dL_isAlike_208 (by decide) (fun c9 => absurd c9 (by decide)) (fun _ => ?_)
  refine r_aload_n dL_isAlike_211 2 rfl ?_
  refine r_iload dL_isAlike_212 6 rfl ?_
  refine r_iload dL_isAlike_214 0 rfl ?_
  refine r_callXSH (nn := 3) (As := [.ref q1, .int o4, .int (nI 3)]) (st := []) dL_isAlike_216 (tR_fightOf D1 o4 (nI 3)) gL_isAlike_L_fightOf rfl (by decide +kernel) ⟨Nat.le_of_ble_eq_true rfl, Nat.le_of_ble_eq_true rfl⟩ ⟨rfl, rfl⟩ rfl (Nat.le_of_ble_eq_true rfl) ⟨by show _ ≤ 60; omega, by show _ ≤ 360; omega⟩ rfl (fun Ec hh hp => hp.elim) (fun r hh hp => ?_)
  obtain ⟨hr, hhe⟩ := hp
  rw [hhe, hr]
  refine r_aload_n dL_isAlike_219 3 rfl ?_
  refine r_iload dL_isAlike_220 6 rfl ?_
  refine r_iload dL_isAlike_222 0 rfl ?_
  refine r_callXSH (nn := 3) (As := [.ref q2, .int o4, .int (nI 3)]) (st := [.int (vFightOf dt nF nC nE w o4 (nI 3))]) dL_isAlike_224 (tR_fightOf D2 o4 (nI 3)) gL_isAlike_L_fightOf rfl (by decide +kernel) ⟨Nat.le_of_ble_eq_true rfl, Nat.le_of_ble_eq_true rfl⟩ ⟨rfl, rfl⟩ rfl (Nat.le_of_ble_eq_true rfl) ⟨by show _ ≤ 60; omega, by show _ ≤ 360; omega⟩ rfl (fun Ec hh hp => hp.elim) (fun r hh hp => ?_)
  obtain ⟨hr, hhe⟩ := hp
  rw [hhe, hr]
  refine r_icmp_ne (tgt := 272) dL_isAlike_227 (by decide) (fun c9 => absurd rfl c9) (fun _ => ?_)
  refine r_aload_n dL_isAlike_230 2 rfl ?_
  refine r_iload dL_isAlike_231 7 rfl ?_
  refine r_iload dL_isAlike_233 0 rfl ?_
  refine r_callXSH (nn := 3) (As := [.ref q1, .int o5, .int (nI 3)]) (st := []) dL_isAlike_235 (tR_cameraOf D1 o5 (nI 3)) gL_isAlike_L_cameraOf rfl (by decide +kernel) ⟨Nat.le_of_ble_eq_true rfl, Nat.le_of_ble_eq_true rfl⟩ ⟨rfl, rfl⟩ rfl (Nat.le_of_ble_eq_true rfl) ⟨by show _ ≤ 60; omega, by show _ ≤ 360; omega⟩ rfl (fun Ec hh hp => hp.elim) (fun r hh hp => ?_)
  obtain ⟨hr, hhe⟩ := hp
  rw [hhe, hr]
  refine r_aload_n dL_isAlike_238 3 rfl ?_
  refine r_iload dL_isAlike_239 7 rfl ?_
  refine r_iload dL_isAlike_241 0 rfl ?_
  refine r_callXSH (nn := 3) (As := [.ref q2, .int o5, .int (nI 3)]) (st := [.int (vCameraOf dt nF nC nE w o5 (nI 3))]) dL_isAlike_243 (tR_cameraOf D2 o5 (nI 3)) gL_isAlike_L_cameraOf rfl (by decide +kernel) ⟨Nat.le_of_ble_eq_true rfl, Nat.le_of_ble_eq_true rfl⟩ ⟨rfl, rfl⟩ rfl (Nat.le_of_ble_eq_true rfl) ⟨by show _ ≤ 60; omega, by show _ ≤ 360; omega⟩ rfl (fun Ec hh hp => hp.elim) (fun r hh hp => ?_)
  obtain ⟨hr, hhe⟩ := hp
  rw [hhe, hr]
  refine r_icmp_ne (tgt := 272) dL_isAlike_246 (by decide) (fun c9 => absurd rfl c9) (fun _ => ?_)
  refine r_aload_n dL_isAlike_249 2 rfl ?_
  refine r_iload dL_isAlike_250 8 rfl ?_
  refine r_iload dL_isAlike_252 0 rfl ?_
  refine r_callXSH (nn := 3) (As := [.ref q1, .int o6, .int (nI 3)]) (st := []) dL_isAlike_254 (tR_shown D1 o6 (nI 3)) gL_isAlike_L_shown rfl (by decide +kernel) ⟨Nat.le_of_ble_eq_true rfl, Nat.le_of_ble_eq_true rfl⟩ ⟨rfl, rfl⟩ rfl (Nat.le_of_ble_eq_true rfl) ⟨by show _ ≤ 60; omega, by show _ ≤ 360; omega⟩ rfl (fun Ec hh hp => hp.elim) (fun r hh hp => ?_)
  obtain ⟨hr, hhe⟩ := hp
  rw [hhe, hr]
  refine r_aload_n dL_isAlike_257 3 rfl ?_
  refine r_iload dL_isAlike_258 8 rfl ?_
  refine r_iload dL_isAlike_260 0 rfl ?_
  refine r_callXSH (nn := 3) (As := [.ref q2, .int o6, .int (nI 3)]) (st := [.int (vShown dt nF nC nE w o6 (nI 3))]) dL_isAlike_262 (tR_shown D2 o6 (nI 3)) gL_isAlike_L_shown rfl (by decide +kernel) ⟨Nat.le_of_ble_eq_true rfl, Nat.le_of_ble_eq_true rfl⟩ ⟨rfl, rfl⟩ rfl (Nat.le_of_ble_eq_true rfl) ⟨by show _ ≤ 60; omega, by show _ ≤ 360; omega⟩ rfl (fun Ec hh hp => hp.elim) (fun r hh hp => ?_)
  obtain ⟨hr, hhe⟩ := hp
  rw [hhe, hr]
  refine r_icmp_ne (tgt := 272) dL_isAlike_265 (by decide) (fun c9 => absurd rfl c9) (fun _ => ?_)
  refine r_iconst (v := nI 1) dL_isAlike_268 (by decide) ?_
  refine r_goto (tgt := 273) dL_isAlike_269 (by decide) ?_
  refine r_istore (lo' := [(7, .int (nI 1)), (8, .int (nI 3)), (0, .ref q1), (1, .ref q2), (2, .ref pn), (3, .int (nI X)), (4, .int o4), (5, .int o5), (6, .int o6)]) dL_isAlike_273 (by decide) rfl ?_
  refine r_iinc (v := nI 4) (lo' := [(8, .int (nI 4)), (7, .int (nI 1)), (0, .ref q1), (1, .ref q2), (2, .ref pn), (3, .int (nI X)), (4, .int o4), (5, .int o5), (6, .int o6)]) dL_isAlike_275 1 rfl (by decide) (by decide) rfl ?_
  refine r_goto (tgt := 200) dL_isAlike_278 (by decide) ?_
  refine r_iload dL_isAlike_200 0 rfl ?_
  refine r_iconst (v := nI 5) dL_isAlike_202 (by decide) ?_
  refine r_icmp_ge (tgt := 281) dL_isAlike_203 (by decide) (fun c9 => absurd c9 (by decide)) (fun _ => ?_)
  refine r_iload dL_isAlike_206 1 rfl ?_
  refine r_if_eq (tgt := 281) dL_isAlike_208 (by decide) (fun c9 => absurd c9 (by decide)) (fun _ => ?_)
  refine r_aload_n dL_isAlike_211 2 rfl ?_
  refine r_iload dL_isAlike_212 6 rfl ?_
  refine r_iload dL_isAlike_214 0 rfl ?_
  refine r_callXSH (nn := 3) (As := [.ref q1, .int o4, .int (nI 4)]) (st := []) dL_isAlike_216 (tR_fightOf D1 o4 (nI 4)) gL_isAlike_L_fightOf rfl (by decide +kernel) ⟨Nat.le_of_ble_eq_true rfl, Nat.le_of_ble_eq_true rfl⟩ ⟨rfl, rfl⟩ rfl (Nat.le_of_ble_eq_true rfl) ⟨by show _ ≤ 60; omega, by show _ ≤ 360; omega⟩ rfl (fun Ec hh hp => hp.elim) (fun r hh hp => ?_)
  obtain ⟨hr, hhe⟩ := hp
  rw [hhe, hr]
  refine r_aload_n dL_isAlike_219 3 rfl ?_
  refine r_iload dL_isAlike_220 6 rfl ?_
  refine r_iload dL_isAlike_222 0 rfl ?_
  refine r_callXSH (nn := 3) (As := [.ref q2, .int o4, .int (nI 4)]) (st := [.int (vFightOf dt nF nC nE w o4 (nI 4))]) dL_isAlike_224 (tR_fightOf D2 o4 (nI 4)) gL_isAlike_L_fightOf rfl (by decide +kernel) ⟨Nat.le_of_ble_eq_true rfl, Nat.le_of_ble_eq_true rfl⟩ ⟨rfl, rfl⟩ rfl (Nat.le_of_ble_eq_true rfl) ⟨by show _ ≤ 60; omega, by show _ ≤ 360; omega⟩ rfl (fun Ec hh hp => hp.elim) (fun r hh hp => ?_)
  obtain ⟨hr, hhe⟩ := hp
  rw [hhe, hr]
  refine r_icmp_ne (tgt := 272) dL_isAlike_227 (by decide) (fun c9 => absurd rfl c9) (fun _ => ?_)
  refine r_aload_n dL_isAlike_230 2 rfl ?_
  refine r_iload dL_isAlike_231 7 rfl ?_
  refine r_iload dL_isAlike_233 0 rfl ?_
  refine r_callXSH (nn := 3) (As := [.ref q1, .int o5, .int (nI 4)]) (st := []) dL_isAlike_235 (tR_cameraOf D1 o5 (nI 4)) gL_isAlike_L_cameraOf rfl (by decide +kernel) ⟨Nat.le_of_ble_eq_true rfl, Nat.le_of_ble_eq_true rfl⟩ ⟨rfl, rfl⟩ rfl (Nat.le_of_ble_eq_true rfl) ⟨by show _ ≤ 60; omega, by show _ ≤ 360; omega⟩ rfl (fun Ec hh hp => hp.elim) (fun r hh hp => ?_)
  obtain ⟨hr, hhe⟩ := hp
  rw [hhe, hr]
  refine r_aload_n dL_isAlike_238 3 rfl ?_
  refine r_iload dL_isAlike_239 7 rfl ?_
  refine r_iload dL_isAlike_241 0 rfl ?_
  refine r_callXSH (nn := 3) (As := [.ref q2, .int o5, .int (nI 4)]) (st := [.int (vCameraOf dt nF nC nE w o5 (nI 4))]) dL_isAlike_243 (tR_cameraOf D2 o5 (nI 4)) gL_isAlike_L_cameraOf rfl (by decide +kernel) ⟨Nat.le_of_ble_eq_true rfl, Nat.le_of_ble_eq_true rfl⟩ ⟨rfl, rfl⟩ rfl (Nat.le_of_ble_eq_true rfl) ⟨by show _ ≤ 60; omega, by show _ ≤ 360; omega⟩ rfl (fun Ec hh hp => hp.elim) (fun r hh hp => ?_)
  obtain ⟨hr, hhe⟩ := hp
  rw [hhe, hr]
  refine r_icmp_ne (tgt := 272) dL_isAlike_246 (by decide) (fun c9 => absurd rfl c9) (fun _ => ?_)
  refine r_aload_n dL_isAlike_249 2 rfl ?_
  refine r_iload dL_isAlike_250 8 rfl ?_
  refine r_iload dL_isAlike_252 0 rfl ?_
  refine r_callXSH (nn := 3) (As := [.ref q1, .int o6, .int (nI 4)]) (st := []) dL_isAlike_254 (tR_shown D1 o6 (nI 4)) gL_isAlike_L_shown rfl (by decide +kernel) ⟨Nat.le_of_ble_eq_true rfl, Nat.le_of_ble_eq_true rfl⟩ ⟨rfl, rfl⟩ rfl (Nat.le_of_ble_eq_true rfl) ⟨by show _ ≤ 60; omega, by show _ ≤ 360; omega⟩ rfl (fun Ec hh hp => hp.elim) (fun r hh hp => ?_)
  obtain ⟨hr, hhe⟩ := hp
  rw [hhe, hr]
  refine r_aload_n dL_isAlike_257 3 rfl ?_
  refine r_iload dL_isAlike_258 8 rfl ?_
  refine r_iload dL_isAlike_260 0 rfl ?_
  refine r_callXSH (nn := 3) (As := [.ref q2, .int o6, .int (nI 4)]) (st := [.int (vShown dt nF nC nE w o6 (nI 4))]) dL_isAlike_262 (tR_shown D2 o6 (nI 4)) gL_isAlike_L_shown rfl (by decide +kernel) ⟨Nat.le_of_ble_eq_true rfl, Nat.le_of_ble_eq_true rfl⟩ ⟨rfl, rfl⟩ rfl (Nat.le_of_ble_eq_true rfl) ⟨by show _ ≤ 60; omega, by show _ ≤ 360; omega⟩ rfl (fun Ec hh hp => hp.elim) (fun r hh hp => ?_)
  obtain ⟨hr, hhe⟩ := hp
  rw [hhe, hr]
  refine r_icmp_ne (tgt := 272) dL_isAlike_265 (by decide) (fun c9 => absurd rfl c9) (fun _ => ?_)
  refine r_iconst (v := nI 1) dL_isAlike_268 (by decide) ?_
  refine r_goto (tgt := 273) dL_isAlike_269 (by decide) ?_
  refine r_istore (lo' := [(7, .int (nI 1)), (8, .int (nI 4)), (0, .ref q1), (1, .ref q2), (2, .ref pn), (3, .int (nI X)), (4, .int o4), (5, .int o5), (6, .int o6)]) dL_isAlike_273 (by decide) rfl ?_
  refine r_iinc (v := nI 5) (lo' := [(8, .int (nI 5)), (7, .int (nI 1)), (0, .ref q1), (1, .ref q2), (2, .ref pn), (3, .int (nI X)), (4, .int o4), (5, .int o5), (6, .int o6)]) dL_isAlike_275 1 rfl (by decide) (by decide) rfl ?_
  refine r_goto (tgt := 200) dL_isAlike_278 (by decide) ?_
  refine r_iload dL_isAlike_200 0 rfl ?_
  refine r_iconst (v := nI 5) dL_isAlike_202 (by decide) ?_
  refine r_icmp_ge (tgt := 281) dL_isAlike_203 (by decide) (fun _ => ?_) (fun c9 => absurd c9 (by decide))
  refine r_iload dL_isAlike_281 1 rfl ?_
  exact kret _ _ _ _ _ _ (by omega) (by omega) dL_isAlike_283 rfl ⟨rfl, rfl⟩

set_option maxHeartbeats 8000000 in
set_option maxRecDepth 100000 in
theorem al_34 {E : kE} {H : kH} {dt : kM} {nF nC nE w X pn q1 q2 : Nat} {fn : Nat → Int32} {X9 : kX} (D1 : Dk E q1 dt nF nC nE w H) (D2 : Dk E q2 dt nF nC nE w H) (hX : X < 2 ^ 31) (hH : H pn = some (.inl (kI E, 3, .inl fn))) (hn_0 : fn 0 = nI nF) (hn_1 : fn 1 = nI nC) (kret : ∀ (k n : Nat) (h' : kH) (lo : List (Nat × Value)) (pc : Nat) (r : Int32), k ≤ 60 → n ≤ 360 → decode cL_isAlike pc = .ok (.ireturn, 1) → narrow .boolean (.int r) = .int r → (r = 1 ∧ h' = H) → V E X9 rmL_isAlike cL_isAlike 9 wsL_isAlike RL k n h' lo pc [.int r]) (o4 o5 : Int32) : V E X9 rmL_isAlike cL_isAlike 9 wsL_isAlike RL 0 0 H [(0, .ref q1), (1, .ref q2), (2, .ref pn), (3, .int (nI X)), (4, .int o4), (5, .int o5)] 34 [] := by
  obtain ⟨hF, hF20, hC, hC6, hE, hE80, hW, hW3, hpl, hof, hsp⟩ := id D1.wf
  obtain ⟨fs1, hf1⟩ := D1.at
  obtain ⟨fs2, hf2⟩ := D2.at
  refine r_aload_n dL_isAlike_34 0 rfl ?_
  refine r_callVi (nn := 0) (As := []) (st := []) dL_isAlike_35 (tR_frame D1) gL_isAlike_X3_frame rfl (by decide +kernel) ⟨Nat.le_of_ble_eq_true rfl, Nat.le_of_ble_eq_true rfl⟩ ⟨rfl, rfl⟩ hf1 rfl rfl (Nat.le_of_ble_eq_true rfl) ⟨by show _ ≤ 60; omega, by show _ ≤ 360; omega⟩ rfl (fun r hh hp => ?_)
  obtain ⟨hr, hhe⟩ := hp
  rw [hhe, hr]
  refine r_if_ne (tgt := 45) dL_isAlike_38 (by decide) (fun c6 => ?_) (fun c6 => ?_)
  · skip
    have h0 : w ≠ 0 := fun z => c6 (by rw [z]; rfl)
    refine r_iload_n dL_isAlike_45 3 rfl ?_
    refine r_aload_n dL_isAlike_46 0 rfl ?_
    refine r_callVi (nn := 0) (As := []) (st := [.int (nI X)]) dL_isAlike_47 (tR_frame D1) gL_isAlike_X3_frame rfl (by decide +kernel) ⟨Nat.le_of_ble_eq_true rfl, Nat.le_of_ble_eq_true rfl⟩ ⟨rfl, rfl⟩ hf1 rfl rfl (Nat.le_of_ble_eq_true rfl) ⟨by show _ ≤ 60; omega, by show _ ≤ 360; omega⟩ rfl (fun r hh hp => ?_)
    obtain ⟨hr, hhe⟩ := hp
    rw [hhe, hr]
    refine r_irem dL_isAlike_50 (nI_ne0 (Nat.pos_of_ne_zero h0) (by omega)) ?_
    rw [nI_mod (a := X) (b := w) (by omega) (Nat.pos_of_ne_zero h0) (by omega)]
    refine r_istore (lo' := [(6, .int (nI (X % w))), (0, .ref q1), (1, .ref q2), (2, .ref pn), (3, .int (nI X)), (4, .int o4), (5, .int o5)]) dL_isAlike_51 (by decide) rfl ?_
    refine r_lo (lo' := [(0, .ref q1), (1, .ref q2), (2, .ref pn), (3, .int (nI X)), (4, .int o4), (5, .int o5), (6, .int (nI (X % w)))]) [1, 2, 3, 4, 5, 6, 0] rfl ?_
    exact al_53 D1 D2 hX hH hn_0 hn_1 kret _ _ _
  · skip
    refine r_iconst (v := nI 0) dL_isAlike_41 (by decide) ?_
    refine r_goto (tgt := 51) dL_isAlike_42 (by decide) ?_
    refine r_istore (lo' := [(6, .int (nI 0)), (0, .ref q1), (1, .ref q2), (2, .ref pn), (3, .int (nI X)), (4, .int o4), (5, .int o5)]) dL_isAlike_51 (by decide) rfl ?_
    refine r_lo (lo' := [(0, .ref q1), (1, .ref q2), (2, .ref pn), (3, .int (nI X)), (4, .int o4), (5, .int o5), (6, .int (nI 0))]) [1, 2, 3, 4, 5, 6, 0] rfl ?_
    exact al_53 D1 D2 hX hH hn_0 hn_1 kret _ _ _

set_option maxHeartbeats 8000000 in
set_option maxRecDepth 100000 in
theorem al_17 {E : kE} {H : kH} {dt : kM} {nF nC nE w X pn q1 q2 : Nat} {fn : Nat → Int32} {X9 : kX} (D1 : Dk E q1 dt nF nC nE w H) (D2 : Dk E q2 dt nF nC nE w H) (hX : X < 2 ^ 31) (hH : H pn = some (.inl (kI E, 3, .inl fn))) (hn_0 : fn 0 = nI nF) (hn_1 : fn 1 = nI nC) (kret : ∀ (k n : Nat) (h' : kH) (lo : List (Nat × Value)) (pc : Nat) (r : Int32), k ≤ 60 → n ≤ 360 → decode cL_isAlike pc = .ok (.ireturn, 1) → narrow .boolean (.int r) = .int r → (r = 1 ∧ h' = H) → V E X9 rmL_isAlike cL_isAlike 9 wsL_isAlike RL k n h' lo pc [.int r]) (o4 : Int32) : V E X9 rmL_isAlike cL_isAlike 9 wsL_isAlike RL 0 0 H [(0, .ref q1), (1, .ref q2), (2, .ref pn), (3, .int (nI X)), (4, .int o4)] 17 [] := by
  obtain ⟨hF, hF20, hC, hC6, hE, hE80, hW, hW3, hpl, hof, hsp⟩ := id D1.wf
  obtain ⟨fs1, hf1⟩ := D1.at
  obtain ⟨fs2, hf2⟩ := D2.at
  refine r_aload_n dL_isAlike_17 2 rfl ?_
  refine r_iconst (v := nI 1) dL_isAlike_18 (by decide) ?_
  refine r_iald dL_isAlike_19 hH (vp_in_nI (by decide) (by decide)) ?_
  rw [show fn (nI 1).toNatClampNeg = nI nC from hn_1]
  refine r_if_ne (tgt := 27) dL_isAlike_20 (by decide) (fun c6 => ?_) (fun c6 => ?_)
  · skip
    have h0 : nC ≠ 0 := fun z => c6 (by rw [z]; rfl)
    refine r_iload_n dL_isAlike_27 3 rfl ?_
    refine r_aload_n dL_isAlike_28 2 rfl ?_
    refine r_iconst (v := nI 1) dL_isAlike_29 (by decide) ?_
    refine r_iald dL_isAlike_30 hH (vp_in_nI (by decide) (by decide)) ?_
    rw [show fn (nI 1).toNatClampNeg = nI nC from hn_1]
    refine r_irem dL_isAlike_31 (nI_ne0 (Nat.pos_of_ne_zero h0) (by omega)) ?_
    rw [nI_mod (a := X) (b := nC) (by omega) (Nat.pos_of_ne_zero h0) (by omega)]
    refine r_istore (lo' := [(5, .int (nI (X % nC))), (0, .ref q1), (1, .ref q2), (2, .ref pn), (3, .int (nI X)), (4, .int o4)]) dL_isAlike_32 (by decide) rfl ?_
    refine r_lo (lo' := [(0, .ref q1), (1, .ref q2), (2, .ref pn), (3, .int (nI X)), (4, .int o4), (5, .int (nI (X % nC)))]) [1, 2, 3, 4, 5, 0] rfl ?_
    exact al_34 D1 D2 hX hH hn_0 hn_1 kret _ _
  · skip
    refine r_iconst (v := nI 0) dL_isAlike_23 (by decide) ?_
    refine r_goto (tgt := 32) dL_isAlike_24 (by decide) ?_
    refine r_istore (lo' := [(5, .int (nI 0)), (0, .ref q1), (1, .ref q2), (2, .ref pn), (3, .int (nI X)), (4, .int o4)]) dL_isAlike_32 (by decide) rfl ?_
    refine r_lo (lo' := [(0, .ref q1), (1, .ref q2), (2, .ref pn), (3, .int (nI X)), (4, .int o4), (5, .int (nI 0))]) [1, 2, 3, 4, 5, 0] rfl ?_
    exact al_34 D1 D2 hX hH hn_0 hn_1 kret _ _

set_option maxHeartbeats 8000000 in
set_option maxRecDepth 100000 in
theorem al_0 {E : kE} {H : kH} {dt : kM} {nF nC nE w X pn q1 q2 : Nat} {fn : Nat → Int32} {X9 : kX} (D1 : Dk E q1 dt nF nC nE w H) (D2 : Dk E q2 dt nF nC nE w H) (hX : X < 2 ^ 31) (hH : H pn = some (.inl (kI E, 3, .inl fn))) (hn_0 : fn 0 = nI nF) (hn_1 : fn 1 = nI nC) (kret : ∀ (k n : Nat) (h' : kH) (lo : List (Nat × Value)) (pc : Nat) (r : Int32), k ≤ 60 → n ≤ 360 → decode cL_isAlike pc = .ok (.ireturn, 1) → narrow .boolean (.int r) = .int r → (r = 1 ∧ h' = H) → V E X9 rmL_isAlike cL_isAlike 9 wsL_isAlike RL k n h' lo pc [.int r]) : V E X9 rmL_isAlike cL_isAlike 9 wsL_isAlike RL 0 0 H [(0, .ref q1), (1, .ref q2), (2, .ref pn), (3, .int (nI X))] 0 [] := by
  obtain ⟨hF, hF20, hC, hC6, hE, hE80, hW, hW3, hpl, hof, hsp⟩ := id D1.wf
  obtain ⟨fs1, hf1⟩ := D1.at
  obtain ⟨fs2, hf2⟩ := D2.at
  refine r_aload_n dL_isAlike_0 2 rfl ?_
  refine r_iconst (v := nI 0) dL_isAlike_1 (by decide) ?_
  refine r_iald dL_isAlike_2 hH (vp_in_nI (by decide) (by decide)) ?_
  rw [show fn (nI 0).toNatClampNeg = nI nF from hn_0]
  refine r_if_ne (tgt := 10) dL_isAlike_3 (by decide) (fun c6 => ?_) (fun c6 => ?_)
  · skip
    have h0 : nF ≠ 0 := fun z => c6 (by rw [z]; rfl)
    refine r_iload_n dL_isAlike_10 3 rfl ?_
    refine r_aload_n dL_isAlike_11 2 rfl ?_
    refine r_iconst (v := nI 0) dL_isAlike_12 (by decide) ?_
    refine r_iald dL_isAlike_13 hH (vp_in_nI (by decide) (by decide)) ?_
    rw [show fn (nI 0).toNatClampNeg = nI nF from hn_0]
    refine r_irem dL_isAlike_14 (nI_ne0 (Nat.pos_of_ne_zero h0) (by omega)) ?_
    rw [nI_mod (a := X) (b := nF) (by omega) (Nat.pos_of_ne_zero h0) (by omega)]
    refine r_istore (lo' := [(4, .int (nI (X % nF))), (0, .ref q1), (1, .ref q2), (2, .ref pn), (3, .int (nI X))]) dL_isAlike_15 (by decide) rfl ?_
    refine r_lo (lo' := [(0, .ref q1), (1, .ref q2), (2, .ref pn), (3, .int (nI X)), (4, .int (nI (X % nF)))]) [1, 2, 3, 4, 0] rfl ?_
    exact al_17 D1 D2 hX hH hn_0 hn_1 kret _
  · skip
    refine r_iconst (v := nI 0) dL_isAlike_6 (by decide) ?_
    refine r_goto (tgt := 15) dL_isAlike_7 (by decide) ?_
    refine r_istore (lo' := [(4, .int (nI 0)), (0, .ref q1), (1, .ref q2), (2, .ref pn), (3, .int (nI X))]) dL_isAlike_15 (by decide) rfl ?_
    refine r_lo (lo' := [(0, .ref q1), (1, .ref q2), (2, .ref pn), (3, .int (nI X)), (4, .int (nI 0))]) [1, 2, 3, 4, 0] rfl ?_
    exact al_17 D1 D2 hX hH hn_0 hn_1 kret _
set_option maxHeartbeats 4000000 in
set_option maxRecDepth 100000 in
theorem tK_isAlike {E : kE} {H : kH} {dt : kM} {nF nC nE w X pn q1 q2 : Nat} {fn : Nat → Int32} (D1 : Dk E q1 dt nF nC nE w H) (D2 : Dk E q2 dt nF nC nE w H) (hX : X < 2 ^ 31) (hH : H pn = some (.inl (kI E, 3, .inl fn))) (hn_0 : fn 0 = nI nF) (hn_1 : fn 1 = nI nC) : kCi E yL_isAlike wsL_isAlike rmL_isAlike 60 360 [.ref q1, .ref q2, .ref pn, .int (nI X)] H (fun r h' => r = 1 ∧ h' = H) := by
  refine kCi_of (rt := .boolean) (own := RL) (cc := cL_isAlike) (maxL := 9) (by decide) rfl rfl (Nat.le_of_ble_eq_true rfl) ?_
  intro X9 hini kret
  refine r_lo (lo' := [(0, .ref q1), (1, .ref q2), (2, .ref pn), (3, .int (nI X))]) [0, 1, 2, 3] rfl ?_
  exact al_0 D1 D2 hX hH hn_0 hn_1 kret
