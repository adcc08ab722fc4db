abbrev rmX4_passes : Room := { frames := 3, cells := 0, slots := 0, locals := 69 }
theorem hinX4_passes : ∀ w ∈ u_ws RX4 TX4 29, w ∈ wsX4_passes := by decide +kernel
theorem fwX4_passes_32 : Cond.fieldLink RX4 32 "CastdeskModel" "stamina" "[I" ∈ wsX4_passes := by decide +kernel
theorem fwX4_passes_35 : Cond.fieldLink RX4 35 "CastdeskModel" "rest" "[I" ∈ wsX4_passes := by decide +kernel
theorem fwX4_passes_38 : Cond.fieldLink RX4 38 "CastdeskModel" "inRow" "[I" ∈ wsX4_passes := by decide +kernel
theorem fwX4_passes_41 : Cond.fieldLink RX4 41 "CastdeskModel" "off" "[I" ∈ wsX4_passes := by decide +kernel
theorem fwX4_passes_44 : Cond.fieldLink RX4 44 "CastdeskModel" "onAir" "I" ∈ wsX4_passes := by decide +kernel
theorem fwX4_passes_47 : Cond.fieldLink RX4 47 "CastdeskModel" "before" "I" ∈ wsX4_passes := by decide +kernel
theorem fwX4_passes_50 : Cond.fieldLink RX4 50 "CastdeskModel" "fightIn" "[I" ∈ wsX4_passes := by decide +kernel
theorem fwX4_passes_53 : Cond.fieldLink RX4 53 "CastdeskModel" "cameraIn" "[I" ∈ wsX4_passes := by decide +kernel
theorem fwX4_passes_56 : Cond.fieldLink RX4 56 "CastdeskModel" "sponsorIn" "[I" ∈ wsX4_passes := by decide +kernel
theorem fwX4_passes_115 : Cond.fieldLink RX4 115 "CastdeskModel" "now" "I" ∈ wsX4_passes := by decide +kernel
theorem fwX4_passes_118 : Cond.fieldLink RX4 118 "CastdeskModel" "cameras" "I" ∈ wsX4_passes := by decide +kernel
set_option maxHeartbeats 4000000 in
set_option maxRecDepth 100000 in
theorem lX4_passes_75 {E : kE} {b : Nat → Nat} (hb : binj b) {st : kM} {h0 : kH} (nF nC nE w : Nat) (hwf : mwf st nF nC nE w) (hw : w < 3000) (own cam : Int32) {X : kX} (hx : V E X rmX4_passes cX4_passes 4 wsX4_passes RX4 0 0 (ov E b (mf (mf st 14 (offA st cam nC)) 13 (inA st cam nC)) h0) [(3, .int (nI nC)), (0, .ref (b 29)), (1, .int own), (2, .int cam)] 176 [])
    : ∀ (d i : Nat), nC < i + d → i ≤ nC → V E X rmX4_passes cX4_passes 4 wsX4_passes RX4 0 0 (ov E b (mf (mf st 14 (offA st cam i)) 13 (inA st cam i)) h0) [(3, .int (nI i)), (0, .ref (b 29)), (1, .int own), (2, .int cam)] 75 [] := by
  obtain ⟨hF, hF20, hC, hC6, hE, hE80, hW, hW3, hpl, hof, hon, hsl⟩ := id hwf
  intro d
  induction d with
  | zero =>
    intro i  h1 h2
    exact absurd h1 (by omega)
  | succ d ih =>
    intro i  h1 h2 
    refine r_iload_n dX4_passes_75 0 rfl ?_
    refine r_aload_n dX4_passes_76 1 rfl ?_
    refine m_geti (v := st 10 0) hb hinX4_passes 10 (by decide) rfl dX4_passes_77 fwX4_passes_118 rfl rfl ?_
    refine rn_icmp_ge (a := i) (c := nC) (tgt := 176) dX4_passes_80 (by decide) rfl hC (by omega) (by omega) (fun c1 => ?_) (fun c1 => ?_)
    · skip
      have hNi : nC = i := by omega
      subst hNi
      exact hx
    · skip
      refine r_aload_n dX4_passes_83 1 rfl ?_
      refine m_geta hb hinX4_passes 14 (by decide) rfl dX4_passes_84 fwX4_passes_41 rfl ?_
      refine r_iload_n dX4_passes_87 0 rfl ?_
      refine r_dup2 dX4_passes_88 rfl rfl ?_
      refine m_ald (v := st 14 i) hb 14 i (by decide) dX4_passes_89 rfl (by show _ < 6; omega) (by decide) (by simp [mf, ma, upd, offA, inA]) ?_
      refine r_aload_n dX4_passes_90 1 rfl ?_
      refine m_geta hb hinX4_passes 14 (by decide) rfl dX4_passes_91 fwX4_passes_41 rfl ?_
      refine r_iload_n dX4_passes_94 0 rfl ?_
      refine m_ald (v := st 14 i) hb 14 i (by decide) dX4_passes_95 rfl (by show _ < 6; omega) (by decide) (by simp [mf, ma, upd, offA, inA]) ?_
      refine r_if_le (tgt := 103) dX4_passes_96 (by decide) (fun c2 => ?_) (fun c2 => ?_)
      · skip
        refine r_iconst (v := 0) dX4_passes_103 (by decide) ?_
        refine r_isub dX4_passes_104 ?_
        refine m_ast hb 14 i (by decide) dX4_passes_105 rfl (by show _ < 6; omega) (by decide) ?_
        refine r_aload_n dX4_passes_106 1 rfl ?_
        refine m_geta hb hinX4_passes 13 (by decide) rfl dX4_passes_107 fwX4_passes_38 rfl ?_
        refine r_iload_n dX4_passes_110 0 rfl ?_
        refine r_iload_n dX4_passes_111 0 rfl ?_
        refine r_iload_n dX4_passes_112 3 rfl ?_
        refine r_icmp_eq (tgt := 120) dX4_passes_113 (by decide) (fun c3 => ?_) (fun c3 => ?_)
        · skip
          refine r_aload_n dX4_passes_120 1 rfl ?_
          refine m_geta hb hinX4_passes 13 (by decide) rfl dX4_passes_121 fwX4_passes_38 rfl ?_
          refine r_iload_n dX4_passes_124 0 rfl ?_
          refine m_ald (v := st 13 i) hb 13 i (by decide) dX4_passes_125 rfl (by show _ < 6; omega) (by decide) (by simp [mf, ma, upd, offA, inA]) ?_
          refine r_iconst (v := 1) dX4_passes_126 (by decide) ?_
          refine r_iadd dX4_passes_127 ?_
          refine m_ast hb 13 i (by decide) dX4_passes_128 rfl (by show _ < 6; omega) (by decide) ?_
          refine r_aload_n dX4_passes_129 1 rfl ?_
          refine m_geta hb hinX4_passes 13 (by decide) rfl dX4_passes_130 fwX4_passes_38 rfl ?_
          refine r_iload_n dX4_passes_133 0 rfl ?_
          refine m_ald (v := (st 13 i) + 1) hb 13 i (by decide) dX4_passes_134 rfl (by show _ < 6; omega) (by decide) (by simp [ma, ms, upd]) ?_
          refine r_aload_n dX4_passes_135 1 rfl ?_
          refine m_geta hb hinX4_passes 11 (by decide) rfl dX4_passes_136 fwX4_passes_32 rfl ?_
          refine r_iload_n dX4_passes_139 0 rfl ?_
          refine m_ald (v := st 11 i) hb 11 i (by decide) dX4_passes_140 rfl (by show _ < 6; omega) (by decide) rfl ?_
          refine r_icmp_ne (tgt := 170) dX4_passes_141 (by decide) (fun c4 => ?_) (fun c4 => ?_)
          · skip
            refine r_iinc (v := nI (i + 1)) (lo' := [(3, .int (nI (i + 1))), (0, .ref (b 29)), (1, .int own), (2, .int cam)]) dX4_passes_170 0 rfl (nI_1 i) (by decide) rfl ?_
            refine r_goto (tgt := 75) dX4_passes_173 (by decide) ?_
            refine r_lo (lo' := [(3, .int (nI (i + 1))), (0, .ref (b 29)), (1, .int own), (2, .int cam)]) [0, 1, 2, 3] rfl ?_
            rw [pas_2 (v1 := (st 14 i) - 0) (v2 := (st 13 i) + 1) (by first | (simp only [if_neg c2, if_pos c3, if_neg c4, if_true]; done) | simp [c1, c2, c3, c4]) (by first | (simp only [if_neg c2, if_pos c3, if_neg c4, if_true]; done) | simp [c1, c2, c3, c4])]
            exact ih (i + 1) (by omega) (by omega)
          · skip
            refine r_aload_n dX4_passes_144 1 rfl ?_
            refine m_geta hb hinX4_passes 14 (by decide) rfl dX4_passes_145 fwX4_passes_41 rfl ?_
            refine r_iload_n dX4_passes_148 0 rfl ?_
            refine r_aload_n dX4_passes_149 1 rfl ?_
            refine m_geta hb hinX4_passes 12 (by decide) rfl dX4_passes_150 fwX4_passes_35 rfl ?_
            refine r_iload_n dX4_passes_153 0 rfl ?_
            refine m_ald (v := st 12 i) hb 12 i (by decide) dX4_passes_154 rfl (by show _ < 6; omega) (by decide) rfl ?_
            refine r_iconst (v := 1) dX4_passes_155 (by decide) ?_
            refine r_icmp_le (tgt := 168) dX4_passes_156 (by decide) (fun c5 => ?_) (fun c5 => ?_)
            · skip
              refine r_iconst (v := 1) dX4_passes_168 (by decide) ?_
              refine m_ast hb 14 i (by decide) dX4_passes_169 rfl (by show _ < 6; omega) (by decide) ?_
              refine r_iinc (v := nI (i + 1)) (lo' := [(3, .int (nI (i + 1))), (0, .ref (b 29)), (1, .int own), (2, .int cam)]) dX4_passes_170 0 rfl (nI_1 i) (by decide) rfl ?_
              refine r_goto (tgt := 75) dX4_passes_173 (by decide) ?_
              refine r_lo (lo' := [(3, .int (nI (i + 1))), (0, .ref (b 29)), (1, .int own), (2, .int cam)]) [0, 1, 2, 3] rfl ?_
              rw [pas_3 (v1 := (st 14 i) - 0) (v2 := (st 13 i) + 1) (v3 := 1) (by first | (simp only [if_neg c2, if_pos c3, if_pos c4, if_neg c5, if_true]; done) | simp [c1, c2, c3, c4, c5]) (by first | (simp only [if_neg c2, if_pos c3, if_pos c4, if_neg c5, if_true]; done) | simp [c1, c2, c3, c4, c5])]
              exact ih (i + 1) (by omega) (by omega)
            · skip
              refine r_aload_n dX4_passes_159 1 rfl ?_
              refine m_geta hb hinX4_passes 12 (by decide) rfl dX4_passes_160 fwX4_passes_35 rfl ?_
              refine r_iload_n dX4_passes_163 0 rfl ?_
              refine m_ald (v := st 12 i) hb 12 i (by decide) dX4_passes_164 rfl (by show _ < 6; omega) (by decide) rfl ?_
              refine r_goto (tgt := 169) dX4_passes_165 (by decide) ?_
              refine m_ast hb 14 i (by decide) dX4_passes_169 rfl (by show _ < 6; omega) (by decide) ?_
              refine r_iinc (v := nI (i + 1)) (lo' := [(3, .int (nI (i + 1))), (0, .ref (b 29)), (1, .int own), (2, .int cam)]) dX4_passes_170 0 rfl (nI_1 i) (by decide) rfl ?_
              refine r_goto (tgt := 75) dX4_passes_173 (by decide) ?_
              refine r_lo (lo' := [(3, .int (nI (i + 1))), (0, .ref (b 29)), (1, .int own), (2, .int cam)]) [0, 1, 2, 3] rfl ?_
              rw [pas_3 (v1 := (st 14 i) - 0) (v2 := (st 13 i) + 1) (v3 := st 12 i) (by first | (simp only [if_neg c2, if_pos c3, if_pos c4, if_pos c5, if_true]; done) | simp [c1, c2, c3, c4, c5]) (by first | (simp only [if_neg c2, if_pos c3, if_pos c4, if_pos c5, if_true]; done) | simp [c1, c2, c3, c4, c5])]
              exact ih (i + 1) (by omega) (by omega)
        · skip
          refine r_iconst (v := 0) dX4_passes_116 (by decide) ?_
          refine r_goto (tgt := 128) dX4_passes_117 (by decide) ?_
          refine m_ast hb 13 i (by decide) dX4_passes_128 rfl (by show _ < 6; omega) (by decide) ?_
          refine r_aload_n dX4_passes_129 1 rfl ?_
          refine m_geta hb hinX4_passes 13 (by decide) rfl dX4_passes_130 fwX4_passes_38 rfl ?_
          refine r_iload_n dX4_passes_133 0 rfl ?_
          refine m_ald (v := 0) hb 13 i (by decide) dX4_passes_134 rfl (by show _ < 6; omega) (by decide) (by simp [ma, ms, upd]) ?_
          refine r_aload_n dX4_passes_135 1 rfl ?_
          refine m_geta hb hinX4_passes 11 (by decide) rfl dX4_passes_136 fwX4_passes_32 rfl ?_
          refine r_iload_n dX4_passes_139 0 rfl ?_
          refine m_ald (v := st 11 i) hb 11 i (by decide) dX4_passes_140 rfl (by show _ < 6; omega) (by decide) rfl ?_
          refine r_icmp_ne (tgt := 170) dX4_passes_141 (by decide) (fun c6 => ?_) (fun c6 => ?_)
          · skip
            refine r_iinc (v := nI (i + 1)) (lo' := [(3, .int (nI (i + 1))), (0, .ref (b 29)), (1, .int own), (2, .int cam)]) dX4_passes_170 0 rfl (nI_1 i) (by decide) rfl ?_
            refine r_goto (tgt := 75) dX4_passes_173 (by decide) ?_
            refine r_lo (lo' := [(3, .int (nI (i + 1))), (0, .ref (b 29)), (1, .int own), (2, .int cam)]) [0, 1, 2, 3] rfl ?_
            rw [pas_2 (v1 := (st 14 i) - 0) (v2 := 0) (by first | (simp only [if_neg c2, if_neg c3, if_neg c6, if_true]; done) | simp [c1, c2, c3, c6]) (by first | (simp only [if_neg c2, if_neg c3, if_neg c6, if_true]; done) | simp [c1, c2, c3, c6])]
            exact ih (i + 1) (by omega) (by omega)
          · skip
            refine r_aload_n dX4_passes_144 1 rfl ?_
            refine m_geta hb hinX4_passes 14 (by decide) rfl dX4_passes_145 fwX4_passes_41 rfl ?_
            refine r_iload_n dX4_passes_148 0 rfl ?_
            refine r_aload_n dX4_passes_149 1 rfl ?_
            refine m_geta hb hinX4_passes 12 (by decide) rfl dX4_passes_150 fwX4_passes_35 rfl ?_
            refine r_iload_n dX4_passes_153 0 rfl ?_
            refine m_ald (v := st 12 i) hb 12 i (by decide) dX4_passes_154 rfl (by show _ < 6; omega) (by decide) rfl ?_
            refine r_iconst (v := 1) dX4_passes_155 (by decide) ?_
            refine r_icmp_le (tgt := 168) dX4_passes_156 (by decide) (fun c7 => ?_) (fun c7 => ?_)
            · skip
              refine r_iconst (v := 1) dX4_passes_168 (by decide) ?_
              refine m_ast hb 14 i (by decide) dX4_passes_169 rfl (by show _ < 6; omega) (by decide) ?_
              refine r_iinc (v := nI (i + 1)) (lo' := [(3, .int (nI (i + 1))), (0, .ref (b 29)), (1, .int own), (2, .int cam)]) dX4_passes_170 0 rfl (nI_1 i) (by decide) rfl ?_
              refine r_goto (tgt := 75) dX4_passes_173 (by decide) ?_
              refine r_lo (lo' := [(3, .int (nI (i + 1))), (0, .ref (b 29)), (1, .int own), (2, .int cam)]) [0, 1, 2, 3] rfl ?_
              rw [pas_3 (v1 := (st 14 i) - 0) (v2 := 0) (v3 := 1) (by first | (simp only [if_neg c2, if_neg c3, if_pos c6, if_neg c7, if_true]; done) | simp [c1, c2, c3, c6, c7]) (by first | (simp only [if_neg c2, if_neg c3, if_pos c6, if_neg c7, if_true]; done) | simp [c1, c2, c3, c6, c7])]
              exact ih (i + 1) (by omega) (by omega)
            · skip
              refine r_aload_n dX4_passes_159 1 rfl ?_
              refine m_geta hb hinX4_passes 12 (by decide) rfl dX4_passes_160 fwX4_passes_35 rfl ?_
              refine r_iload_n dX4_passes_163 0 rfl ?_
              refine m_ald (v := st 12 i) hb 12 i (by decide) dX4_passes_164 rfl (by show _ < 6; omega) (by decide) rfl ?_
              refine r_goto (tgt := 169) dX4_passes_165 (by decide) ?_
              refine m_ast hb 14 i (by decide) dX4_passes_169 rfl (by show _ < 6; omega) (by decide) ?_
              refine r_iinc (v := nI (i + 1)) (lo' := [(3, .int (nI (i + 1))), (0, .ref (b 29)), (1, .int own), (2, .int cam)]) dX4_passes_170 0 rfl (nI_1 i) (by decide) rfl ?_
              refine r_goto (tgt := 75) dX4_passes_173 (by decide) ?_
              refine r_lo (lo' := [(3, .int (nI (i + 1))), (0, .ref (b 29)), (1, .int own), (2, .int cam)]) [0, 1, 2, 3] rfl ?_
              rw [pas_3 (v1 := (st 14 i) - 0) (v2 := 0) (v3 := st 12 i) (by first | (simp only [if_neg c2, if_neg c3, if_pos c6, if_pos c7, if_true]; done) | simp [c1, c2, c3, c6, c7]) (by first | (simp only [if_neg c2, if_neg c3, if_pos c6, if_pos c7, if_true]; done) | simp [c1, c2, c3, c6, c7])]
              exact ih (i + 1) (by omega) (by omega)
      · skip
        refine r_iconst (v := 1) dX4_passes_99 (by decide) ?_
        refine r_goto (tgt := 104) dX4_passes_100 (by decide) ?_
        refine r_isub dX4_passes_104 ?_
        refine m_ast hb 14 i (by decide) dX4_passes_105 rfl (by show _ < 6; omega) (by decide) ?_
        refine r_aload_n dX4_passes_106 1 rfl ?_
        refine m_geta hb hinX4_passes 13 (by decide) rfl dX4_passes_107 fwX4_passes_38 rfl ?_
        refine r_iload_n dX4_passes_110 0 rfl ?_
        refine r_iload_n dX4_passes_111 0 rfl ?_
        refine r_iload_n dX4_passes_112 3 rfl ?_
        refine r_icmp_eq (tgt := 120) dX4_passes_113 (by decide) (fun c8 => ?_) (fun c8 => ?_)
        · skip
          refine r_aload_n dX4_passes_120 1 rfl ?_
          refine m_geta hb hinX4_passes 13 (by decide) rfl dX4_passes_121 fwX4_passes_38 rfl ?_
          refine r_iload_n dX4_passes_124 0 rfl ?_
          refine m_ald (v := st 13 i) hb 13 i (by decide) dX4_passes_125 rfl (by show _ < 6; omega) (by decide) (by simp [mf, ma, upd, offA, inA]) ?_
          refine r_iconst (v := 1) dX4_passes_126 (by decide) ?_
          refine r_iadd dX4_passes_127 ?_
          refine m_ast hb 13 i (by decide) dX4_passes_128 rfl (by show _ < 6; omega) (by decide) ?_
          refine r_aload_n dX4_passes_129 1 rfl ?_
          refine m_geta hb hinX4_passes 13 (by decide) rfl dX4_passes_130 fwX4_passes_38 rfl ?_
          refine r_iload_n dX4_passes_133 0 rfl ?_
          refine m_ald (v := (st 13 i) + 1) hb 13 i (by decide) dX4_passes_134 rfl (by show _ < 6; omega) (by decide) (by simp [ma, ms, upd]) ?_
          refine r_aload_n dX4_passes_135 1 rfl ?_
          refine m_geta hb hinX4_passes 11 (by decide) rfl dX4_passes_136 fwX4_passes_32 rfl ?_
          refine r_iload_n dX4_passes_139 0 rfl ?_
          refine m_ald (v := st 11 i) hb 11 i (by decide) dX4_passes_140 rfl (by show _ < 6; omega) (by decide) rfl ?_
          refine r_icmp_ne (tgt := 170) dX4_passes_141 (by decide) (fun c9 => ?_) (fun c9 => ?_)
          · skip
            refine r_iinc (v := nI (i + 1)) (lo' := [(3, .int (nI (i + 1))), (0, .ref (b 29)), (1, .int own), (2, .int cam)]) dX4_passes_170 0 rfl (nI_1 i) (by decide) rfl ?_
            refine r_goto (tgt := 75) dX4_passes_173 (by decide) ?_
            refine r_lo (lo' := [(3, .int (nI (i + 1))), (0, .ref (b 29)), (1, .int own), (2, .int cam)]) [0, 1, 2, 3] rfl ?_
            rw [pas_2 (v1 := (st 14 i) - 1) (v2 := (st 13 i) + 1) (by first | (simp only [if_pos c2, if_pos c8, if_neg c9, if_true]; done) | simp [c1, c2, c8, c9]) (by first | (simp only [if_pos c2, if_pos c8, if_neg c9, if_true]; done) | simp [c1, c2, c8, c9])]
            exact ih (i + 1) (by omega) (by omega)
          · skip
            refine r_aload_n dX4_passes_144 1 rfl ?_
            refine m_geta hb hinX4_passes 14 (by decide) rfl dX4_passes_145 fwX4_passes_41 rfl ?_
            refine r_iload_n dX4_passes_148 0 rfl ?_
            refine r_aload_n dX4_passes_149 1 rfl ?_
            refine m_geta hb hinX4_passes 12 (by decide) rfl dX4_passes_150 fwX4_passes_35 rfl ?_
            refine r_iload_n dX4_passes_153 0 rfl ?_
            refine m_ald (v := st 12 i) hb 12 i (by decide) dX4_passes_154 rfl (by show _ < 6; omega) (by decide) rfl ?_
            refine r_iconst (v := 1) dX4_passes_155 (by decide) ?_
            refine r_icmp_le (tgt := 168) dX4_passes_156 (by decide) (fun c10 => ?_) (fun c10 => ?_)
            · skip
              refine r_iconst (v := 1) dX4_passes_168 (by decide) ?_
              refine m_ast hb 14 i (by decide) dX4_passes_169 rfl (by show _ < 6; omega) (by decide) ?_
              refine r_iinc (v := nI (i + 1)) (lo' := [(3, .int (nI (i + 1))), (0, .ref (b 29)), (1, .int own), (2, .int cam)]) dX4_passes_170 0 rfl (nI_1 i) (by decide) rfl ?_
              refine r_goto (tgt := 75) dX4_passes_173 (by decide) ?_
              refine r_lo (lo' := [(3, .int (nI (i + 1))), (0, .ref (b 29)), (1, .int own), (2, .int cam)]) [0, 1, 2, 3] rfl ?_
              rw [pas_3 (v1 := (st 14 i) - 1) (v2 := (st 13 i) + 1) (v3 := 1) (by first | (simp only [if_pos c2, if_pos c8, if_pos c9, if_neg c10, if_true]; done) | simp [c1, c2, c8, c9, c10]) (by first | (simp only [if_pos c2, if_pos c8, if_pos c9, if_neg c10, if_true]; done) | simp [c1, c2, c8, c9, c10])]
              exact ih (i + 1) (by omega) (by omega)
            · skip
              refine r_aload_n dX4_passes_159 1 rfl ?_
              refine m_geta hb hinX4_passes 12 (by decide) rfl dX4_passes_160 fwX4_passes_35 rfl ?_
              refine r_iload_n dX4_passes_163 0 rfl ?_
              refine m_ald (v := st 12 i) hb 12 i (by decide) dX4_passes_164 rfl (by show _ < 6; omega) (by decide) rfl ?_
              refine r_goto (tgt := 169) dX4_passes_165 (by decide) ?_
              refine m_ast hb 14 i (by decide) dX4_passes_169 rfl (by show _ < 6; omega) (by decide) ?_
              refine r_iinc (v := nI (i + 1)) (lo' := [(3, .int (nI (i + 1))), (0, .ref (b 29)), (1, .int own), (2, .int cam)]) dX4_passes_170 0 rfl (nI_1 i) (by decide) rfl ?_
              refine r_goto (tgt := 75) dX4_passes_173 (by decide) ?_
              refine r_lo (lo' := [(3, .int (nI (i + 1))), (0, .ref (b 29)), (1, .int own), (2, .int cam)]) [0, 1, 2, 3] rfl ?_
              rw [pas_3 (v1 := (st 14 i) - 1) (v2 := (st 13 i) + 1) (v3 := st 12 i) (by first | (simp only [if_pos c2, if_pos c8, if_pos c9, if_pos c10, if_true]; done) | simp [c1, c2, c8, c9, c10]) (by first | (simp only [if_pos c2, if_pos c8, if_pos c9, if_pos c10, if_true]; done) | simp [c1, c2, c8, c9, c10])]
              exact ih (i + 1) (by omega) (by omega)
        · skip
          refine r_iconst (v := 0) dX4_passes_116 (by decide) ?_
          refine r_goto (tgt := 128) dX4_passes_117 (by decide) ?_
          refine m_ast hb 13 i (by decide) dX4_passes_128 rfl (by show _ < 6; omega) (by decide) ?_
          refine r_aload_n dX4_passes_129 1 rfl ?_
          refine m_geta hb hinX4_passes 13 (by decide) rfl dX4_passes_130 fwX4_passes_38 rfl ?_
          refine r_iload_n dX4_passes_133 0 rfl ?_
          refine m_ald (v := 0) hb 13 i (by decide) dX4_passes_134 rfl (by show _ < 6; omega) (by decide) (by simp [ma, ms, upd]) ?_
          refine r_aload_n dX4_passes_135 1 rfl ?_
          refine m_geta hb hinX4_passes 11 (by decide) rfl dX4_passes_136 fwX4_passes_32 rfl ?_
          refine r_iload_n dX4_passes_139 0 rfl ?_
          refine m_ald (v := st 11 i) hb 11 i (by decide) dX4_passes_140 rfl (by show _ < 6; omega) (by decide) rfl ?_
          refine r_icmp_ne (tgt := 170) dX4_passes_141 (by decide) (fun c11 => ?_) (fun c11 => ?_)
          · skip
            refine r_iinc (v := nI (i + 1)) (lo' := [(3, .int (nI (i + 1))), (0, .ref (b 29)), (1, .int own), (2, .int cam)]) dX4_passes_170 0 rfl (nI_1 i) (by decide) rfl ?_
            refine r_goto (tgt := 75) dX4_passes_173 (by decide) ?_
            refine r_lo (lo' := [(3, .int (nI (i + 1))), (0, .ref (b 29)), (1, .int own), (2, .int cam)]) [0, 1, 2, 3] rfl ?_
            rw [pas_2 (v1 := (st 14 i) - 1) (v2 := 0) (by first | (simp only [if_pos c2, if_neg c8, if_neg c11, if_true]; done) | simp [c1, c2, c8, c11]) (by first | (simp only [if_pos c2, if_neg c8, if_neg c11, if_true]; done) | simp [c1, c2, c8, c11])]
            exact ih (i + 1) (by omega) (by omega)
          · skip
            refine r_aload_n dX4_passes_144 1 rfl ?_
            refine m_geta hb hinX4_passes 14 (by decide) rfl dX4_passes_145 fwX4_passes_41 rfl ?_
            refine r_iload_n dX4_passes_148 0 rfl ?_
            refine r_aload_n dX4_passes_149 1 rfl ?_
            refine m_geta hb hinX4_passes 12 (by decide) rfl dX4_passes_150 fwX4_passes_35 rfl ?_
            refine r_iload_n dX4_passes_153 0 rfl ?_
            refine m_ald (v := st 12 i) hb 12 i (by decide) dX4_passes_154 rfl (by show _ < 6; omega) (by decide) rfl ?_
            refine r_iconst (v := 1) dX4_passes_155 (by decide) ?_
            refine r_icmp_le (tgt := 168) dX4_passes_156 (by decide) (fun c12 => ?_) (fun c12 => ?_)
            · skip
              refine r_iconst (v := 1) dX4_passes_168 (by decide) ?_
              refine m_ast hb 14 i (by decide) dX4_passes_169 rfl (by show _ < 6; omega) (by decide) ?_
              refine r_iinc (v := nI (i + 1)) (lo' := [(3, .int (nI (i + 1))), (0, .ref (b 29)), (1, .int own), (2, .int cam)]) dX4_passes_170 0 rfl (nI_1 i) (by decide) rfl ?_
              refine r_goto (tgt := 75) dX4_passes_173 (by decide) ?_
              refine r_lo (lo' := [(3, .int (nI (i + 1))), (0, .ref (b 29)), (1, .int own), (2, .int cam)]) [0, 1, 2, 3] rfl ?_
              rw [pas_3 (v1 := (st 14 i) - 1) (v2 := 0) (v3 := 1) (by first | (simp only [if_pos c2, if_neg c8, if_pos c11, if_neg c12, if_true]; done) | simp [c1, c2, c8, c11, c12]) (by first | (simp only [if_pos c2, if_neg c8, if_pos c11, if_neg c12, if_true]; done) | simp [c1, c2, c8, c11, c12])]
              exact ih (i + 1) (by omega) (by omega)
            · skip
              refine r_aload_n dX4_passes_159 1 rfl ?_
              refine m_geta hb hinX4_passes 12 (by decide) rfl dX4_passes_160 fwX4_passes_35 rfl ?_
              refine r_iload_n dX4_passes_163 0 rfl ?_
              refine m_ald (v := st 12 i) hb 12 i (by decide) dX4_passes_164 rfl (by show _ < 6; omega) (by decide) rfl ?_
              refine r_goto (tgt := 169) dX4_passes_165 (by decide) ?_
              refine m_ast hb 14 i (by decide) dX4_passes_169 rfl (by show _ < 6; omega) (by decide) ?_
              refine r_iinc (v := nI (i + 1)) (lo' := [(3, .int (nI (i + 1))), (0, .ref (b 29)), (1, .int own), (2, .int cam)]) dX4_passes_170 0 rfl (nI_1 i) (by decide) rfl ?_
              refine r_goto (tgt := 75) dX4_passes_173 (by decide) ?_
              refine r_lo (lo' := [(3, .int (nI (i + 1))), (0, .ref (b 29)), (1, .int own), (2, .int cam)]) [0, 1, 2, 3] rfl ?_
              rw [pas_3 (v1 := (st 14 i) - 1) (v2 := 0) (v3 := st 12 i) (by first | (simp only [if_pos c2, if_neg c8, if_pos c11, if_pos c12, if_true]; done) | simp [c1, c2, c8, c11, c12]) (by first | (simp only [if_pos c2, if_neg c8, if_pos c11, if_pos c12, if_true]; done) | simp [c1, c2, c8, c11, c12])]
              exact ih (i + 1) (by omega) (by omega)

set_option maxHeartbeats 4000000 in
set_option maxRecDepth 100000 in
theorem tX4_passes {E : kE} {b : Nat → Nat} (hb : binj b) (st : kM) (h0 : kH) (nF nC nE w : Nat) (hwf : mwf st nF nC nE w) (hw : w < 3000) : kCv E yX4_passes wsX4_passes rmX4_passes 0 0 [.ref (b 29)] (ov E b st h0) (fun h' => h' = ov E b (mpasses st nF nC nE w) h0) := by
  obtain ⟨hF, hF20, hC, hC6, hE, hE80, hW, hW3, hpl, hof, hon, hsl⟩ := id hwf
  refine kCv_of (own := RX4) (cc := cX4_passes) (maxL := 4) (by decide) rfl rfl (Nat.le_of_ble_eq_true rfl) ?_
  intro X _ kret
  refine r_lo (lo' := [(0, .ref (b 29))]) [0] rfl ?_
  refine r_aload_n dX4_passes_0 0 rfl ?_
  refine r_callVi (nn := 0) (As := []) (st := []) dX4_passes_1 (tX4_hottest hb st h0 nF nC nE w hwf) gX4_passes_X4_hottest rfl (by decide +kernel) ⟨Nat.le_of_ble_eq_true rfl, Nat.le_of_ble_eq_true rfl⟩ ⟨rfl, rfl⟩ (ov_obj hb _ _) rfl rfl (Nat.le_of_ble_eq_true rfl) ⟨Nat.le_of_ble_eq_true rfl, Nat.le_of_ble_eq_true rfl⟩ rfl (fun r hh hp => ?_)
  obtain ⟨e7, rfl⟩ := hp
  obtain ⟨ow, eow⟩ : ∃ z, z = r := ⟨_, rfl⟩
  rw [← eow] at e7 ⊢
  refine r_istore_n (lo' := [(1, .int ow), (0, .ref (b 29))]) dX4_passes_4 (by decide) rfl ?_
  refine r_iload_n dX4_passes_5 0 rfl ?_
  refine r_iconst (v := (-1)) dX4_passes_6 (by decide) ?_
  refine r_icmp_ne (tgt := 14) dX4_passes_7 (by decide) (fun c1 => ?_) (fun c1 => ?_)
  · skip
    refine r_aload_n dX4_passes_14 1 rfl ?_
    refine r_callVi (nn := 0) (As := []) (st := []) dX4_passes_15 (tX4_chosen hb st h0 nF nC nE w hwf) gX4_passes_X4_chosen rfl (by decide +kernel) ⟨Nat.le_of_ble_eq_true rfl, Nat.le_of_ble_eq_true rfl⟩ ⟨rfl, rfl⟩ (ov_obj hb _ _) rfl rfl (Nat.le_of_ble_eq_true rfl) ⟨Nat.le_of_ble_eq_true rfl, Nat.le_of_ble_eq_true rfl⟩ rfl (fun r hh hp => ?_)
    obtain ⟨e8, rfl⟩ := hp
    obtain ⟨cm, ecm⟩ : ∃ z, z = r := ⟨_, rfl⟩
    rw [← ecm] at e8 ⊢
    refine r_istore_n (lo' := [(2, .int cm), (1, .int ow), (0, .ref (b 29))]) dX4_passes_18 (by decide) rfl ?_
    refine r_iload_n dX4_passes_19 0 rfl ?_
    refine r_iconst (v := (-1)) dX4_passes_20 (by decide) ?_
    refine r_icmp_ne (tgt := 28) dX4_passes_21 (by decide) (fun c2 => ?_) (fun c2 => ?_)
    · skip
      refine r_iload_n dX4_passes_28 1 rfl ?_
      refine r_istore_n (lo' := [(1, .int ow), (2, .int cm), (0, .ref (b 29))]) dX4_passes_29 (by decide) rfl ?_
      refine r_aload_n dX4_passes_30 2 rfl ?_
      refine m_geta hb hinX4_passes 17 (by decide) rfl dX4_passes_31 fwX4_passes_50 rfl ?_
      refine r_aload_n dX4_passes_34 2 rfl ?_
      refine m_geti (v := nI w) hb hinX4_passes 1 (by decide) rfl dX4_passes_35 fwX4_passes_115 rfl hW ?_
      refine r_iload_n dX4_passes_38 0 rfl ?_
      refine m_ast hb 17 w (by decide) dX4_passes_39 rfl (by show _ < 3000; omega) (by decide) ?_
      refine r_aload_n dX4_passes_40 2 rfl ?_
      refine m_geta hb hinX4_passes 18 (by decide) rfl dX4_passes_41 fwX4_passes_53 rfl ?_
      refine r_aload_n dX4_passes_44 2 rfl ?_
      refine m_geti (v := nI w) hb hinX4_passes 1 (by decide) rfl dX4_passes_45 fwX4_passes_115 rfl hW ?_
      refine r_iload_n dX4_passes_48 1 rfl ?_
      refine m_ast hb 18 w (by decide) dX4_passes_49 rfl (by show _ < 3000; omega) (by decide) ?_
      refine r_aload_n dX4_passes_50 2 rfl ?_
      refine m_geta hb hinX4_passes 19 (by decide) rfl dX4_passes_51 fwX4_passes_56 rfl ?_
      refine r_aload_n dX4_passes_54 2 rfl ?_
      refine m_geti (v := nI w) hb hinX4_passes 1 (by decide) rfl dX4_passes_55 fwX4_passes_115 rfl hW ?_
      refine r_iload_n dX4_passes_58 0 rfl ?_
      refine r_iconst (v := (-1)) dX4_passes_59 (by decide) ?_
      refine r_icmp_ne (tgt := 67) dX4_passes_60 (by decide) (fun c3 => ?_) (fun c3 => ?_)
      · skip
        refine r_aload_n dX4_passes_67 2 rfl ?_
        refine r_iload_n dX4_passes_68 0 rfl ?_
        refine r_callVi (nn := 1) (As := [.int ow]) (st := [.int (nI w), .ref (b 19)]) dX4_passes_69 (tX4_sponsorFor hb (ma (ma st 17 w ow) 18 w cm) h0 nF nC nE w hwf ow (hot_in e7 (Nat.le_refl _) (by assumption))) gX4_passes_X4_sponsorFor rfl (by decide +kernel) ⟨Nat.le_of_ble_eq_true rfl, Nat.le_of_ble_eq_true rfl⟩ ⟨rfl, rfl⟩ (ov_obj hb _ _) rfl rfl (Nat.le_of_ble_eq_true rfl) ⟨Nat.le_of_ble_eq_true rfl, Nat.le_of_ble_eq_true rfl⟩ rfl (fun r hh hp => ?_)
        obtain ⟨rfl, rfl⟩ := hp
        refine m_ast hb 19 w (by decide) dX4_passes_72 rfl (by show _ < 3000; omega) (by decide) ?_
        refine r_iconst (v := 0) dX4_passes_73 (by decide) ?_
        refine r_istore_n (lo' := [(3, .int 0), (1, .int ow), (2, .int cm), (0, .ref (b 29))]) dX4_passes_74 (by decide) rfl ?_
        refine r_lo (lo' := [(3, .int 0), (0, .ref (b 29)), (1, .int ow), (2, .int cm)]) [0, 3, 1, 2] rfl ?_
        rw [← pas_0 (ma (ma (ma st 17 w ow) 18 w cm) 19 w (mspo (ma (ma st 17 w ow) 18 w cm) w ow)) cm]
        refine lX4_passes_75 hb (st := (ma (ma (ma st 17 w ow) 18 w cm) 19 w (mspo (ma (ma st 17 w ow) 18 w cm) w ow))) nF nC nE w hwf hw ow cm ?_ (nC + 1) 0 (by omega) (Nat.zero_le _)
        refine r_aload_n dX4_passes_176 1 rfl ?_
        refine r_iload_n dX4_passes_177 2 rfl ?_
        refine m_puti hb hinX4_passes 16 (by decide) rfl dX4_passes_178 fwX4_passes_47 rfl rfl rfl ?_
        refine r_aload_n dX4_passes_181 1 rfl ?_
        refine r_iload_n dX4_passes_182 3 rfl ?_
        refine m_puti hb hinX4_passes 15 (by decide) rfl dX4_passes_183 fwX4_passes_44 rfl rfl rfl ?_
        refine r_aload_n dX4_passes_186 1 rfl ?_
        refine r_dup dX4_passes_187 rfl ?_
        refine m_geti (v := nI w) hb hinX4_passes 1 (by decide) rfl dX4_passes_188 fwX4_passes_115 rfl hW ?_
        refine r_iconst (v := 1) dX4_passes_191 (by decide) ?_
        refine r_iadd dX4_passes_192 ?_
        rw [show (nI w) + 1 = nI (w + 1) from nI_add w 1]
        refine m_puti hb hinX4_passes 1 (by decide) rfl dX4_passes_193 fwX4_passes_115 rfl rfl rfl ?_
        refine r_aload_n dX4_passes_196 1 rfl ?_
        refine r_callVv (nn := 0) (As := []) (st := []) dX4_passes_197 (tX4_see hb (ms (ms (ms (mf (mf (ma (ma (ma st 17 w ow) 18 w cm) 19 w (mspo (ma (ma st 17 w ow) 18 w cm) w ow)) 14 (offA (ma (ma (ma st 17 w ow) 18 w cm) 19 w (mspo (ma (ma st 17 w ow) 18 w cm) w ow)) cm nC)) 13 (inA (ma (ma (ma st 17 w ow) 18 w cm) 19 w (mspo (ma (ma st 17 w ow) 18 w cm) w ow)) cm nC)) 16 ow) 15 cm) 1 (nI (w + 1))) h0) gX4_passes_X4_see rfl (by decide +kernel) ⟨Nat.le_of_ble_eq_true rfl, Nat.le_of_ble_eq_true rfl⟩ ⟨rfl, rfl⟩ (ov_obj hb _ _) rfl rfl (Nat.le_of_ble_eq_true rfl) ⟨Nat.le_of_ble_eq_true rfl, Nat.le_of_ble_eq_true rfl⟩ rfl (fun hh hp => ?_)
        subst hp
        exact kret _ _ _ _ _ (Nat.le_refl _) (Nat.le_refl _) dX4_passes_200 (by first | (rw [mpasses]; simp only [mpS, ← e7, ← e8, if_neg c1, if_neg c2, if_neg c3, if_true]; done) | exact absurd (by assumption) (by assumption : ¬ ow = -1))
      · skip
        refine r_iconst (v := (-1)) dX4_passes_63 (by decide) ?_
        refine r_goto (tgt := 72) dX4_passes_64 (by decide) ?_
        refine m_ast hb 19 w (by decide) dX4_passes_72 rfl (by show _ < 3000; omega) (by decide) ?_
        refine r_iconst (v := 0) dX4_passes_73 (by decide) ?_
        refine r_istore_n (lo' := [(3, .int 0), (1, .int ow), (2, .int cm), (0, .ref (b 29))]) dX4_passes_74 (by decide) rfl ?_
        refine r_lo (lo' := [(3, .int 0), (0, .ref (b 29)), (1, .int ow), (2, .int cm)]) [0, 3, 1, 2] rfl ?_
        rw [← pas_0 (ma (ma (ma st 17 w ow) 18 w cm) 19 w (-1)) cm]
        refine lX4_passes_75 hb (st := (ma (ma (ma st 17 w ow) 18 w cm) 19 w (-1))) nF nC nE w hwf hw ow cm ?_ (nC + 1) 0 (by omega) (Nat.zero_le _)
        refine r_aload_n dX4_passes_176 1 rfl ?_
        refine r_iload_n dX4_passes_177 2 rfl ?_
        refine m_puti hb hinX4_passes 16 (by decide) rfl dX4_passes_178 fwX4_passes_47 rfl rfl rfl ?_
        refine r_aload_n dX4_passes_181 1 rfl ?_
        refine r_iload_n dX4_passes_182 3 rfl ?_
        refine m_puti hb hinX4_passes 15 (by decide) rfl dX4_passes_183 fwX4_passes_44 rfl rfl rfl ?_
        refine r_aload_n dX4_passes_186 1 rfl ?_
        refine r_dup dX4_passes_187 rfl ?_
        refine m_geti (v := nI w) hb hinX4_passes 1 (by decide) rfl dX4_passes_188 fwX4_passes_115 rfl hW ?_
        refine r_iconst (v := 1) dX4_passes_191 (by decide) ?_
        refine r_iadd dX4_passes_192 ?_
        rw [show (nI w) + 1 = nI (w + 1) from nI_add w 1]
        refine m_puti hb hinX4_passes 1 (by decide) rfl dX4_passes_193 fwX4_passes_115 rfl rfl rfl ?_
        refine r_aload_n dX4_passes_196 1 rfl ?_
        refine r_callVv (nn := 0) (As := []) (st := []) dX4_passes_197 (tX4_see hb (ms (ms (ms (mf (mf (ma (ma (ma st 17 w ow) 18 w cm) 19 w (-1)) 14 (offA (ma (ma (ma st 17 w ow) 18 w cm) 19 w (-1)) cm nC)) 13 (inA (ma (ma (ma st 17 w ow) 18 w cm) 19 w (-1)) cm nC)) 16 ow) 15 cm) 1 (nI (w + 1))) h0) gX4_passes_X4_see rfl (by decide +kernel) ⟨Nat.le_of_ble_eq_true rfl, Nat.le_of_ble_eq_true rfl⟩ ⟨rfl, rfl⟩ (ov_obj hb _ _) rfl rfl (Nat.le_of_ble_eq_true rfl) ⟨Nat.le_of_ble_eq_true rfl, Nat.le_of_ble_eq_true rfl⟩ rfl (fun hh hp => ?_)
        subst hp
        exact kret _ _ _ _ _ (Nat.le_refl _) (Nat.le_refl _) dX4_passes_200 (by first | (rw [mpasses]; simp only [mpS, ← e7, ← e8, if_neg c1, if_neg c2, if_pos c3, if_true]; done) | exact absurd (by assumption) (by assumption : ¬ ow = -1))
    · skip
      refine r_iconst (v := (-1)) dX4_passes_24 (by decide) ?_
      refine r_goto (tgt := 29) dX4_passes_25 (by decide) ?_
      refine r_istore_n (lo' := [(1, .int (-1)), (2, .int cm), (0, .ref (b 29))]) dX4_passes_29 (by decide) rfl ?_
      refine r_aload_n dX4_passes_30 2 rfl ?_
      refine m_geta hb hinX4_passes 17 (by decide) rfl dX4_passes_31 fwX4_passes_50 rfl ?_
      refine r_aload_n dX4_passes_34 2 rfl ?_
      refine m_geti (v := nI w) hb hinX4_passes 1 (by decide) rfl dX4_passes_35 fwX4_passes_115 rfl hW ?_
      refine r_iload_n dX4_passes_38 0 rfl ?_
      refine m_ast hb 17 w (by decide) dX4_passes_39 rfl (by show _ < 3000; omega) (by decide) ?_
      refine r_aload_n dX4_passes_40 2 rfl ?_
      refine m_geta hb hinX4_passes 18 (by decide) rfl dX4_passes_41 fwX4_passes_53 rfl ?_
      refine r_aload_n dX4_passes_44 2 rfl ?_
      refine m_geti (v := nI w) hb hinX4_passes 1 (by decide) rfl dX4_passes_45 fwX4_passes_115 rfl hW ?_
      refine r_iload_n dX4_passes_48 1 rfl ?_
      refine m_ast hb 18 w (by decide) dX4_passes_49 rfl (by show _ < 3000; omega) (by decide) ?_
      refine r_aload_n dX4_passes_50 2 rfl ?_
      refine m_geta hb hinX4_passes 19 (by decide) rfl dX4_passes_51 fwX4_passes_56 rfl ?_
      refine r_aload_n dX4_passes_54 2 rfl ?_
      refine m_geti (v := nI w) hb hinX4_passes 1 (by decide) rfl dX4_passes_55 fwX4_passes_115 rfl hW ?_
      refine r_iload_n dX4_passes_58 0 rfl ?_
      refine r_iconst (v := (-1)) dX4_passes_59 (by decide) ?_
      refine r_icmp_ne (tgt := 67) dX4_passes_60 (by decide) (fun z => absurd z (by decide)) (fun _ => ?_)
      refine r_iconst (v := (-1)) dX4_passes_63 (by decide) ?_
      refine r_goto (tgt := 72) dX4_passes_64 (by decide) ?_
      refine m_ast hb 19 w (by decide) dX4_passes_72 rfl (by show _ < 3000; omega) (by decide) ?_
      refine r_iconst (v := 0) dX4_passes_73 (by decide) ?_
      refine r_istore_n (lo' := [(3, .int 0), (1, .int (-1)), (2, .int cm), (0, .ref (b 29))]) dX4_passes_74 (by decide) rfl ?_
      refine r_lo (lo' := [(3, .int 0), (0, .ref (b 29)), (1, .int (-1)), (2, .int cm)]) [0, 3, 1, 2] rfl ?_
      rw [← pas_0 (ma (ma (ma st 17 w (-1)) 18 w cm) 19 w (-1)) cm]
      refine lX4_passes_75 hb (st := (ma (ma (ma st 17 w (-1)) 18 w cm) 19 w (-1))) nF nC nE w hwf hw (-1) cm ?_ (nC + 1) 0 (by omega) (Nat.zero_le _)
      refine r_aload_n dX4_passes_176 1 rfl ?_
      refine r_iload_n dX4_passes_177 2 rfl ?_
      refine m_puti hb hinX4_passes 16 (by decide) rfl dX4_passes_178 fwX4_passes_47 rfl rfl rfl ?_
      refine r_aload_n dX4_passes_181 1 rfl ?_
      refine r_iload_n dX4_passes_182 3 rfl ?_
      refine m_puti hb hinX4_passes 15 (by decide) rfl dX4_passes_183 fwX4_passes_44 rfl rfl rfl ?_
      refine r_aload_n dX4_passes_186 1 rfl ?_
      refine r_dup dX4_passes_187 rfl ?_
      refine m_geti (v := nI w) hb hinX4_passes 1 (by decide) rfl dX4_passes_188 fwX4_passes_115 rfl hW ?_
      refine r_iconst (v := 1) dX4_passes_191 (by decide) ?_
      refine r_iadd dX4_passes_192 ?_
      rw [show (nI w) + 1 = nI (w + 1) from nI_add w 1]
      refine m_puti hb hinX4_passes 1 (by decide) rfl dX4_passes_193 fwX4_passes_115 rfl rfl rfl ?_
      refine r_aload_n dX4_passes_196 1 rfl ?_
      refine r_callVv (nn := 0) (As := []) (st := []) dX4_passes_197 (tX4_see hb (ms (ms (ms (mf (mf (ma (ma (ma st 17 w (-1)) 18 w cm) 19 w (-1)) 14 (offA (ma (ma (ma st 17 w (-1)) 18 w cm) 19 w (-1)) cm nC)) 13 (inA (ma (ma (ma st 17 w (-1)) 18 w cm) 19 w (-1)) cm nC)) 16 (-1)) 15 cm) 1 (nI (w + 1))) h0) gX4_passes_X4_see rfl (by decide +kernel) ⟨Nat.le_of_ble_eq_true rfl, Nat.le_of_ble_eq_true rfl⟩ ⟨rfl, rfl⟩ (ov_obj hb _ _) rfl rfl (Nat.le_of_ble_eq_true rfl) ⟨Nat.le_of_ble_eq_true rfl, Nat.le_of_ble_eq_true rfl⟩ rfl (fun hh hp => ?_)
      subst hp
      exact kret _ _ _ _ _ (Nat.le_refl _) (Nat.le_refl _) dX4_passes_200 (by first | (rw [mpasses]; simp only [mpS, ← e7, ← e8, if_neg c1, if_pos c2, if_true]; done) | exact absurd (by assumption) (by assumption : ¬ ow = -1))
  · skip
    refine r_iconst (v := (-1)) dX4_passes_10 (by decide) ?_
    refine r_goto (tgt := 18) dX4_passes_11 (by decide) ?_
    refine r_istore_n (lo' := [(2, .int (-1)), (1, .int ow), (0, .ref (b 29))]) dX4_passes_18 (by decide) rfl ?_
    refine r_iload_n dX4_passes_19 0 rfl ?_
    refine r_iconst (v := (-1)) dX4_passes_20 (by decide) ?_
    refine r_icmp_ne (tgt := 28) dX4_passes_21 (by decide) (fun z => absurd z (by decide)) (fun _ => ?_)
    refine r_iconst (v := (-1)) dX4_passes_24 (by decide) ?_
    refine r_goto (tgt := 29) dX4_passes_25 (by decide) ?_
    refine r_istore_n (lo' := [(1, .int (-1)), (2, .int (-1)), (0, .ref (b 29))]) dX4_passes_29 (by decide) rfl ?_
    refine r_aload_n dX4_passes_30 2 rfl ?_
    refine m_geta hb hinX4_passes 17 (by decide) rfl dX4_passes_31 fwX4_passes_50 rfl ?_
    refine r_aload_n dX4_passes_34 2 rfl ?_
    refine m_geti (v := nI w) hb hinX4_passes 1 (by decide) rfl dX4_passes_35 fwX4_passes_115 rfl hW ?_
    refine r_iload_n dX4_passes_38 0 rfl ?_
    refine m_ast hb 17 w (by decide) dX4_passes_39 rfl (by show _ < 3000; omega) (by decide) ?_
    refine r_aload_n dX4_passes_40 2 rfl ?_
    refine m_geta hb hinX4_passes 18 (by decide) rfl dX4_passes_41 fwX4_passes_53 rfl ?_
    refine r_aload_n dX4_passes_44 2 rfl ?_
    refine m_geti (v := nI w) hb hinX4_passes 1 (by decide) rfl dX4_passes_45 fwX4_passes_115 rfl hW ?_
    refine r_iload_n dX4_passes_48 1 rfl ?_
    refine m_ast hb 18 w (by decide) dX4_passes_49 rfl (by show _ < 3000; omega) (by decide) ?_
    refine r_aload_n dX4_passes_50 2 rfl ?_
    refine m_geta hb hinX4_passes 19 (by decide) rfl dX4_passes_51 fwX4_passes_56 rfl ?_
    refine r_aload_n dX4_passes_54 2 rfl ?_
    refine m_geti (v := nI w) hb hinX4_passes 1 (by decide) rfl dX4_passes_55 fwX4_passes_115 rfl hW ?_
    refine r_iload_n dX4_passes_58 0 rfl ?_
    refine r_iconst (v := (-1)) dX4_passes_59 (by decide) ?_
    refine r_icmp_ne (tgt := 67) dX4_passes_60 (by decide) (fun z => absurd z (by decide)) (fun _ => ?_)
    refine r_iconst (v := (-1)) dX4_passes_63 (by decide) ?_
    refine r_goto (tgt := 72) dX4_passes_64 (by decide) ?_
    refine m_ast hb 19 w (by decide) dX4_passes_72 rfl (by show _ < 3000; omega) (by decide) ?_
    refine r_iconst (v := 0) dX4_passes_73 (by decide) ?_
    refine r_istore_n (lo' := [(3, .int 0), (1, .int (-1)), (2, .int (-1)), (0, .ref (b 29))]) dX4_passes_74 (by decide) rfl ?_
    refine r_lo (lo' := [(3, .int 0), (0, .ref (b 29)), (1, .int (-1)), (2, .int (-1))]) [0, 3, 1, 2] rfl ?_
    rw [← pas_0 (ma (ma (ma st 17 w (-1)) 18 w (-1)) 19 w (-1)) (-1)]
    refine lX4_passes_75 hb (st := (ma (ma (ma st 17 w (-1)) 18 w (-1)) 19 w (-1))) nF nC nE w hwf hw (-1) (-1) ?_ (nC + 1) 0 (by omega) (Nat.zero_le _)
    refine r_aload_n dX4_passes_176 1 rfl ?_
    refine r_iload_n dX4_passes_177 2 rfl ?_
    refine m_puti hb hinX4_passes 16 (by decide) rfl dX4_passes_178 fwX4_passes_47 rfl rfl rfl ?_
    refine r_aload_n dX4_passes_181 1 rfl ?_
    refine r_iload_n dX4_passes_182 3 rfl ?_
    refine m_puti hb hinX4_passes 15 (by decide) rfl dX4_passes_183 fwX4_passes_44 rfl rfl rfl ?_
    refine r_aload_n dX4_passes_186 1 rfl ?_
    refine r_dup dX4_passes_187 rfl ?_
    refine m_geti (v := nI w) hb hinX4_passes 1 (by decide) rfl dX4_passes_188 fwX4_passes_115 rfl hW ?_
    refine r_iconst (v := 1) dX4_passes_191 (by decide) ?_
    refine r_iadd dX4_passes_192 ?_
    rw [show (nI w) + 1 = nI (w + 1) from nI_add w 1]
    refine m_puti hb hinX4_passes 1 (by decide) rfl dX4_passes_193 fwX4_passes_115 rfl rfl rfl ?_
    refine r_aload_n dX4_passes_196 1 rfl ?_
    refine r_callVv (nn := 0) (As := []) (st := []) dX4_passes_197 (tX4_see hb (ms (ms (ms (mf (mf (ma (ma (ma st 17 w (-1)) 18 w (-1)) 19 w (-1)) 14 (offA (ma (ma (ma st 17 w (-1)) 18 w (-1)) 19 w (-1)) (-1) nC)) 13 (inA (ma (ma (ma st 17 w (-1)) 18 w (-1)) 19 w (-1)) (-1) nC)) 16 (-1)) 15 (-1)) 1 (nI (w + 1))) h0) gX4_passes_X4_see rfl (by decide +kernel) ⟨Nat.le_of_ble_eq_true rfl, Nat.le_of_ble_eq_true rfl⟩ ⟨rfl, rfl⟩ (ov_obj hb _ _) rfl rfl (Nat.le_of_ble_eq_true rfl) ⟨Nat.le_of_ble_eq_true rfl, Nat.le_of_ble_eq_true rfl⟩ rfl (fun hh hp => ?_)
    subst hp
    exact kret _ _ _ _ _ (Nat.le_refl _) (Nat.le_refl _) dX4_passes_200 (by first | (rw [mpasses]; simp only [mpS, ← e7, if_pos c1, if_true]; done) | exact absurd (by assumption) (by assumption : ¬ ow = -1))

