/-! the law's cases -/
theorem sidx1 {j L : Nat} (hj : 4 * j + 4 ≤ L) (hL : L ≤ 2048) : vp_in (nI (4 * j) + 1) L := by rw [show (1 : Int32) = nI 1 from by decide, nI_add]; exact vp_in_nI (by omega) (by omega)
theorem sidx2 {j L : Nat} (hj : 4 * j + 4 ≤ L) (hL : L ≤ 2048) : vp_in (nI (4 * j) + 2) L := by rw [show (2 : Int32) = nI 2 from by decide, nI_add]; exact vp_in_nI (by omega) (by omega)
theorem sidx3 {j L : Nat} (hj : 4 * j + 4 ≤ L) (hL : L ≤ 2048) : vp_in (nI (4 * j) + 3) L := by rw [show (3 : Int32) = nI 3 from by decide, nI_add]; exact vp_in_nI (by omega) (by omega)
set_option maxHeartbeats 4000000 in
set_option maxRecDepth 100000 in
theorem cs_rank {E : kE} {X : kX} {b L : Nat} {xs : Nat → Int32} {q1 q2 po j k n : Nat} {h : kH} (hX : kScr X b L xs) (hj : 4 * j + 4 ≤ L) (hL : L ≤ 2048) (hS : kLS E q1 q2 po h) (hk : k + 12 ≤ 601024) (hn : n + 500 ≤ 7293034) (kk : ∀ h', kLS E q1 q2 po h' → V E X room_1 cL_law 7 wsL_law RL (k + 12) (n + 500) h' [(0, .ref b), (1, .ref q1), (2, .ref q2), (3, .ref po), (4, .int (nI (4 * j)))] 1502 []) : V E X room_1 cL_law 7 wsL_law RL k n h [(0, .ref b), (1, .ref q1), (2, .ref q2), (3, .ref po), (4, .int (nI (4 * j)))] 144 [] := by
  obtain ⟨a, cap, bb, nF, nC, nE, w, dt, st, f, rfl, rfl, hb, hpo, hg, R, rfl⟩ := hS
  refine r_aload_n dL_law_144 1 rfl ?_
  refine r_aload_n dL_law_145 0 rfl ?_
  refine r_iload dL_law_146 4 rfl ?_
  refine r_iconst (v := 1) dL_law_148 (by decide) ?_
  refine r_iadd dL_law_149 ?_
  refine r_sld hX dL_law_150 (sidx1 hj hL) ?_
  refine r_aload_n dL_law_151 0 rfl ?_
  refine r_iload dL_law_152 4 rfl ?_
  refine r_iconst (v := 2) dL_law_154 (by decide) ?_
  refine r_iadd dL_law_155 ?_
  refine r_sld hX dL_law_156 (sidx2 hj hL) ?_
  refine r_aload_n dL_law_157 3 rfl ?_
  refine r_callXSH (nn := 4) (As := [.ref (a 15), .int (xs (nI (4 * j) + 1).toNatClampNeg), .int (xs (nI (4 * j) + 2).toNatClampNeg), .ref po]) (st := []) dL_law_158 (tL_rank hg R (ov_po hpo) (xs (nI (4 * j) + 1).toNatClampNeg) (xs (nI (4 * j) + 2).toNatClampNeg)) gL_law_L_rank rfl (by decide +kernel) ⟨Nat.le_of_ble_eq_true rfl, Nat.le_of_ble_eq_true rfl⟩ ⟨rfl, rfl⟩ rfl (Nat.le_of_ble_eq_true rfl) ⟨hk, hn⟩ rfl (fun Ec hh hp => hp.elim) (fun r hh hp => ?_)
  obtain ⟨a', cap', nF', nC', nE', w', dt', f', h15, R', hr, hf, hg', rfl⟩ := LS_1 hb hpo hp
  refine r_istore (lo' := [(5, .int r), (0, .ref b), (1, .ref (a 15)), (2, .ref (bb 29)), (3, .ref po), (4, .int (nI (4 * j)))]) dL_law_161 (by decide) rfl ?_
  refine r_aload_n dL_law_163 3 rfl ?_
  refine r_aload_n dL_law_164 1 rfl ?_
  refine r_iload dL_law_165 5 rfl ?_
  refine r_iconst (v := 1) dL_law_167 (by decide) ?_
  refine r_iadd dL_law_168 ?_
  refine r_sld hX dL_law_169 (sidx1 hj hL) ?_
  refine r_aload_n dL_law_170 1 rfl ?_
  refine r_iload dL_law_171 5 rfl ?_
  refine r_iconst (v := 2) dL_law_173 (by decide) ?_
  refine r_iadd dL_law_174 ?_
  refine r_sld hX dL_law_175 (sidx2 hj hL) ?_
  refine r_callVi (nn := 2) (As := [.int (xs (nI (4 * j) + 1).toNatClampNeg), .int (xs (nI (4 * j) + 2).toNatClampNeg)]) (st := []) dL_law_176 (tX4_rank hb st _ (xs (nI (4 * j) + 1).toNatClampNeg) (xs (nI (4 * j) + 2).toNatClampNeg)) gL_law_X4_rank rfl (by decide +kernel) ⟨Nat.le_of_ble_eq_true rfl, Nat.le_of_ble_eq_true rfl⟩ ⟨rfl, rfl⟩ (ov_obj hb st _) rfl rfl (Nat.le_of_ble_eq_true rfl) ⟨hk, hn⟩ rfl (fun r2 hh hp => ?_)
  obtain ⟨rfl, rfl⟩ := hp
  generalize hm : (mrank st (xs (nI (4 * j) + 1).toNatClampNeg) (xs (nI (4 * j) + 2).toNatClampNeg)) = m at *
  refine r_istore (lo' := [(6, .int m.1), (5, .int r), (0, .ref b), (1, .ref (a 15)), (2, .ref (bb 29)), (3, .ref po), (4, .int (nI (4 * j)))]) dL_law_179 (by decide) rfl ?_
  refine r_aload_n dL_law_181 4 rfl ?_
  refine r_callVi (nn := 0) (As := []) (st := []) dL_law_182 (tX4_thrown hb m.2 _) gL_law_X4_thrown rfl (by decide +kernel) ⟨Nat.le_of_ble_eq_true rfl, Nat.le_of_ble_eq_true rfl⟩ ⟨rfl, rfl⟩ (ov_obj hb m.2 _) rfl rfl (Nat.le_of_ble_eq_true rfl) ⟨hk, hn⟩ rfl (fun r3 hh hp => ?_)
  obtain ⟨rfl, rfl⟩ := hp
  refine r_iload dL_law_185 1 rfl ?_
  refine r_icmp_eq (tgt := 192) dL_law_187 (by decide) (fun _ => ?_) (fun c => absurd hr.symm c)
  refine r_iload dL_law_192 1 rfl ?_
  refine r_if_ne (tgt := 209) dL_law_194 (by decide) (fun _ => ?_) (fun c => ?_)
  · refine r_goto (tgt := 1502) dL_law_209 (by decide) ?_
    refine r_lo (lo' := [(0, .ref b), (1, .ref (a 15)), (2, .ref (bb 29)), (3, .ref po), (4, .int (nI (4 * j)))]) [2, 3, 4, 5, 6] rfl ?_
    exact kk _ (LS_2 hb hpo h15 R' hg')
  · refine r_aload_n dL_law_197 5 rfl ?_
    refine r_iconst (v := 0) dL_law_198 (by decide) ?_
    refine r_lald dL_law_199 (LS_at hpo hg') (vp_in_nI (by decide) (by decide)) ?_
    refine r_iload dL_law_200 0 rfl ?_
    refine r_i2l dL_law_202 ?_
    refine r_lcmp dL_law_203 ?_
    refine r_if_eq (tgt := 209) dL_law_204 (by decide) (fun _ => ?_) (fun c2 => absurd (by rw [show f' (0 : Int32).toNatClampNeg = f' 0 from rfl, hf c]; exact lg_cmp_e _) c2)
    refine r_goto (tgt := 1502) dL_law_209 (by decide) ?_
    refine r_lo (lo' := [(0, .ref b), (1, .ref (a 15)), (2, .ref (bb 29)), (3, .ref po), (4, .int (nI (4 * j)))]) [2, 3, 4, 5, 6] rfl ?_
    exact kk _ (LS_2 hb hpo h15 R' hg')
set_option maxHeartbeats 4000000 in
set_option maxRecDepth 100000 in
theorem cs_fight {E : kE} {X : kX} {b L : Nat} {xs : Nat → Int32} {q1 q2 po j k n : Nat} {h : kH} (hX : kScr X b L xs) (hj : 4 * j + 4 ≤ L) (hL : L ≤ 2048) (hS : kLS E q1 q2 po h) (hk : k + 12 ≤ 601024) (hn : n + 500 ≤ 7293034) (kk : ∀ h', kLS E q1 q2 po h' → V E X room_1 cL_law 7 wsL_law RL (k + 12) (n + 500) h' [(0, .ref b), (1, .ref q1), (2, .ref q2), (3, .ref po), (4, .int (nI (4 * j)))] 1502 []) : V E X room_1 cL_law 7 wsL_law RL k n h [(0, .ref b), (1, .ref q1), (2, .ref q2), (3, .ref po), (4, .int (nI (4 * j)))] 212 [] := by
  obtain ⟨a, cap, bb, nF, nC, nE, w, dt, st, f, rfl, rfl, hb, hpo, hg, R, rfl⟩ := hS
  refine r_aload_n dL_law_212 1 rfl ?_
  refine r_aload_n dL_law_213 0 rfl ?_
  refine r_iload dL_law_214 4 rfl ?_
  refine r_iconst (v := 1) dL_law_216 (by decide) ?_
  refine r_iadd dL_law_217 ?_
  refine r_sld hX dL_law_218 (sidx1 hj hL) ?_
  refine r_aload_n dL_law_219 0 rfl ?_
  refine r_iload dL_law_220 4 rfl ?_
  refine r_iconst (v := 2) dL_law_222 (by decide) ?_
  refine r_iadd dL_law_223 ?_
  refine r_sld hX dL_law_224 (sidx2 hj hL) ?_
  refine r_aload_n dL_law_225 3 rfl ?_
  refine r_callXSH (nn := 4) (As := [.ref (a 15), .int (xs (nI (4 * j) + 1).toNatClampNeg), .int (xs (nI (4 * j) + 2).toNatClampNeg), .ref po]) (st := []) dL_law_226 (tL_fight hg R (ov_po hpo) (xs (nI (4 * j) + 1).toNatClampNeg) (xs (nI (4 * j) + 2).toNatClampNeg)) gL_law_L_fight rfl (by decide +kernel) ⟨Nat.le_of_ble_eq_true rfl, Nat.le_of_ble_eq_true rfl⟩ ⟨rfl, rfl⟩ rfl (Nat.le_of_ble_eq_true rfl) ⟨hk, hn⟩ rfl (fun Ec hh hp => hp.elim) (fun r hh hp => ?_)
  obtain ⟨a', cap', nF', nC', nE', w', dt', f', h15, R', hr, hf, hg', rfl⟩ := LS_1 hb hpo hp
  refine r_istore (lo' := [(5, .int r), (0, .ref b), (1, .ref (a 15)), (2, .ref (bb 29)), (3, .ref po), (4, .int (nI (4 * j)))]) dL_law_229 (by decide) rfl ?_
  refine r_aload_n dL_law_231 3 rfl ?_
  refine r_aload_n dL_law_232 1 rfl ?_
  refine r_iload dL_law_233 5 rfl ?_
  refine r_iconst (v := 1) dL_law_235 (by decide) ?_
  refine r_iadd dL_law_236 ?_
  refine r_sld hX dL_law_237 (sidx1 hj hL) ?_
  refine r_aload_n dL_law_238 1 rfl ?_
  refine r_iload dL_law_239 5 rfl ?_
  refine r_iconst (v := 2) dL_law_241 (by decide) ?_
  refine r_iadd dL_law_242 ?_
  refine r_sld hX dL_law_243 (sidx2 hj hL) ?_
  refine r_callVi (nn := 2) (As := [.int (xs (nI (4 * j) + 1).toNatClampNeg), .int (xs (nI (4 * j) + 2).toNatClampNeg)]) (st := []) dL_law_244 (tX4_fight hb st _ nF nC nE w R.mw (xs (nI (4 * j) + 1).toNatClampNeg) (xs (nI (4 * j) + 2).toNatClampNeg)) gL_law_X4_fight rfl (by decide +kernel) ⟨Nat.le_of_ble_eq_true rfl, Nat.le_of_ble_eq_true rfl⟩ ⟨rfl, rfl⟩ (ov_obj hb st _) rfl rfl (Nat.le_of_ble_eq_true rfl) ⟨hk, hn⟩ rfl (fun r2 hh hp => ?_)
  obtain ⟨rfl, rfl⟩ := hp
  generalize hm : (mfight st nF (xs (nI (4 * j) + 1).toNatClampNeg) (xs (nI (4 * j) + 2).toNatClampNeg)) = m at *
  refine r_istore (lo' := [(6, .int m.1), (5, .int r), (0, .ref b), (1, .ref (a 15)), (2, .ref (bb 29)), (3, .ref po), (4, .int (nI (4 * j)))]) dL_law_247 (by decide) rfl ?_
  refine r_aload_n dL_law_249 4 rfl ?_
  refine r_callVi (nn := 0) (As := []) (st := []) dL_law_250 (tX4_thrown hb m.2 _) gL_law_X4_thrown rfl (by decide +kernel) ⟨Nat.le_of_ble_eq_true rfl, Nat.le_of_ble_eq_true rfl⟩ ⟨rfl, rfl⟩ (ov_obj hb m.2 _) rfl rfl (Nat.le_of_ble_eq_true rfl) ⟨hk, hn⟩ rfl (fun r3 hh hp => ?_)
  obtain ⟨rfl, rfl⟩ := hp
  refine r_iload dL_law_253 1 rfl ?_
  refine r_icmp_eq (tgt := 260) dL_law_255 (by decide) (fun _ => ?_) (fun c => absurd hr.symm c)
  refine r_iload dL_law_260 1 rfl ?_
  refine r_if_ne (tgt := 277) dL_law_262 (by decide) (fun _ => ?_) (fun c => ?_)
  · refine r_goto (tgt := 1502) dL_law_277 (by decide) ?_
    refine r_lo (lo' := [(0, .ref b), (1, .ref (a 15)), (2, .ref (bb 29)), (3, .ref po), (4, .int (nI (4 * j)))]) [2, 3, 4, 5, 6] rfl ?_
    exact kk _ (LS_2 hb hpo h15 R' hg')
  · refine r_aload_n dL_law_265 5 rfl ?_
    refine r_iconst (v := 0) dL_law_266 (by decide) ?_
    refine r_lald dL_law_267 (LS_at hpo hg') (vp_in_nI (by decide) (by decide)) ?_
    refine r_iload dL_law_268 0 rfl ?_
    refine r_i2l dL_law_270 ?_
    refine r_lcmp dL_law_271 ?_
    refine r_if_eq (tgt := 277) dL_law_272 (by decide) (fun _ => ?_) (fun c2 => absurd (by rw [show f' (0 : Int32).toNatClampNeg = f' 0 from rfl, hf c]; exact lg_cmp_e _) c2)
    refine r_goto (tgt := 1502) dL_law_277 (by decide) ?_
    refine r_lo (lo' := [(0, .ref b), (1, .ref (a 15)), (2, .ref (bb 29)), (3, .ref po), (4, .int (nI (4 * j)))]) [2, 3, 4, 5, 6] rfl ?_
    exact kk _ (LS_2 hb hpo h15 R' hg')
set_option maxHeartbeats 4000000 in
set_option maxRecDepth 100000 in
theorem cs_end {E : kE} {X : kX} {b L : Nat} {xs : Nat → Int32} {q1 q2 po j k n : Nat} {h : kH} (hX : kScr X b L xs) (hj : 4 * j + 4 ≤ L) (hL : L ≤ 2048) (hS : kLS E q1 q2 po h) (hk : k + 12 ≤ 601024) (hn : n + 500 ≤ 7293034) (kk : ∀ h', kLS E q1 q2 po h' → V E X room_1 cL_law 7 wsL_law RL (k + 12) (n + 500) h' [(0, .ref b), (1, .ref q1), (2, .ref q2), (3, .ref po), (4, .int (nI (4 * j)))] 1502 []) : V E X room_1 cL_law 7 wsL_law RL k n h [(0, .ref b), (1, .ref q1), (2, .ref q2), (3, .ref po), (4, .int (nI (4 * j)))] 280 [] := by
  obtain ⟨a, cap, bb, nF, nC, nE, w, dt, st, f, rfl, rfl, hb, hpo, hg, R, rfl⟩ := hS
  refine r_aload_n dL_law_280 1 rfl ?_
  refine r_aload_n dL_law_281 0 rfl ?_
  refine r_iload dL_law_282 4 rfl ?_
  refine r_iconst (v := 1) dL_law_284 (by decide) ?_
  refine r_iadd dL_law_285 ?_
  refine r_sld hX dL_law_286 (sidx1 hj hL) ?_
  refine r_aload_n dL_law_287 3 rfl ?_
  refine r_callXSH (nn := 3) (As := [.ref (a 15), .int (xs (nI (4 * j) + 1).toNatClampNeg), .ref po]) (st := []) dL_law_288 (tL_end hg R (ov_po hpo) (xs (nI (4 * j) + 1).toNatClampNeg)) gL_law_L_end rfl (by decide +kernel) ⟨Nat.le_of_ble_eq_true rfl, Nat.le_of_ble_eq_true rfl⟩ ⟨rfl, rfl⟩ rfl (Nat.le_of_ble_eq_true rfl) ⟨hk, hn⟩ rfl (fun Ec hh hp => hp.elim) (fun r hh hp => ?_)
  obtain ⟨a', cap', nF', nC', nE', w', dt', f', h15, R', hr, hf, hg', rfl⟩ := LS_1 hb hpo hp
  refine r_istore (lo' := [(5, .int r), (0, .ref b), (1, .ref (a 15)), (2, .ref (bb 29)), (3, .ref po), (4, .int (nI (4 * j)))]) dL_law_291 (by decide) rfl ?_
  refine r_aload_n dL_law_293 3 rfl ?_
  refine r_aload_n dL_law_294 1 rfl ?_
  refine r_iload dL_law_295 5 rfl ?_
  refine r_iconst (v := 1) dL_law_297 (by decide) ?_
  refine r_iadd dL_law_298 ?_
  refine r_sld hX dL_law_299 (sidx1 hj hL) ?_
  refine r_callVi (nn := 1) (As := [.int (xs (nI (4 * j) + 1).toNatClampNeg)]) (st := []) dL_law_300 (tX4_end hb st _ nF nC nE w R.mw (xs (nI (4 * j) + 1).toNatClampNeg)) gL_law_X4_end rfl (by decide +kernel) ⟨Nat.le_of_ble_eq_true rfl, Nat.le_of_ble_eq_true rfl⟩ ⟨rfl, rfl⟩ (ov_obj hb st _) rfl rfl (Nat.le_of_ble_eq_true rfl) ⟨hk, hn⟩ rfl (fun r2 hh hp => ?_)
  obtain ⟨rfl, rfl⟩ := hp
  generalize hm : (mend st nE (xs (nI (4 * j) + 1).toNatClampNeg)) = m at *
  refine r_istore (lo' := [(6, .int m.1), (5, .int r), (0, .ref b), (1, .ref (a 15)), (2, .ref (bb 29)), (3, .ref po), (4, .int (nI (4 * j)))]) dL_law_303 (by decide) rfl ?_
  refine r_aload_n dL_law_305 4 rfl ?_
  refine r_callVi (nn := 0) (As := []) (st := []) dL_law_306 (tX4_thrown hb m.2 _) gL_law_X4_thrown rfl (by decide +kernel) ⟨Nat.le_of_ble_eq_true rfl, Nat.le_of_ble_eq_true rfl⟩ ⟨rfl, rfl⟩ (ov_obj hb m.2 _) rfl rfl (Nat.le_of_ble_eq_true rfl) ⟨hk, hn⟩ rfl (fun r3 hh hp => ?_)
  obtain ⟨rfl, rfl⟩ := hp
  refine r_iload dL_law_309 1 rfl ?_
  refine r_icmp_eq (tgt := 316) dL_law_311 (by decide) (fun _ => ?_) (fun c => absurd hr.symm c)
  refine r_iload dL_law_316 1 rfl ?_
  refine r_if_ne (tgt := 333) dL_law_318 (by decide) (fun _ => ?_) (fun c => ?_)
  · refine r_goto (tgt := 1502) dL_law_333 (by decide) ?_
    refine r_lo (lo' := [(0, .ref b), (1, .ref (a 15)), (2, .ref (bb 29)), (3, .ref po), (4, .int (nI (4 * j)))]) [2, 3, 4, 5, 6] rfl ?_
    exact kk _ (LS_2 hb hpo h15 R' hg')
  · refine r_aload_n dL_law_321 5 rfl ?_
    refine r_iconst (v := 0) dL_law_322 (by decide) ?_
    refine r_lald dL_law_323 (LS_at hpo hg') (vp_in_nI (by decide) (by decide)) ?_
    refine r_iload dL_law_324 0 rfl ?_
    refine r_i2l dL_law_326 ?_
    refine r_lcmp dL_law_327 ?_
    refine r_if_eq (tgt := 333) dL_law_328 (by decide) (fun _ => ?_) (fun c2 => absurd (by rw [show f' (0 : Int32).toNatClampNeg = f' 0 from rfl, hf c]; exact lg_cmp_e _) c2)
    refine r_goto (tgt := 1502) dL_law_333 (by decide) ?_
    refine r_lo (lo' := [(0, .ref b), (1, .ref (a 15)), (2, .ref (bb 29)), (3, .ref po), (4, .int (nI (4 * j)))]) [2, 3, 4, 5, 6] rfl ?_
    exact kk _ (LS_2 hb hpo h15 R' hg')
set_option maxHeartbeats 4000000 in
set_option maxRecDepth 100000 in
theorem cs_replay {E : kE} {X : kX} {b L : Nat} {xs : Nat → Int32} {q1 q2 po j k n : Nat} {h : kH} (hX : kScr X b L xs) (hj : 4 * j + 4 ≤ L) (hL : L ≤ 2048) (hS : kLS E q1 q2 po h) (hk : k + 12 ≤ 601024) (hn : n + 500 ≤ 7293034) (kk : ∀ h', kLS E q1 q2 po h' → V E X room_1 cL_law 7 wsL_law RL (k + 12) (n + 500) h' [(0, .ref b), (1, .ref q1), (2, .ref q2), (3, .ref po), (4, .int (nI (4 * j)))] 1502 []) : V E X room_1 cL_law 7 wsL_law RL k n h [(0, .ref b), (1, .ref q1), (2, .ref q2), (3, .ref po), (4, .int (nI (4 * j)))] 336 [] := by
  obtain ⟨a, cap, bb, nF, nC, nE, w, dt, st, f, rfl, rfl, hb, hpo, hg, R, rfl⟩ := hS
  refine r_aload_n dL_law_336 1 rfl ?_
  refine r_aload_n dL_law_337 0 rfl ?_
  refine r_iload dL_law_338 4 rfl ?_
  refine r_iconst (v := 1) dL_law_340 (by decide) ?_
  refine r_iadd dL_law_341 ?_
  refine r_sld hX dL_law_342 (sidx1 hj hL) ?_
  refine r_aload_n dL_law_343 3 rfl ?_
  refine r_callXSH (nn := 3) (As := [.ref (a 15), .int (xs (nI (4 * j) + 1).toNatClampNeg), .ref po]) (st := []) dL_law_344 (tL_replay hg R (ov_po hpo) (xs (nI (4 * j) + 1).toNatClampNeg)) gL_law_L_replay rfl (by decide +kernel) ⟨Nat.le_of_ble_eq_true rfl, Nat.le_of_ble_eq_true rfl⟩ ⟨rfl, rfl⟩ rfl (Nat.le_of_ble_eq_true rfl) ⟨hk, hn⟩ rfl (fun Ec hh hp => hp.elim) (fun r hh hp => ?_)
  obtain ⟨a', cap', nF', nC', nE', w', dt', f', h15, R', hr, hf, hg', rfl⟩ := LS_1 hb hpo hp
  refine r_istore (lo' := [(5, .int r), (0, .ref b), (1, .ref (a 15)), (2, .ref (bb 29)), (3, .ref po), (4, .int (nI (4 * j)))]) dL_law_347 (by decide) rfl ?_
  refine r_aload_n dL_law_349 3 rfl ?_
  refine r_aload_n dL_law_350 1 rfl ?_
  refine r_iload dL_law_351 5 rfl ?_
  refine r_iconst (v := 1) dL_law_353 (by decide) ?_
  refine r_iadd dL_law_354 ?_
  refine r_sld hX dL_law_355 (sidx1 hj hL) ?_
  refine r_callVi (nn := 1) (As := [.int (xs (nI (4 * j) + 1).toNatClampNeg)]) (st := []) dL_law_356 (tX4_replay hb st _ nF nC nE w R.mw (xs (nI (4 * j) + 1).toNatClampNeg)) gL_law_X4_replay rfl (by decide +kernel) ⟨Nat.le_of_ble_eq_true rfl, Nat.le_of_ble_eq_true rfl⟩ ⟨rfl, rfl⟩ (ov_obj hb st _) rfl rfl (Nat.le_of_ble_eq_true rfl) ⟨hk, hn⟩ rfl (fun r2 hh hp => ?_)
  obtain ⟨rfl, rfl⟩ := hp
  generalize hm : (mreplay st nF nE w (xs (nI (4 * j) + 1).toNatClampNeg)) = m at *
  refine r_istore (lo' := [(6, .int m.1), (5, .int r), (0, .ref b), (1, .ref (a 15)), (2, .ref (bb 29)), (3, .ref po), (4, .int (nI (4 * j)))]) dL_law_359 (by decide) rfl ?_
  refine r_aload_n dL_law_361 4 rfl ?_
  refine r_callVi (nn := 0) (As := []) (st := []) dL_law_362 (tX4_thrown hb m.2 _) gL_law_X4_thrown rfl (by decide +kernel) ⟨Nat.le_of_ble_eq_true rfl, Nat.le_of_ble_eq_true rfl⟩ ⟨rfl, rfl⟩ (ov_obj hb m.2 _) rfl rfl (Nat.le_of_ble_eq_true rfl) ⟨hk, hn⟩ rfl (fun r3 hh hp => ?_)
  obtain ⟨rfl, rfl⟩ := hp
  refine r_iload dL_law_365 1 rfl ?_
  refine r_icmp_eq (tgt := 372) dL_law_367 (by decide) (fun _ => ?_) (fun c => absurd hr.symm c)
  refine r_iload dL_law_372 1 rfl ?_
  refine r_if_ne (tgt := 389) dL_law_374 (by decide) (fun _ => ?_) (fun c => ?_)
  · refine r_goto (tgt := 1502) dL_law_389 (by decide) ?_
    refine r_lo (lo' := [(0, .ref b), (1, .ref (a 15)), (2, .ref (bb 29)), (3, .ref po), (4, .int (nI (4 * j)))]) [2, 3, 4, 5, 6] rfl ?_
    exact kk _ (LS_2 hb hpo h15 R' hg')
  · refine r_aload_n dL_law_377 5 rfl ?_
    refine r_iconst (v := 0) dL_law_378 (by decide) ?_
    refine r_lald dL_law_379 (LS_at hpo hg') (vp_in_nI (by decide) (by decide)) ?_
    refine r_iload dL_law_380 0 rfl ?_
    refine r_i2l dL_law_382 ?_
    refine r_lcmp dL_law_383 ?_
    refine r_if_eq (tgt := 389) dL_law_384 (by decide) (fun _ => ?_) (fun c2 => absurd (by rw [show f' (0 : Int32).toNatClampNeg = f' 0 from rfl, hf c]; exact lg_cmp_e _) c2)
    refine r_goto (tgt := 1502) dL_law_389 (by decide) ?_
    refine r_lo (lo' := [(0, .ref b), (1, .ref (a 15)), (2, .ref (bb 29)), (3, .ref po), (4, .int (nI (4 * j)))]) [2, 3, 4, 5, 6] rfl ?_
    exact kk _ (LS_2 hb hpo h15 R' hg')
set_option maxHeartbeats 4000000 in
set_option maxRecDepth 100000 in
theorem cs_camera {E : kE} {X : kX} {b L : Nat} {xs : Nat → Int32} {q1 q2 po j k n : Nat} {h : kH} (hX : kScr X b L xs) (hj : 4 * j + 4 ≤ L) (hL : L ≤ 2048) (hS : kLS E q1 q2 po h) (hk : k + 12 ≤ 601024) (hn : n + 500 ≤ 7293034) (kk : ∀ h', kLS E q1 q2 po h' → V E X room_1 cL_law 7 wsL_law RL (k + 12) (n + 500) h' [(0, .ref b), (1, .ref q1), (2, .ref q2), (3, .ref po), (4, .int (nI (4 * j)))] 1502 []) : V E X room_1 cL_law 7 wsL_law RL k n h [(0, .ref b), (1, .ref q1), (2, .ref q2), (3, .ref po), (4, .int (nI (4 * j)))] 392 [] := by
  obtain ⟨a, cap, bb, nF, nC, nE, w, dt, st, f, rfl, rfl, hb, hpo, hg, R, rfl⟩ := hS
  refine r_aload_n dL_law_392 1 rfl ?_
  refine r_aload_n dL_law_393 0 rfl ?_
  refine r_iload dL_law_394 4 rfl ?_
  refine r_iconst (v := 1) dL_law_396 (by decide) ?_
  refine r_iadd dL_law_397 ?_
  refine r_sld hX dL_law_398 (sidx1 hj hL) ?_
  refine r_aload_n dL_law_399 0 rfl ?_
  refine r_iload dL_law_400 4 rfl ?_
  refine r_iconst (v := 2) dL_law_402 (by decide) ?_
  refine r_iadd dL_law_403 ?_
  refine r_sld hX dL_law_404 (sidx2 hj hL) ?_
  refine r_aload_n dL_law_405 3 rfl ?_
  refine r_callXSH (nn := 4) (As := [.ref (a 15), .int (xs (nI (4 * j) + 1).toNatClampNeg), .int (xs (nI (4 * j) + 2).toNatClampNeg), .ref po]) (st := []) dL_law_406 (tL_camera hg R (ov_po hpo) (xs (nI (4 * j) + 1).toNatClampNeg) (xs (nI (4 * j) + 2).toNatClampNeg)) gL_law_L_camera rfl (by decide +kernel) ⟨Nat.le_of_ble_eq_true rfl, Nat.le_of_ble_eq_true rfl⟩ ⟨rfl, rfl⟩ rfl (Nat.le_of_ble_eq_true rfl) ⟨hk, hn⟩ rfl (fun Ec hh hp => hp.elim) (fun r hh hp => ?_)
  obtain ⟨a', cap', nF', nC', nE', w', dt', f', h15, R', hr, hf, hg', rfl⟩ := LS_1 hb hpo hp
  refine r_istore (lo' := [(5, .int r), (0, .ref b), (1, .ref (a 15)), (2, .ref (bb 29)), (3, .ref po), (4, .int (nI (4 * j)))]) dL_law_409 (by decide) rfl ?_
  refine r_aload_n dL_law_411 3 rfl ?_
  refine r_aload_n dL_law_412 1 rfl ?_
  refine r_iload dL_law_413 5 rfl ?_
  refine r_iconst (v := 1) dL_law_415 (by decide) ?_
  refine r_iadd dL_law_416 ?_
  refine r_sld hX dL_law_417 (sidx1 hj hL) ?_
  refine r_aload_n dL_law_418 1 rfl ?_
  refine r_iload dL_law_419 5 rfl ?_
  refine r_iconst (v := 2) dL_law_421 (by decide) ?_
  refine r_iadd dL_law_422 ?_
  refine r_sld hX dL_law_423 (sidx2 hj hL) ?_
  refine r_callVi (nn := 2) (As := [.int (xs (nI (4 * j) + 1).toNatClampNeg), .int (xs (nI (4 * j) + 2).toNatClampNeg)]) (st := []) dL_law_424 (tX4_camera hb st _ nF nC nE w R.mw (xs (nI (4 * j) + 1).toNatClampNeg) (xs (nI (4 * j) + 2).toNatClampNeg)) gL_law_X4_camera rfl (by decide +kernel) ⟨Nat.le_of_ble_eq_true rfl, Nat.le_of_ble_eq_true rfl⟩ ⟨rfl, rfl⟩ (ov_obj hb st _) rfl rfl (Nat.le_of_ble_eq_true rfl) ⟨hk, hn⟩ rfl (fun r2 hh hp => ?_)
  obtain ⟨rfl, rfl⟩ := hp
  generalize hm : (mcamera st nC (xs (nI (4 * j) + 1).toNatClampNeg) (xs (nI (4 * j) + 2).toNatClampNeg)) = m at *
  refine r_istore (lo' := [(6, .int m.1), (5, .int r), (0, .ref b), (1, .ref (a 15)), (2, .ref (bb 29)), (3, .ref po), (4, .int (nI (4 * j)))]) dL_law_427 (by decide) rfl ?_
  refine r_aload_n dL_law_429 4 rfl ?_
  refine r_callVi (nn := 0) (As := []) (st := []) dL_law_430 (tX4_thrown hb m.2 _) gL_law_X4_thrown rfl (by decide +kernel) ⟨Nat.le_of_ble_eq_true rfl, Nat.le_of_ble_eq_true rfl⟩ ⟨rfl, rfl⟩ (ov_obj hb m.2 _) rfl rfl (Nat.le_of_ble_eq_true rfl) ⟨hk, hn⟩ rfl (fun r3 hh hp => ?_)
  obtain ⟨rfl, rfl⟩ := hp
  refine r_iload dL_law_433 1 rfl ?_
  refine r_icmp_eq (tgt := 440) dL_law_435 (by decide) (fun _ => ?_) (fun c => absurd hr.symm c)
  refine r_iload dL_law_440 1 rfl ?_
  refine r_if_ne (tgt := 457) dL_law_442 (by decide) (fun _ => ?_) (fun c => ?_)
  · refine r_goto (tgt := 1502) dL_law_457 (by decide) ?_
    refine r_lo (lo' := [(0, .ref b), (1, .ref (a 15)), (2, .ref (bb 29)), (3, .ref po), (4, .int (nI (4 * j)))]) [2, 3, 4, 5, 6] rfl ?_
    exact kk _ (LS_2 hb hpo h15 R' hg')
  · refine r_aload_n dL_law_445 5 rfl ?_
    refine r_iconst (v := 0) dL_law_446 (by decide) ?_
    refine r_lald dL_law_447 (LS_at hpo hg') (vp_in_nI (by decide) (by decide)) ?_
    refine r_iload dL_law_448 0 rfl ?_
    refine r_i2l dL_law_450 ?_
    refine r_lcmp dL_law_451 ?_
    refine r_if_eq (tgt := 457) dL_law_452 (by decide) (fun _ => ?_) (fun c2 => absurd (by rw [show f' (0 : Int32).toNatClampNeg = f' 0 from rfl, hf c]; exact lg_cmp_e _) c2)
    refine r_goto (tgt := 1502) dL_law_457 (by decide) ?_
    refine r_lo (lo' := [(0, .ref b), (1, .ref (a 15)), (2, .ref (bb 29)), (3, .ref po), (4, .int (nI (4 * j)))]) [2, 3, 4, 5, 6] rfl ?_
    exact kk _ (LS_2 hb hpo h15 R' hg')
set_option maxHeartbeats 4000000 in
set_option maxRecDepth 100000 in
theorem cs_delay {E : kE} {X : kX} {b L : Nat} {xs : Nat → Int32} {q1 q2 po j k n : Nat} {h : kH} (hX : kScr X b L xs) (hj : 4 * j + 4 ≤ L) (hL : L ≤ 2048) (hS : kLS E q1 q2 po h) (hk : k + 12 ≤ 601024) (hn : n + 500 ≤ 7293034) (kk : ∀ h', kLS E q1 q2 po h' → V E X room_1 cL_law 7 wsL_law RL (k + 12) (n + 500) h' [(0, .ref b), (1, .ref q1), (2, .ref q2), (3, .ref po), (4, .int (nI (4 * j)))] 1502 []) : V E X room_1 cL_law 7 wsL_law RL k n h [(0, .ref b), (1, .ref q1), (2, .ref q2), (3, .ref po), (4, .int (nI (4 * j)))] 460 [] := by
  obtain ⟨a, cap, bb, nF, nC, nE, w, dt, st, f, rfl, rfl, hb, hpo, hg, R, rfl⟩ := hS
  refine r_aload_n dL_law_460 1 rfl ?_
  refine r_aload_n dL_law_461 0 rfl ?_
  refine r_iload dL_law_462 4 rfl ?_
  refine r_iconst (v := 1) dL_law_464 (by decide) ?_
  refine r_iadd dL_law_465 ?_
  refine r_sld hX dL_law_466 (sidx1 hj hL) ?_
  refine r_aload_n dL_law_467 3 rfl ?_
  refine r_callXSH (nn := 3) (As := [.ref (a 15), .int (xs (nI (4 * j) + 1).toNatClampNeg), .ref po]) (st := []) dL_law_468 (tL_delay hg R (ov_po hpo) (xs (nI (4 * j) + 1).toNatClampNeg)) gL_law_L_delay rfl (by decide +kernel) ⟨Nat.le_of_ble_eq_true rfl, Nat.le_of_ble_eq_true rfl⟩ ⟨rfl, rfl⟩ rfl (Nat.le_of_ble_eq_true rfl) ⟨hk, hn⟩ rfl (fun Ec hh hp => hp.elim) (fun r hh hp => ?_)
  obtain ⟨a', cap', nF', nC', nE', w', dt', f', h15, R', hr, hf, hg', rfl⟩ := LS_1 hb hpo hp
  refine r_istore (lo' := [(5, .int r), (0, .ref b), (1, .ref (a 15)), (2, .ref (bb 29)), (3, .ref po), (4, .int (nI (4 * j)))]) dL_law_471 (by decide) rfl ?_
  refine r_aload_n dL_law_473 3 rfl ?_
  refine r_aload_n dL_law_474 1 rfl ?_
  refine r_iload dL_law_475 5 rfl ?_
  refine r_iconst (v := 1) dL_law_477 (by decide) ?_
  refine r_iadd dL_law_478 ?_
  refine r_sld hX dL_law_479 (sidx1 hj hL) ?_
  refine r_callVi (nn := 1) (As := [.int (xs (nI (4 * j) + 1).toNatClampNeg)]) (st := []) dL_law_480 (tX4_delay hb st _ (xs (nI (4 * j) + 1).toNatClampNeg)) gL_law_X4_delay rfl (by decide +kernel) ⟨Nat.le_of_ble_eq_true rfl, Nat.le_of_ble_eq_true rfl⟩ ⟨rfl, rfl⟩ (ov_obj hb st _) rfl rfl (Nat.le_of_ble_eq_true rfl) ⟨hk, hn⟩ rfl (fun r2 hh hp => ?_)
  obtain ⟨rfl, rfl⟩ := hp
  generalize hm : (mdelay st (xs (nI (4 * j) + 1).toNatClampNeg)) = m at *
  refine r_istore (lo' := [(6, .int m.1), (5, .int r), (0, .ref b), (1, .ref (a 15)), (2, .ref (bb 29)), (3, .ref po), (4, .int (nI (4 * j)))]) dL_law_483 (by decide) rfl ?_
  refine r_aload_n dL_law_485 4 rfl ?_
  refine r_callVi (nn := 0) (As := []) (st := []) dL_law_486 (tX4_thrown hb m.2 _) gL_law_X4_thrown rfl (by decide +kernel) ⟨Nat.le_of_ble_eq_true rfl, Nat.le_of_ble_eq_true rfl⟩ ⟨rfl, rfl⟩ (ov_obj hb m.2 _) rfl rfl (Nat.le_of_ble_eq_true rfl) ⟨hk, hn⟩ rfl (fun r3 hh hp => ?_)
  obtain ⟨rfl, rfl⟩ := hp
  refine r_iload dL_law_489 1 rfl ?_
  refine r_icmp_eq (tgt := 496) dL_law_491 (by decide) (fun _ => ?_) (fun c => absurd hr.symm c)
  refine r_iload dL_law_496 1 rfl ?_
  refine r_if_ne (tgt := 513) dL_law_498 (by decide) (fun _ => ?_) (fun c => ?_)
  · refine r_goto (tgt := 1502) dL_law_513 (by decide) ?_
    refine r_lo (lo' := [(0, .ref b), (1, .ref (a 15)), (2, .ref (bb 29)), (3, .ref po), (4, .int (nI (4 * j)))]) [2, 3, 4, 5, 6] rfl ?_
    exact kk _ (LS_2 hb hpo h15 R' hg')
  · refine r_aload_n dL_law_501 5 rfl ?_
    refine r_iconst (v := 0) dL_law_502 (by decide) ?_
    refine r_lald dL_law_503 (LS_at hpo hg') (vp_in_nI (by decide) (by decide)) ?_
    refine r_iload dL_law_504 0 rfl ?_
    refine r_i2l dL_law_506 ?_
    refine r_lcmp dL_law_507 ?_
    refine r_if_eq (tgt := 513) dL_law_508 (by decide) (fun _ => ?_) (fun c2 => absurd (by rw [show f' (0 : Int32).toNatClampNeg = f' 0 from rfl, hf c]; exact lg_cmp_e _) c2)
    refine r_goto (tgt := 1502) dL_law_513 (by decide) ?_
    refine r_lo (lo' := [(0, .ref b), (1, .ref (a 15)), (2, .ref (bb 29)), (3, .ref po), (4, .int (nI (4 * j)))]) [2, 3, 4, 5, 6] rfl ?_
    exact kk _ (LS_2 hb hpo h15 R' hg')
set_option maxHeartbeats 4000000 in
set_option maxRecDepth 100000 in
theorem cs_pass {E : kE} {X : kX} {b L : Nat} {xs : Nat → Int32} {q1 q2 po j k n : Nat} {h : kH} (hX : kScr X b L xs) (hj : 4 * j + 4 ≤ L) (hL : L ≤ 2048) (hS : kLS E q1 q2 po h) (hk : k + 12 ≤ 601024) (hn : n + 500 ≤ 7293034) (kk : ∀ h', kLS E q1 q2 po h' → V E X room_1 cL_law 7 wsL_law RL (k + 12) (n + 500) h' [(0, .ref b), (1, .ref q1), (2, .ref q2), (3, .ref po), (4, .int (nI (4 * j)))] 1502 []) : V E X room_1 cL_law 7 wsL_law RL k n h [(0, .ref b), (1, .ref q1), (2, .ref q2), (3, .ref po), (4, .int (nI (4 * j)))] 516 [] := by
  obtain ⟨a, cap, bb, nF, nC, nE, w, dt, st, f, rfl, rfl, hb, hpo, hg, R, rfl⟩ := hS
  refine r_aload_n dL_law_516 1 rfl ?_
  refine r_aload_n dL_law_517 0 rfl ?_
  refine r_iload dL_law_518 4 rfl ?_
  refine r_iconst (v := 1) dL_law_520 (by decide) ?_
  refine r_iadd dL_law_521 ?_
  refine r_sld hX dL_law_522 (sidx1 hj hL) ?_
  refine r_aload_n dL_law_523 3 rfl ?_
  refine r_callXSH (nn := 3) (As := [.ref (a 15), .int (xs (nI (4 * j) + 1).toNatClampNeg), .ref po]) (st := []) dL_law_524 (tL_pass hg R (ov_po hpo) (xs (nI (4 * j) + 1).toNatClampNeg)) gL_law_L_pass rfl (by decide +kernel) ⟨Nat.le_of_ble_eq_true rfl, Nat.le_of_ble_eq_true rfl⟩ ⟨rfl, rfl⟩ rfl (Nat.le_of_ble_eq_true rfl) ⟨hk, hn⟩ rfl (fun Ec hh hp => hp.elim) (fun r hh hp => ?_)
  obtain ⟨a', cap', nF', nC', nE', w', dt', f', h15, R', hr, hf, hg', rfl⟩ := LS_1 hb hpo hp
  refine r_istore (lo' := [(5, .int r), (0, .ref b), (1, .ref (a 15)), (2, .ref (bb 29)), (3, .ref po), (4, .int (nI (4 * j)))]) dL_law_527 (by decide) rfl ?_
  refine r_aload_n dL_law_529 3 rfl ?_
  refine r_aload_n dL_law_530 1 rfl ?_
  refine r_iload dL_law_531 5 rfl ?_
  refine r_iconst (v := 1) dL_law_533 (by decide) ?_
  refine r_iadd dL_law_534 ?_
  refine r_sld hX dL_law_535 (sidx1 hj hL) ?_
  refine r_callVi (nn := 1) (As := [.int (xs (nI (4 * j) + 1).toNatClampNeg)]) (st := []) dL_law_536 (tX4_pass hb st _ nF nC nE w R.mw (xs (nI (4 * j) + 1).toNatClampNeg)) gL_law_X4_pass rfl (by decide +kernel) ⟨Nat.le_of_ble_eq_true rfl, Nat.le_of_ble_eq_true rfl⟩ ⟨rfl, rfl⟩ (ov_obj hb st _) rfl rfl (Nat.le_of_ble_eq_true rfl) ⟨hk, hn⟩ rfl (fun r2 hh hp => ?_)
  obtain ⟨rfl, rfl⟩ := hp
  generalize hm : (mpass st nF nC nE w (xs (nI (4 * j) + 1).toNatClampNeg)) = m at *
  refine r_istore (lo' := [(6, .int m.1), (5, .int r), (0, .ref b), (1, .ref (a 15)), (2, .ref (bb 29)), (3, .ref po), (4, .int (nI (4 * j)))]) dL_law_539 (by decide) rfl ?_
  refine r_aload_n dL_law_541 4 rfl ?_
  refine r_callVi (nn := 0) (As := []) (st := []) dL_law_542 (tX4_thrown hb m.2 _) gL_law_X4_thrown rfl (by decide +kernel) ⟨Nat.le_of_ble_eq_true rfl, Nat.le_of_ble_eq_true rfl⟩ ⟨rfl, rfl⟩ (ov_obj hb m.2 _) rfl rfl (Nat.le_of_ble_eq_true rfl) ⟨hk, hn⟩ rfl (fun r3 hh hp => ?_)
  obtain ⟨rfl, rfl⟩ := hp
  refine r_iload dL_law_545 1 rfl ?_
  refine r_icmp_eq (tgt := 552) dL_law_547 (by decide) (fun _ => ?_) (fun c => absurd hr.symm c)
  refine r_iload dL_law_552 1 rfl ?_
  refine r_if_ne (tgt := 569) dL_law_554 (by decide) (fun _ => ?_) (fun c => ?_)
  · refine r_goto (tgt := 1502) dL_law_569 (by decide) ?_
    refine r_lo (lo' := [(0, .ref b), (1, .ref (a 15)), (2, .ref (bb 29)), (3, .ref po), (4, .int (nI (4 * j)))]) [2, 3, 4, 5, 6] rfl ?_
    exact kk _ (LS_2 hb hpo h15 R' hg')
  · refine r_aload_n dL_law_557 5 rfl ?_
    refine r_iconst (v := 0) dL_law_558 (by decide) ?_
    refine r_lald dL_law_559 (LS_at hpo hg') (vp_in_nI (by decide) (by decide)) ?_
    refine r_iload dL_law_560 0 rfl ?_
    refine r_i2l dL_law_562 ?_
    refine r_lcmp dL_law_563 ?_
    refine r_if_eq (tgt := 569) dL_law_564 (by decide) (fun _ => ?_) (fun c2 => absurd (by rw [show f' (0 : Int32).toNatClampNeg = f' 0 from rfl, hf c]; exact lg_cmp_e _) c2)
    refine r_goto (tgt := 1502) dL_law_569 (by decide) ?_
    refine r_lo (lo' := [(0, .ref b), (1, .ref (a 15)), (2, .ref (bb 29)), (3, .ref po), (4, .int (nI (4 * j)))]) [2, 3, 4, 5, 6] rfl ?_
    exact kk _ (LS_2 hb hpo h15 R' hg')
set_option maxHeartbeats 4000000 in
set_option maxRecDepth 100000 in
theorem cs_blow {E : kE} {X : kX} {b L : Nat} {xs : Nat → Int32} {q1 q2 po j k n : Nat} {h : kH} (hX : kScr X b L xs) (hj : 4 * j + 4 ≤ L) (hL : L ≤ 2048) (hS : kLS E q1 q2 po h) (hk : k + 12 ≤ 601024) (hn : n + 500 ≤ 7293034) (kk : ∀ h', kLS E q1 q2 po h' → V E X room_1 cL_law 7 wsL_law RL (k + 12) (n + 500) h' [(0, .ref b), (1, .ref q1), (2, .ref q2), (3, .ref po), (4, .int (nI (4 * j)))] 1502 []) : V E X room_1 cL_law 7 wsL_law RL k n h [(0, .ref b), (1, .ref q1), (2, .ref q2), (3, .ref po), (4, .int (nI (4 * j)))] 572 [] := by
  obtain ⟨a, cap, bb, nF, nC, nE, w, dt, st, f, rfl, rfl, hb, hpo, hg, R, rfl⟩ := hS
  refine r_aload_n dL_law_572 1 rfl ?_
  refine r_aload_n dL_law_573 0 rfl ?_
  refine r_iload dL_law_574 4 rfl ?_
  refine r_iconst (v := 1) dL_law_576 (by decide) ?_
  refine r_iadd dL_law_577 ?_
  refine r_sld hX dL_law_578 (sidx1 hj hL) ?_
  refine r_aload_n dL_law_579 0 rfl ?_
  refine r_iload dL_law_580 4 rfl ?_
  refine r_iconst (v := 2) dL_law_582 (by decide) ?_
  refine r_iadd dL_law_583 ?_
  refine r_sld hX dL_law_584 (sidx2 hj hL) ?_
  refine r_aload_n dL_law_585 0 rfl ?_
  refine r_iload dL_law_586 4 rfl ?_
  refine r_iconst (v := 3) dL_law_588 (by decide) ?_
  refine r_iadd dL_law_589 ?_
  refine r_sld hX dL_law_590 (sidx3 hj hL) ?_
  refine r_aload_n dL_law_591 3 rfl ?_
  refine r_callXSH (nn := 5) (As := [.ref (a 15), .int (xs (nI (4 * j) + 1).toNatClampNeg), .int (xs (nI (4 * j) + 2).toNatClampNeg), .int (xs (nI (4 * j) + 3).toNatClampNeg), .ref po]) (st := []) dL_law_592 (tL_blow hg R (ov_po hpo) (xs (nI (4 * j) + 1).toNatClampNeg) (xs (nI (4 * j) + 2).toNatClampNeg) (xs (nI (4 * j) + 3).toNatClampNeg)) gL_law_L_blow rfl (by decide +kernel) ⟨Nat.le_of_ble_eq_true rfl, Nat.le_of_ble_eq_true rfl⟩ ⟨rfl, rfl⟩ rfl (Nat.le_of_ble_eq_true rfl) ⟨hk, hn⟩ rfl (fun Ec hh hp => hp.elim) (fun r hh hp => ?_)
  obtain ⟨a', cap', nF', nC', nE', w', dt', f', h15, R', hr, hf, hg', rfl⟩ := LS_1 hb hpo hp
  refine r_istore (lo' := [(5, .int r), (0, .ref b), (1, .ref (a 15)), (2, .ref (bb 29)), (3, .ref po), (4, .int (nI (4 * j)))]) dL_law_595 (by decide) rfl ?_
  refine r_aload_n dL_law_597 3 rfl ?_
  refine r_aload_n dL_law_598 1 rfl ?_
  refine r_iload dL_law_599 5 rfl ?_
  refine r_iconst (v := 1) dL_law_601 (by decide) ?_
  refine r_iadd dL_law_602 ?_
  refine r_sld hX dL_law_603 (sidx1 hj hL) ?_
  refine r_aload_n dL_law_604 1 rfl ?_
  refine r_iload dL_law_605 5 rfl ?_
  refine r_iconst (v := 2) dL_law_607 (by decide) ?_
  refine r_iadd dL_law_608 ?_
  refine r_sld hX dL_law_609 (sidx2 hj hL) ?_
  refine r_aload_n dL_law_610 1 rfl ?_
  refine r_iload dL_law_611 5 rfl ?_
  refine r_iconst (v := 3) dL_law_613 (by decide) ?_
  refine r_iadd dL_law_614 ?_
  refine r_sld hX dL_law_615 (sidx3 hj hL) ?_
  refine r_callVi (nn := 3) (As := [.int (xs (nI (4 * j) + 1).toNatClampNeg), .int (xs (nI (4 * j) + 2).toNatClampNeg), .int (xs (nI (4 * j) + 3).toNatClampNeg)]) (st := []) dL_law_616 (tX4_blow hb st _ nF nC nE w R.mw (xs (nI (4 * j) + 1).toNatClampNeg) (xs (nI (4 * j) + 2).toNatClampNeg) (xs (nI (4 * j) + 3).toNatClampNeg)) gL_law_X4_blow rfl (by decide +kernel) ⟨Nat.le_of_ble_eq_true rfl, Nat.le_of_ble_eq_true rfl⟩ ⟨rfl, rfl⟩ (ov_obj hb st _) rfl rfl (Nat.le_of_ble_eq_true rfl) ⟨hk, hn⟩ rfl (fun r2 hh hp => ?_)
  obtain ⟨rfl, rfl⟩ := hp
  generalize hm : (mblow st nE (xs (nI (4 * j) + 1).toNatClampNeg) (xs (nI (4 * j) + 2).toNatClampNeg) (xs (nI (4 * j) + 3).toNatClampNeg)) = m at *
  refine r_istore (lo' := [(6, .int m.1), (5, .int r), (0, .ref b), (1, .ref (a 15)), (2, .ref (bb 29)), (3, .ref po), (4, .int (nI (4 * j)))]) dL_law_619 (by decide) rfl ?_
  refine r_aload_n dL_law_621 4 rfl ?_
  refine r_callVi (nn := 0) (As := []) (st := []) dL_law_622 (tX4_thrown hb m.2 _) gL_law_X4_thrown rfl (by decide +kernel) ⟨Nat.le_of_ble_eq_true rfl, Nat.le_of_ble_eq_true rfl⟩ ⟨rfl, rfl⟩ (ov_obj hb m.2 _) rfl rfl (Nat.le_of_ble_eq_true rfl) ⟨hk, hn⟩ rfl (fun r3 hh hp => ?_)
  obtain ⟨rfl, rfl⟩ := hp
  refine r_iload dL_law_625 1 rfl ?_
  refine r_icmp_eq (tgt := 632) dL_law_627 (by decide) (fun _ => ?_) (fun c => absurd hr.symm c)
  refine r_iload dL_law_632 1 rfl ?_
  refine r_if_ne (tgt := 649) dL_law_634 (by decide) (fun _ => ?_) (fun c => ?_)
  · refine r_goto (tgt := 1502) dL_law_649 (by decide) ?_
    refine r_lo (lo' := [(0, .ref b), (1, .ref (a 15)), (2, .ref (bb 29)), (3, .ref po), (4, .int (nI (4 * j)))]) [2, 3, 4, 5, 6] rfl ?_
    exact kk _ (LS_2 hb hpo h15 R' hg')
  · refine r_aload_n dL_law_637 5 rfl ?_
    refine r_iconst (v := 0) dL_law_638 (by decide) ?_
    refine r_lald dL_law_639 (LS_at hpo hg') (vp_in_nI (by decide) (by decide)) ?_
    refine r_iload dL_law_640 0 rfl ?_
    refine r_i2l dL_law_642 ?_
    refine r_lcmp dL_law_643 ?_
    refine r_if_eq (tgt := 649) dL_law_644 (by decide) (fun _ => ?_) (fun c2 => absurd (by rw [show f' (0 : Int32).toNatClampNeg = f' 0 from rfl, hf c]; exact lg_cmp_e _) c2)
    refine r_goto (tgt := 1502) dL_law_649 (by decide) ?_
    refine r_lo (lo' := [(0, .ref b), (1, .ref (a 15)), (2, .ref (bb 29)), (3, .ref po), (4, .int (nI (4 * j)))]) [2, 3, 4, 5, 6] rfl ?_
    exact kk _ (LS_2 hb hpo h15 R' hg')
set_option maxHeartbeats 4000000 in
set_option maxRecDepth 100000 in
theorem cs_strike {E : kE} {X : kX} {b L : Nat} {xs : Nat → Int32} {q1 q2 po j k n : Nat} {h : kH} (hX : kScr X b L xs) (hj : 4 * j + 4 ≤ L) (hL : L ≤ 2048) (hS : kLS E q1 q2 po h) (hk : k + 12 ≤ 601024) (hn : n + 500 ≤ 7293034) (kk : ∀ h', kLS E q1 q2 po h' → V E X room_1 cL_law 7 wsL_law RL (k + 12) (n + 500) h' [(0, .ref b), (1, .ref q1), (2, .ref q2), (3, .ref po), (4, .int (nI (4 * j)))] 1502 []) : V E X room_1 cL_law 7 wsL_law RL k n h [(0, .ref b), (1, .ref q1), (2, .ref q2), (3, .ref po), (4, .int (nI (4 * j)))] 652 [] := by
  obtain ⟨a, cap, bb, nF, nC, nE, w, dt, st, f, rfl, rfl, hb, hpo, hg, R, rfl⟩ := hS
  refine r_aload_n dL_law_652 1 rfl ?_
  refine r_aload_n dL_law_653 0 rfl ?_
  refine r_iload dL_law_654 4 rfl ?_
  refine r_iconst (v := 1) dL_law_656 (by decide) ?_
  refine r_iadd dL_law_657 ?_
  refine r_sld hX dL_law_658 (sidx1 hj hL) ?_
  refine r_aload_n dL_law_659 3 rfl ?_
  refine r_callXSH (nn := 3) (As := [.ref (a 15), .int (xs (nI (4 * j) + 1).toNatClampNeg), .ref po]) (st := []) dL_law_660 (tL_strike hg R (ov_po hpo) (xs (nI (4 * j) + 1).toNatClampNeg)) gL_law_L_strike rfl (by decide +kernel) ⟨Nat.le_of_ble_eq_true rfl, Nat.le_of_ble_eq_true rfl⟩ ⟨rfl, rfl⟩ rfl (Nat.le_of_ble_eq_true rfl) ⟨hk, hn⟩ rfl (fun Ec hh hp => hp.elim) (fun r hh hp => ?_)
  obtain ⟨a', cap', nF', nC', nE', w', dt', f', h15, R', hr, hf, hg', rfl⟩ := LS_1 hb hpo hp
  refine r_istore (lo' := [(5, .int r), (0, .ref b), (1, .ref (a 15)), (2, .ref (bb 29)), (3, .ref po), (4, .int (nI (4 * j)))]) dL_law_663 (by decide) rfl ?_
  refine r_aload_n dL_law_665 3 rfl ?_
  refine r_aload_n dL_law_666 1 rfl ?_
  refine r_iload dL_law_667 5 rfl ?_
  refine r_iconst (v := 1) dL_law_669 (by decide) ?_
  refine r_iadd dL_law_670 ?_
  refine r_sld hX dL_law_671 (sidx1 hj hL) ?_
  refine r_callVi (nn := 1) (As := [.int (xs (nI (4 * j) + 1).toNatClampNeg)]) (st := []) dL_law_672 (tX4_strike hb st _ nF nC nE w R.mw (xs (nI (4 * j) + 1).toNatClampNeg)) gL_law_X4_strike rfl (by decide +kernel) ⟨Nat.le_of_ble_eq_true rfl, Nat.le_of_ble_eq_true rfl⟩ ⟨rfl, rfl⟩ (ov_obj hb st _) rfl rfl (Nat.le_of_ble_eq_true rfl) ⟨hk, hn⟩ rfl (fun r2 hh hp => ?_)
  obtain ⟨rfl, rfl⟩ := hp
  generalize hm : (mstrike st (xs (nI (4 * j) + 1).toNatClampNeg)) = m at *
  refine r_istore (lo' := [(6, .int m.1), (5, .int r), (0, .ref b), (1, .ref (a 15)), (2, .ref (bb 29)), (3, .ref po), (4, .int (nI (4 * j)))]) dL_law_675 (by decide) rfl ?_
  refine r_aload_n dL_law_677 4 rfl ?_
  refine r_callVi (nn := 0) (As := []) (st := []) dL_law_678 (tX4_thrown hb m.2 _) gL_law_X4_thrown rfl (by decide +kernel) ⟨Nat.le_of_ble_eq_true rfl, Nat.le_of_ble_eq_true rfl⟩ ⟨rfl, rfl⟩ (ov_obj hb m.2 _) rfl rfl (Nat.le_of_ble_eq_true rfl) ⟨hk, hn⟩ rfl (fun r3 hh hp => ?_)
  obtain ⟨rfl, rfl⟩ := hp
  refine r_iload dL_law_681 1 rfl ?_
  refine r_icmp_eq (tgt := 688) dL_law_683 (by decide) (fun _ => ?_) (fun c => absurd hr.symm c)
  refine r_iload dL_law_688 1 rfl ?_
  refine r_if_ne (tgt := 705) dL_law_690 (by decide) (fun _ => ?_) (fun c => ?_)
  · refine r_goto (tgt := 1502) dL_law_705 (by decide) ?_
    refine r_lo (lo' := [(0, .ref b), (1, .ref (a 15)), (2, .ref (bb 29)), (3, .ref po), (4, .int (nI (4 * j)))]) [2, 3, 4, 5, 6] rfl ?_
    exact kk _ (LS_2 hb hpo h15 R' hg')
  · refine r_aload_n dL_law_693 5 rfl ?_
    refine r_iconst (v := 0) dL_law_694 (by decide) ?_
    refine r_lald dL_law_695 (LS_at hpo hg') (vp_in_nI (by decide) (by decide)) ?_
    refine r_iload dL_law_696 0 rfl ?_
    refine r_i2l dL_law_698 ?_
    refine r_lcmp dL_law_699 ?_
    refine r_if_eq (tgt := 705) dL_law_700 (by decide) (fun _ => ?_) (fun c2 => absurd (by rw [show f' (0 : Int32).toNatClampNeg = f' 0 from rfl, hf c]; exact lg_cmp_e _) c2)
    refine r_goto (tgt := 1502) dL_law_705 (by decide) ?_
    refine r_lo (lo' := [(0, .ref b), (1, .ref (a 15)), (2, .ref (bb 29)), (3, .ref po), (4, .int (nI (4 * j)))]) [2, 3, 4, 5, 6] rfl ?_
    exact kk _ (LS_2 hb hpo h15 R' hg')
set_option maxHeartbeats 4000000 in
set_option maxRecDepth 100000 in
theorem cs_mend {E : kE} {X : kX} {b L : Nat} {xs : Nat → Int32} {q1 q2 po j k n : Nat} {h : kH} (hX : kScr X b L xs) (hj : 4 * j + 4 ≤ L) (hL : L ≤ 2048) (hS : kLS E q1 q2 po h) (hk : k + 12 ≤ 601024) (hn : n + 500 ≤ 7293034) (kk : ∀ h', kLS E q1 q2 po h' → V E X room_1 cL_law 7 wsL_law RL (k + 12) (n + 500) h' [(0, .ref b), (1, .ref q1), (2, .ref q2), (3, .ref po), (4, .int (nI (4 * j)))] 1502 []) : V E X room_1 cL_law 7 wsL_law RL k n h [(0, .ref b), (1, .ref q1), (2, .ref q2), (3, .ref po), (4, .int (nI (4 * j)))] 708 [] := by
  obtain ⟨a, cap, bb, nF, nC, nE, w, dt, st, f, rfl, rfl, hb, hpo, hg, R, rfl⟩ := hS
  refine r_aload_n dL_law_708 1 rfl ?_
  refine r_aload_n dL_law_709 0 rfl ?_
  refine r_iload dL_law_710 4 rfl ?_
  refine r_iconst (v := 1) dL_law_712 (by decide) ?_
  refine r_iadd dL_law_713 ?_
  refine r_sld hX dL_law_714 (sidx1 hj hL) ?_
  refine r_aload_n dL_law_715 0 rfl ?_
  refine r_iload dL_law_716 4 rfl ?_
  refine r_iconst (v := 2) dL_law_718 (by decide) ?_
  refine r_iadd dL_law_719 ?_
  refine r_sld hX dL_law_720 (sidx2 hj hL) ?_
  refine r_aload_n dL_law_721 3 rfl ?_
  refine r_callXSH (nn := 4) (As := [.ref (a 15), .int (xs (nI (4 * j) + 1).toNatClampNeg), .int (xs (nI (4 * j) + 2).toNatClampNeg), .ref po]) (st := []) dL_law_722 (tL_mend hg R (ov_po hpo) (xs (nI (4 * j) + 1).toNatClampNeg) (xs (nI (4 * j) + 2).toNatClampNeg)) gL_law_L_mend rfl (by decide +kernel) ⟨Nat.le_of_ble_eq_true rfl, Nat.le_of_ble_eq_true rfl⟩ ⟨rfl, rfl⟩ rfl (Nat.le_of_ble_eq_true rfl) ⟨hk, hn⟩ rfl (fun Ec hh hp => hp.elim) (fun r hh hp => ?_)
  obtain ⟨a', cap', nF', nC', nE', w', dt', f', h15, R', hr, hf, hg', rfl⟩ := LS_1 hb hpo hp
  refine r_istore (lo' := [(5, .int r), (0, .ref b), (1, .ref (a 15)), (2, .ref (bb 29)), (3, .ref po), (4, .int (nI (4 * j)))]) dL_law_725 (by decide) rfl ?_
  refine r_aload_n dL_law_727 3 rfl ?_
  refine r_aload_n dL_law_728 1 rfl ?_
  refine r_iload dL_law_729 5 rfl ?_
  refine r_iconst (v := 1) dL_law_731 (by decide) ?_
  refine r_iadd dL_law_732 ?_
  refine r_sld hX dL_law_733 (sidx1 hj hL) ?_
  refine r_aload_n dL_law_734 1 rfl ?_
  refine r_iload dL_law_735 5 rfl ?_
  refine r_iconst (v := 2) dL_law_737 (by decide) ?_
  refine r_iadd dL_law_738 ?_
  refine r_sld hX dL_law_739 (sidx2 hj hL) ?_
  refine r_callVi (nn := 2) (As := [.int (xs (nI (4 * j) + 1).toNatClampNeg), .int (xs (nI (4 * j) + 2).toNatClampNeg)]) (st := []) dL_law_740 (tX4_mend hb st _ nF nC nE w R.mw (xs (nI (4 * j) + 1).toNatClampNeg) (xs (nI (4 * j) + 2).toNatClampNeg)) gL_law_X4_mend rfl (by decide +kernel) ⟨Nat.le_of_ble_eq_true rfl, Nat.le_of_ble_eq_true rfl⟩ ⟨rfl, rfl⟩ (ov_obj hb st _) rfl rfl (Nat.le_of_ble_eq_true rfl) ⟨hk, hn⟩ rfl (fun r2 hh hp => ?_)
  obtain ⟨rfl, rfl⟩ := hp
  generalize hm : (mmend st (xs (nI (4 * j) + 1).toNatClampNeg) (xs (nI (4 * j) + 2).toNatClampNeg)) = m at *
  refine r_istore (lo' := [(6, .int m.1), (5, .int r), (0, .ref b), (1, .ref (a 15)), (2, .ref (bb 29)), (3, .ref po), (4, .int (nI (4 * j)))]) dL_law_743 (by decide) rfl ?_
  refine r_aload_n dL_law_745 4 rfl ?_
  refine r_callVi (nn := 0) (As := []) (st := []) dL_law_746 (tX4_thrown hb m.2 _) gL_law_X4_thrown rfl (by decide +kernel) ⟨Nat.le_of_ble_eq_true rfl, Nat.le_of_ble_eq_true rfl⟩ ⟨rfl, rfl⟩ (ov_obj hb m.2 _) rfl rfl (Nat.le_of_ble_eq_true rfl) ⟨hk, hn⟩ rfl (fun r3 hh hp => ?_)
  obtain ⟨rfl, rfl⟩ := hp
  refine r_iload dL_law_749 1 rfl ?_
  refine r_icmp_eq (tgt := 756) dL_law_751 (by decide) (fun _ => ?_) (fun c => absurd hr.symm c)
  refine r_iload dL_law_756 1 rfl ?_
  refine r_if_ne (tgt := 773) dL_law_758 (by decide) (fun _ => ?_) (fun c => ?_)
  · refine r_goto (tgt := 1502) dL_law_773 (by decide) ?_
    refine r_lo (lo' := [(0, .ref b), (1, .ref (a 15)), (2, .ref (bb 29)), (3, .ref po), (4, .int (nI (4 * j)))]) [2, 3, 4, 5, 6] rfl ?_
    exact kk _ (LS_2 hb hpo h15 R' hg')
  · refine r_aload_n dL_law_761 5 rfl ?_
    refine r_iconst (v := 0) dL_law_762 (by decide) ?_
    refine r_lald dL_law_763 (LS_at hpo hg') (vp_in_nI (by decide) (by decide)) ?_
    refine r_iload dL_law_764 0 rfl ?_
    refine r_i2l dL_law_766 ?_
    refine r_lcmp dL_law_767 ?_
    refine r_if_eq (tgt := 773) dL_law_768 (by decide) (fun _ => ?_) (fun c2 => absurd (by rw [show f' (0 : Int32).toNatClampNeg = f' 0 from rfl, hf c]; exact lg_cmp_e _) c2)
    refine r_goto (tgt := 1502) dL_law_773 (by decide) ?_
    refine r_lo (lo' := [(0, .ref b), (1, .ref (a 15)), (2, .ref (bb 29)), (3, .ref po), (4, .int (nI (4 * j)))]) [2, 3, 4, 5, 6] rfl ?_
    exact kk _ (LS_2 hb hpo h15 R' hg')
set_option maxHeartbeats 4000000 in
set_option maxRecDepth 100000 in
theorem cs_promise {E : kE} {X : kX} {b L : Nat} {xs : Nat → Int32} {q1 q2 po j k n : Nat} {h : kH} (hX : kScr X b L xs) (hj : 4 * j + 4 ≤ L) (hL : L ≤ 2048) (hS : kLS E q1 q2 po h) (hk : k + 12 ≤ 601024) (hn : n + 500 ≤ 7293034) (kk : ∀ h', kLS E q1 q2 po h' → V E X room_1 cL_law 7 wsL_law RL (k + 12) (n + 500) h' [(0, .ref b), (1, .ref q1), (2, .ref q2), (3, .ref po), (4, .int (nI (4 * j)))] 1502 []) : V E X room_1 cL_law 7 wsL_law RL k n h [(0, .ref b), (1, .ref q1), (2, .ref q2), (3, .ref po), (4, .int (nI (4 * j)))] 776 [] := by
  obtain ⟨a, cap, bb, nF, nC, nE, w, dt, st, f, rfl, rfl, hb, hpo, hg, R, rfl⟩ := hS
  refine r_aload_n dL_law_776 1 rfl ?_
  refine r_aload_n dL_law_777 0 rfl ?_
  refine r_iload dL_law_778 4 rfl ?_
  refine r_iconst (v := 1) dL_law_780 (by decide) ?_
  refine r_iadd dL_law_781 ?_
  refine r_sld hX dL_law_782 (sidx1 hj hL) ?_
  refine r_aload_n dL_law_783 0 rfl ?_
  refine r_iload dL_law_784 4 rfl ?_
  refine r_iconst (v := 2) dL_law_786 (by decide) ?_
  refine r_iadd dL_law_787 ?_
  refine r_sld hX dL_law_788 (sidx2 hj hL) ?_
  refine r_aload_n dL_law_789 3 rfl ?_
  refine r_callXSH (nn := 4) (As := [.ref (a 15), .int (xs (nI (4 * j) + 1).toNatClampNeg), .int (xs (nI (4 * j) + 2).toNatClampNeg), .ref po]) (st := []) dL_law_790 (tL_promise hg R (ov_po hpo) (xs (nI (4 * j) + 1).toNatClampNeg) (xs (nI (4 * j) + 2).toNatClampNeg)) gL_law_L_promise rfl (by decide +kernel) ⟨Nat.le_of_ble_eq_true rfl, Nat.le_of_ble_eq_true rfl⟩ ⟨rfl, rfl⟩ rfl (Nat.le_of_ble_eq_true rfl) ⟨hk, hn⟩ rfl (fun Ec hh hp => hp.elim) (fun r hh hp => ?_)
  obtain ⟨a', cap', nF', nC', nE', w', dt', f', h15, R', hr, hf, hg', rfl⟩ := LS_1 hb hpo hp
  refine r_istore (lo' := [(5, .int r), (0, .ref b), (1, .ref (a 15)), (2, .ref (bb 29)), (3, .ref po), (4, .int (nI (4 * j)))]) dL_law_793 (by decide) rfl ?_
  refine r_aload_n dL_law_795 3 rfl ?_
  refine r_aload_n dL_law_796 1 rfl ?_
  refine r_iload dL_law_797 5 rfl ?_
  refine r_iconst (v := 1) dL_law_799 (by decide) ?_
  refine r_iadd dL_law_800 ?_
  refine r_sld hX dL_law_801 (sidx1 hj hL) ?_
  refine r_aload_n dL_law_802 1 rfl ?_
  refine r_iload dL_law_803 5 rfl ?_
  refine r_iconst (v := 2) dL_law_805 (by decide) ?_
  refine r_iadd dL_law_806 ?_
  refine r_sld hX dL_law_807 (sidx2 hj hL) ?_
  refine r_callVi (nn := 2) (As := [.int (xs (nI (4 * j) + 1).toNatClampNeg), .int (xs (nI (4 * j) + 2).toNatClampNeg)]) (st := []) dL_law_808 (tX4_promise hb st _ (xs (nI (4 * j) + 1).toNatClampNeg) (xs (nI (4 * j) + 2).toNatClampNeg)) gL_law_X4_promise rfl (by decide +kernel) ⟨Nat.le_of_ble_eq_true rfl, Nat.le_of_ble_eq_true rfl⟩ ⟨rfl, rfl⟩ (ov_obj hb st _) rfl rfl (Nat.le_of_ble_eq_true rfl) ⟨hk, hn⟩ rfl (fun r2 hh hp => ?_)
  obtain ⟨rfl, rfl⟩ := hp
  generalize hm : (mpromise st (xs (nI (4 * j) + 1).toNatClampNeg) (xs (nI (4 * j) + 2).toNatClampNeg)) = m at *
  refine r_istore (lo' := [(6, .int m.1), (5, .int r), (0, .ref b), (1, .ref (a 15)), (2, .ref (bb 29)), (3, .ref po), (4, .int (nI (4 * j)))]) dL_law_811 (by decide) rfl ?_
  refine r_aload_n dL_law_813 4 rfl ?_
  refine r_callVi (nn := 0) (As := []) (st := []) dL_law_814 (tX4_thrown hb m.2 _) gL_law_X4_thrown rfl (by decide +kernel) ⟨Nat.le_of_ble_eq_true rfl, Nat.le_of_ble_eq_true rfl⟩ ⟨rfl, rfl⟩ (ov_obj hb m.2 _) rfl rfl (Nat.le_of_ble_eq_true rfl) ⟨hk, hn⟩ rfl (fun r3 hh hp => ?_)
  obtain ⟨rfl, rfl⟩ := hp
  refine r_iload dL_law_817 1 rfl ?_
  refine r_icmp_eq (tgt := 824) dL_law_819 (by decide) (fun _ => ?_) (fun c => absurd hr.symm c)
  refine r_iload dL_law_824 1 rfl ?_
  refine r_if_ne (tgt := 841) dL_law_826 (by decide) (fun _ => ?_) (fun c => ?_)
  · refine r_goto (tgt := 1502) dL_law_841 (by decide) ?_
    refine r_lo (lo' := [(0, .ref b), (1, .ref (a 15)), (2, .ref (bb 29)), (3, .ref po), (4, .int (nI (4 * j)))]) [2, 3, 4, 5, 6] rfl ?_
    exact kk _ (LS_2 hb hpo h15 R' hg')
  · refine r_aload_n dL_law_829 5 rfl ?_
    refine r_iconst (v := 0) dL_law_830 (by decide) ?_
    refine r_lald dL_law_831 (LS_at hpo hg') (vp_in_nI (by decide) (by decide)) ?_
    refine r_iload dL_law_832 0 rfl ?_
    refine r_i2l dL_law_834 ?_
    refine r_lcmp dL_law_835 ?_
    refine r_if_eq (tgt := 841) dL_law_836 (by decide) (fun _ => ?_) (fun c2 => absurd (by rw [show f' (0 : Int32).toNatClampNeg = f' 0 from rfl, hf c]; exact lg_cmp_e _) c2)
    refine r_goto (tgt := 1502) dL_law_841 (by decide) ?_
    refine r_lo (lo' := [(0, .ref b), (1, .ref (a 15)), (2, .ref (bb 29)), (3, .ref po), (4, .int (nI (4 * j)))]) [2, 3, 4, 5, 6] rfl ?_
    exact kk _ (LS_2 hb hpo h15 R' hg')
set_option maxHeartbeats 4000000 in
set_option maxRecDepth 100000 in
theorem cs_slot {E : kE} {X : kX} {b L : Nat} {xs : Nat → Int32} {q1 q2 po j k n : Nat} {h : kH} (hX : kScr X b L xs) (hj : 4 * j + 4 ≤ L) (hL : L ≤ 2048) (hS : kLS E q1 q2 po h) (hk : k + 12 ≤ 601024) (hn : n + 500 ≤ 7293034) (kk : ∀ h', kLS E q1 q2 po h' → V E X room_1 cL_law 7 wsL_law RL (k + 12) (n + 500) h' [(0, .ref b), (1, .ref q1), (2, .ref q2), (3, .ref po), (4, .int (nI (4 * j)))] 1502 []) : V E X room_1 cL_law 7 wsL_law RL k n h [(0, .ref b), (1, .ref q1), (2, .ref q2), (3, .ref po), (4, .int (nI (4 * j)))] 844 [] := by
  obtain ⟨a, cap, bb, nF, nC, nE, w, dt, st, f, rfl, rfl, hb, hpo, hg, R, rfl⟩ := hS
  refine r_aload_n dL_law_844 1 rfl ?_
  refine r_aload_n dL_law_845 0 rfl ?_
  refine r_iload dL_law_846 4 rfl ?_
  refine r_iconst (v := 1) dL_law_848 (by decide) ?_
  refine r_iadd dL_law_849 ?_
  refine r_sld hX dL_law_850 (sidx1 hj hL) ?_
  refine r_aload_n dL_law_851 0 rfl ?_
  refine r_iload dL_law_852 4 rfl ?_
  refine r_iconst (v := 2) dL_law_854 (by decide) ?_
  refine r_iadd dL_law_855 ?_
  refine r_sld hX dL_law_856 (sidx2 hj hL) ?_
  refine r_aload_n dL_law_857 3 rfl ?_
  refine r_callXSH (nn := 4) (As := [.ref (a 15), .int (xs (nI (4 * j) + 1).toNatClampNeg), .int (xs (nI (4 * j) + 2).toNatClampNeg), .ref po]) (st := []) dL_law_858 (tL_slot hg R (ov_po hpo) (xs (nI (4 * j) + 1).toNatClampNeg) (xs (nI (4 * j) + 2).toNatClampNeg)) gL_law_L_slot rfl (by decide +kernel) ⟨Nat.le_of_ble_eq_true rfl, Nat.le_of_ble_eq_true rfl⟩ ⟨rfl, rfl⟩ rfl (Nat.le_of_ble_eq_true rfl) ⟨hk, hn⟩ rfl (fun Ec hh hp => hp.elim) (fun r hh hp => ?_)
  obtain ⟨a', cap', nF', nC', nE', w', dt', f', h15, R', hr, hf, hg', rfl⟩ := LS_1 hb hpo hp
  refine r_istore (lo' := [(5, .int r), (0, .ref b), (1, .ref (a 15)), (2, .ref (bb 29)), (3, .ref po), (4, .int (nI (4 * j)))]) dL_law_861 (by decide) rfl ?_
  refine r_aload_n dL_law_863 3 rfl ?_
  refine r_aload_n dL_law_864 1 rfl ?_
  refine r_iload dL_law_865 5 rfl ?_
  refine r_iconst (v := 1) dL_law_867 (by decide) ?_
  refine r_iadd dL_law_868 ?_
  refine r_sld hX dL_law_869 (sidx1 hj hL) ?_
  refine r_aload_n dL_law_870 1 rfl ?_
  refine r_iload dL_law_871 5 rfl ?_
  refine r_iconst (v := 2) dL_law_873 (by decide) ?_
  refine r_iadd dL_law_874 ?_
  refine r_sld hX dL_law_875 (sidx2 hj hL) ?_
  refine r_callVi (nn := 2) (As := [.int (xs (nI (4 * j) + 1).toNatClampNeg), .int (xs (nI (4 * j) + 2).toNatClampNeg)]) (st := []) dL_law_876 (tX4_slot hb st _ (xs (nI (4 * j) + 1).toNatClampNeg) (xs (nI (4 * j) + 2).toNatClampNeg)) gL_law_X4_slot rfl (by decide +kernel) ⟨Nat.le_of_ble_eq_true rfl, Nat.le_of_ble_eq_true rfl⟩ ⟨rfl, rfl⟩ (ov_obj hb st _) rfl rfl (Nat.le_of_ble_eq_true rfl) ⟨hk, hn⟩ rfl (fun r2 hh hp => ?_)
  obtain ⟨rfl, rfl⟩ := hp
  generalize hm : (mslot st (xs (nI (4 * j) + 1).toNatClampNeg) (xs (nI (4 * j) + 2).toNatClampNeg)) = m at *
  refine r_istore (lo' := [(6, .int m.1), (5, .int r), (0, .ref b), (1, .ref (a 15)), (2, .ref (bb 29)), (3, .ref po), (4, .int (nI (4 * j)))]) dL_law_879 (by decide) rfl ?_
  refine r_aload_n dL_law_881 4 rfl ?_
  refine r_callVi (nn := 0) (As := []) (st := []) dL_law_882 (tX4_thrown hb m.2 _) gL_law_X4_thrown rfl (by decide +kernel) ⟨Nat.le_of_ble_eq_true rfl, Nat.le_of_ble_eq_true rfl⟩ ⟨rfl, rfl⟩ (ov_obj hb m.2 _) rfl rfl (Nat.le_of_ble_eq_true rfl) ⟨hk, hn⟩ rfl (fun r3 hh hp => ?_)
  obtain ⟨rfl, rfl⟩ := hp
  refine r_iload dL_law_885 1 rfl ?_
  refine r_icmp_eq (tgt := 892) dL_law_887 (by decide) (fun _ => ?_) (fun c => absurd hr.symm c)
  refine r_iload dL_law_892 1 rfl ?_
  refine r_if_ne (tgt := 909) dL_law_894 (by decide) (fun _ => ?_) (fun c => ?_)
  · refine r_goto (tgt := 1502) dL_law_909 (by decide) ?_
    refine r_lo (lo' := [(0, .ref b), (1, .ref (a 15)), (2, .ref (bb 29)), (3, .ref po), (4, .int (nI (4 * j)))]) [2, 3, 4, 5, 6] rfl ?_
    exact kk _ (LS_2 hb hpo h15 R' hg')
  · refine r_aload_n dL_law_897 5 rfl ?_
    refine r_iconst (v := 0) dL_law_898 (by decide) ?_
    refine r_lald dL_law_899 (LS_at hpo hg') (vp_in_nI (by decide) (by decide)) ?_
    refine r_iload dL_law_900 0 rfl ?_
    refine r_i2l dL_law_902 ?_
    refine r_lcmp dL_law_903 ?_
    refine r_if_eq (tgt := 909) dL_law_904 (by decide) (fun _ => ?_) (fun c2 => absurd (by rw [show f' (0 : Int32).toNatClampNeg = f' 0 from rfl, hf c]; exact lg_cmp_e _) c2)
    refine r_goto (tgt := 1502) dL_law_909 (by decide) ?_
    refine r_lo (lo' := [(0, .ref b), (1, .ref (a 15)), (2, .ref (bb 29)), (3, .ref po), (4, .int (nI (4 * j)))]) [2, 3, 4, 5, 6] rfl ?_
    exact kk _ (LS_2 hb hpo h15 R' hg')
