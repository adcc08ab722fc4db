/-! the law's cases, on -/
set_option maxHeartbeats 4000000 in
set_option maxRecDepth 100000 in
theorem cs_frame {E : kE} {X : kX} {b L : Nat} {xs : Nat → Int32} {q1 q2 po j k n : Nat} {h : kH} (hX : kScr X b L xs) (hj : 4 * j + 4 ≤ L) (hL : L ≤ 2048) (hS : kLS E q1 q2 po h) (hk : k + 12 ≤ 601024) (hn : n + 500 ≤ 7293034) (kk : ∀ h', kLS E q1 q2 po h' → V E X room_1 cL_law 7 wsL_law RL (k + 12) (n + 500) h' [(0, .ref b), (1, .ref q1), (2, .ref q2), (3, .ref po), (4, .int (nI (4 * j)))] 1502 []) : V E X room_1 cL_law 7 wsL_law RL k n h [(0, .ref b), (1, .ref q1), (2, .ref q2), (3, .ref po), (4, .int (nI (4 * j)))] 912 [] := by
  obtain ⟨a, cap, bb, nF, nC, nE, w, dt, st, f, rfl, rfl, hb, hpo, hg, R, rfl⟩ := hS
  have hpn : ov E bb st (kup h00 po (outC E f)) = ov E bb st (kup h00 po (outC E f)) := rfl
  refine r_aload_n dL_law_912 1 rfl ?_
  refine r_callVi (nn := 0) (As := []) (st := []) dL_law_913 (tX3_frame dt nF nC nE hg) gL_law_X3_frame rfl (by decide +kernel) ⟨Nat.le_of_ble_eq_true rfl, Nat.le_of_ble_eq_true rfl⟩ ⟨rfl, rfl⟩ (dw_obj hg) rfl rfl (Nat.le_of_ble_eq_true rfl) ⟨by show k + 0 ≤ 601024; omega, by show n + 0 ≤ 7293034; omega⟩ rfl (fun r hh hp => ?_)
  obtain ⟨rfl, rfl⟩ := hp
  rw [dw_ov hb hg]
  refine r_aload_n dL_law_916 2 rfl ?_
  refine r_callVi (nn := 0) (As := []) (st := [.int (dt 1 0)]) dL_law_917 (tX4_frame hb st _) gL_law_X4_frame rfl (by decide +kernel) ⟨Nat.le_of_ble_eq_true rfl, Nat.le_of_ble_eq_true rfl⟩ ⟨rfl, rfl⟩ (ov_obj hb st _) rfl rfl (Nat.le_of_ble_eq_true rfl) ⟨by show k + 0 + 0 ≤ 601024; omega, by show n + 0 + 0 ≤ 7293034; omega⟩ rfl (fun r hh hp => ?_)
  obtain ⟨rfl, rfl⟩ := hp
  refine r_icmp_eq (tgt := 1502) dL_law_920 (by decide) (fun _ => ?_) (fun c => absurd ((dwf_w R.dv).trans (mwf_w R.mw).symm) c)
  refine r_wid (k' := k + 12) (n' := n + 500) (Nat.le_add_right _ _) (Nat.le_add_right _ _) ?_
  exact kk _ (LS_2 hb hpo rfl (dR_0 R 0) hg)
set_option maxHeartbeats 4000000 in
set_option maxRecDepth 100000 in
theorem cs_shown {E : kE} {X : kX} {b L : Nat} {xs : Nat → Int32} {q1 q2 po j k n : Nat} {h : kH} (hX : kScr X b L xs) (hj : 4 * j + 4 ≤ L) (hL : L ≤ 2048) (hS : kLS E q1 q2 po h) (hk : k + 12 ≤ 601024) (hn : n + 500 ≤ 7293034) (kk : ∀ h', kLS E q1 q2 po h' → V E X room_1 cL_law 7 wsL_law RL (k + 12) (n + 500) h' [(0, .ref b), (1, .ref q1), (2, .ref q2), (3, .ref po), (4, .int (nI (4 * j)))] 1502 []) : V E X room_1 cL_law 7 wsL_law RL k n h [(0, .ref b), (1, .ref q1), (2, .ref q2), (3, .ref po), (4, .int (nI (4 * j)))] 925 [] := by
  obtain ⟨a, cap, bb, nF, nC, nE, w, dt, st, f, rfl, rfl, hb, hpo, hg, R, rfl⟩ := hS
  refine r_aload_n dL_law_925 1 rfl ?_
  refine r_aload_n dL_law_926 0 rfl ?_
  refine r_iload dL_law_927 4 rfl ?_
  refine r_iconst (v := 1) dL_law_929 (by decide) ?_
  refine r_iadd dL_law_930 ?_
  refine r_sld hX dL_law_931 (sidx1 hj hL) ?_
  refine r_aload_n dL_law_932 0 rfl ?_
  refine r_iload dL_law_933 4 rfl ?_
  refine r_iconst (v := 2) dL_law_935 (by decide) ?_
  refine r_iadd dL_law_936 ?_
  refine r_sld hX dL_law_937 (sidx2 hj hL) ?_
  refine r_aload_n dL_law_938 3 rfl ?_
  refine r_callXSH (nn := 4) (As := [.ref (a 15), .int (xs (nI (4 * j) + 1).toNatClampNeg), .int (xs (nI (4 * j) + 2).toNatClampNeg), .ref po]) (st := []) dL_law_939 (tL_shown hg R (ov_po hpo) (xs (nI (4 * j) + 1).toNatClampNeg) (xs (nI (4 * j) + 2).toNatClampNeg)) gL_law_L_shown rfl (by decide +kernel) ⟨Nat.le_of_ble_eq_true rfl, Nat.le_of_ble_eq_true rfl⟩ ⟨rfl, rfl⟩ rfl (Nat.le_of_ble_eq_true rfl) ⟨hk, hn⟩ rfl (fun Ec hh hp => hp.elim) (fun r hh hp => ?_)
  obtain ⟨a', cap', nF', nC', nE', w', dt', f', h15, R', hr, hf, hg', rfl⟩ := LS_1 hb hpo hp
  refine r_istore (lo' := [(5, .int r), (0, .ref b), (1, .ref (a 15)), (2, .ref (bb 29)), (3, .ref po), (4, .int (nI (4 * j)))]) dL_law_942 (by decide) rfl ?_
  refine r_aload_n dL_law_944 3 rfl ?_
  refine r_aload_n dL_law_945 1 rfl ?_
  refine r_iload dL_law_946 5 rfl ?_
  refine r_iconst (v := 1) dL_law_948 (by decide) ?_
  refine r_iadd dL_law_949 ?_
  refine r_sld hX dL_law_950 (sidx1 hj hL) ?_
  refine r_aload_n dL_law_951 1 rfl ?_
  refine r_iload dL_law_952 5 rfl ?_
  refine r_iconst (v := 2) dL_law_954 (by decide) ?_
  refine r_iadd dL_law_955 ?_
  refine r_sld hX dL_law_956 (sidx2 hj hL) ?_
  refine r_callVi (nn := 2) (As := [.int (xs (nI (4 * j) + 1).toNatClampNeg), .int (xs (nI (4 * j) + 2).toNatClampNeg)]) (st := []) dL_law_957 (tX4_shown hb st _ nF nC nE w R.mw (xs (nI (4 * j) + 1).toNatClampNeg) (xs (nI (4 * j) + 2).toNatClampNeg)) gL_law_X4_shown rfl (by decide +kernel) ⟨Nat.le_of_ble_eq_true rfl, Nat.le_of_ble_eq_true rfl⟩ ⟨rfl, rfl⟩ (ov_obj hb st _) rfl rfl (Nat.le_of_ble_eq_true rfl) ⟨hk, hn⟩ rfl (fun r2 hh hp => ?_)
  obtain ⟨rfl, rfl⟩ := hp
  generalize hm : (mshown st (xs (nI (4 * j) + 1).toNatClampNeg) (xs (nI (4 * j) + 2).toNatClampNeg)) = m at *
  refine r_istore (lo' := [(6, .int m.1), (5, .int r), (0, .ref b), (1, .ref (a 15)), (2, .ref (bb 29)), (3, .ref po), (4, .int (nI (4 * j)))]) dL_law_960 (by decide) rfl ?_
  refine r_aload_n dL_law_962 4 rfl ?_
  refine r_callVi (nn := 0) (As := []) (st := []) dL_law_963 (tX4_thrown hb m.2 _) gL_law_X4_thrown rfl (by decide +kernel) ⟨Nat.le_of_ble_eq_true rfl, Nat.le_of_ble_eq_true rfl⟩ ⟨rfl, rfl⟩ (ov_obj hb m.2 _) rfl rfl (Nat.le_of_ble_eq_true rfl) ⟨hk, hn⟩ rfl (fun r3 hh hp => ?_)
  obtain ⟨rfl, rfl⟩ := hp
  refine r_iload dL_law_966 1 rfl ?_
  refine r_icmp_eq (tgt := 973) dL_law_968 (by decide) (fun _ => ?_) (fun c => absurd hr.symm c)
  refine r_iload dL_law_973 1 rfl ?_
  refine r_if_ne (tgt := 990) dL_law_975 (by decide) (fun _ => ?_) (fun c => ?_)
  · refine r_goto (tgt := 1502) dL_law_990 (by decide) ?_
    refine r_lo (lo' := [(0, .ref b), (1, .ref (a 15)), (2, .ref (bb 29)), (3, .ref po), (4, .int (nI (4 * j)))]) [2, 3, 4, 5, 6] rfl ?_
    exact kk _ (LS_2 hb hpo h15 R' hg')
  · refine r_aload_n dL_law_978 5 rfl ?_
    refine r_iconst (v := 0) dL_law_979 (by decide) ?_
    refine r_lald dL_law_980 (LS_at hpo hg') (vp_in_nI (by decide) (by decide)) ?_
    refine r_iload dL_law_981 0 rfl ?_
    refine r_i2l dL_law_983 ?_
    refine r_lcmp dL_law_984 ?_
    refine r_if_eq (tgt := 990) dL_law_985 (by decide) (fun _ => ?_) (fun c2 => absurd (by rw [show f' (0 : Int32).toNatClampNeg = f' 0 from rfl, hf c]; exact lg_cmp_e _) c2)
    refine r_goto (tgt := 1502) dL_law_990 (by decide) ?_
    refine r_lo (lo' := [(0, .ref b), (1, .ref (a 15)), (2, .ref (bb 29)), (3, .ref po), (4, .int (nI (4 * j)))]) [2, 3, 4, 5, 6] rfl ?_
    exact kk _ (LS_2 hb hpo h15 R' hg')
set_option maxHeartbeats 4000000 in
set_option maxRecDepth 100000 in
theorem cs_seen {E : kE} {X : kX} {b L : Nat} {xs : Nat → Int32} {q1 q2 po j k n : Nat} {h : kH} (hX : kScr X b L xs) (hj : 4 * j + 4 ≤ L) (hL : L ≤ 2048) (hS : kLS E q1 q2 po h) (hk : k + 12 ≤ 601024) (hn : n + 500 ≤ 7293034) (kk : ∀ h', kLS E q1 q2 po h' → V E X room_1 cL_law 7 wsL_law RL (k + 12) (n + 500) h' [(0, .ref b), (1, .ref q1), (2, .ref q2), (3, .ref po), (4, .int (nI (4 * j)))] 1502 []) : V E X room_1 cL_law 7 wsL_law RL k n h [(0, .ref b), (1, .ref q1), (2, .ref q2), (3, .ref po), (4, .int (nI (4 * j)))] 993 [] := by
  obtain ⟨a, cap, bb, nF, nC, nE, w, dt, st, f, rfl, rfl, hb, hpo, hg, R, rfl⟩ := hS
  have hpn : ov E bb st (kup h00 po (outC E f)) = ov E bb st (kup h00 po (outC E f)) := rfl
  refine r_aload_n dL_law_993 1 rfl ?_
  refine r_callVi (nn := 0) (As := []) (st := []) dL_law_994 (tX3_seen dt nF nC nE hg) gL_law_X3_seen rfl (by decide +kernel) ⟨Nat.le_of_ble_eq_true rfl, Nat.le_of_ble_eq_true rfl⟩ ⟨rfl, rfl⟩ (dw_obj hg) rfl rfl (Nat.le_of_ble_eq_true rfl) ⟨by show k + 0 ≤ 601024; omega, by show n + 0 ≤ 7293034; omega⟩ rfl (fun r hh hp => ?_)
  obtain ⟨rfl, rfl⟩ := hp
  rw [dw_ov hb hg]
  refine r_aload_n dL_law_997 2 rfl ?_
  refine r_callVi (nn := 0) (As := []) (st := [.int (dt 3 0)]) dL_law_998 (tX4_seen hb st _) gL_law_X4_seen rfl (by decide +kernel) ⟨Nat.le_of_ble_eq_true rfl, Nat.le_of_ble_eq_true rfl⟩ ⟨rfl, rfl⟩ (ov_obj hb st _) rfl rfl (Nat.le_of_ble_eq_true rfl) ⟨by show k + 0 + 0 ≤ 601024; omega, by show n + 0 + 0 ≤ 7293034; omega⟩ rfl (fun r hh hp => ?_)
  obtain ⟨rfl, rfl⟩ := hp
  refine r_icmp_eq (tgt := 1502) dL_law_1001 (by decide) (fun _ => ?_) (fun c => absurd R.e3 c)
  refine r_wid (k' := k + 12) (n' := n + 500) (Nat.le_add_right _ _) (Nat.le_add_right _ _) ?_
  exact kk _ (LS_2 hb hpo rfl (dR_0 R 0) hg)
set_option maxHeartbeats 4000000 in
set_option maxRecDepth 100000 in
theorem cs_points {E : kE} {X : kX} {b L : Nat} {xs : Nat → Int32} {q1 q2 po j k n : Nat} {h : kH} (hX : kScr X b L xs) (hj : 4 * j + 4 ≤ L) (hL : L ≤ 2048) (hS : kLS E q1 q2 po h) (hk : k + 12 ≤ 601024) (hn : n + 500 ≤ 7293034) (kk : ∀ h', kLS E q1 q2 po h' → V E X room_1 cL_law 7 wsL_law RL (k + 12) (n + 500) h' [(0, .ref b), (1, .ref q1), (2, .ref q2), (3, .ref po), (4, .int (nI (4 * j)))] 1502 []) : V E X room_1 cL_law 7 wsL_law RL k n h [(0, .ref b), (1, .ref q1), (2, .ref q2), (3, .ref po), (4, .int (nI (4 * j)))] 1006 [] := by
  obtain ⟨a, cap, bb, nF, nC, nE, w, dt, st, f, rfl, rfl, hb, hpo, hg, R, rfl⟩ := hS
  refine r_aload_n dL_law_1006 1 rfl ?_
  refine r_aload_n dL_law_1007 0 rfl ?_
  refine r_iload dL_law_1008 4 rfl ?_
  refine r_iconst (v := 1) dL_law_1010 (by decide) ?_
  refine r_iadd dL_law_1011 ?_
  refine r_sld hX dL_law_1012 (sidx1 hj hL) ?_
  refine r_aload_n dL_law_1013 0 rfl ?_
  refine r_iload dL_law_1014 4 rfl ?_
  refine r_iconst (v := 2) dL_law_1016 (by decide) ?_
  refine r_iadd dL_law_1017 ?_
  refine r_sld hX dL_law_1018 (sidx2 hj hL) ?_
  refine r_aload_n dL_law_1019 3 rfl ?_
  refine r_callXSH (nn := 4) (As := [.ref (a 15), .int (xs (nI (4 * j) + 1).toNatClampNeg), .int (xs (nI (4 * j) + 2).toNatClampNeg), .ref po]) (st := []) dL_law_1020 (tL_points hg R (ov_po hpo) (xs (nI (4 * j) + 1).toNatClampNeg) (xs (nI (4 * j) + 2).toNatClampNeg)) gL_law_L_points rfl (by decide +kernel) ⟨Nat.le_of_ble_eq_true rfl, Nat.le_of_ble_eq_true rfl⟩ ⟨rfl, rfl⟩ rfl (Nat.le_of_ble_eq_true rfl) ⟨hk, hn⟩ rfl (fun Ec hh hp => hp.elim) (fun r hh hp => ?_)
  obtain ⟨a', cap', nF', nC', nE', w', dt', f', h15, R', hr, hf, hg', rfl⟩ := LS_1 hb hpo hp
  refine r_istore (lo' := [(5, .int r), (0, .ref b), (1, .ref (a 15)), (2, .ref (bb 29)), (3, .ref po), (4, .int (nI (4 * j)))]) dL_law_1023 (by decide) rfl ?_
  refine r_aload_n dL_law_1025 3 rfl ?_
  refine r_aload_n dL_law_1026 1 rfl ?_
  refine r_iload dL_law_1027 5 rfl ?_
  refine r_iconst (v := 1) dL_law_1029 (by decide) ?_
  refine r_iadd dL_law_1030 ?_
  refine r_sld hX dL_law_1031 (sidx1 hj hL) ?_
  refine r_aload_n dL_law_1032 1 rfl ?_
  refine r_iload dL_law_1033 5 rfl ?_
  refine r_iconst (v := 2) dL_law_1035 (by decide) ?_
  refine r_iadd dL_law_1036 ?_
  refine r_sld hX dL_law_1037 (sidx2 hj hL) ?_
  refine r_callVi (nn := 2) (As := [.int (xs (nI (4 * j) + 1).toNatClampNeg), .int (xs (nI (4 * j) + 2).toNatClampNeg)]) (st := []) dL_law_1038 (tX4_points hb st _ nF nC nE w R.mw (xs (nI (4 * j) + 1).toNatClampNeg) (xs (nI (4 * j) + 2).toNatClampNeg)) gL_law_X4_points rfl (by decide +kernel) ⟨Nat.le_of_ble_eq_true rfl, Nat.le_of_ble_eq_true rfl⟩ ⟨rfl, rfl⟩ (ov_obj hb st _) rfl rfl (Nat.le_of_ble_eq_true rfl) ⟨hk, hn⟩ rfl (fun r2 hh hp => ?_)
  obtain ⟨rfl, rfl⟩ := hp
  generalize hm : (mpoints st nE (xs (nI (4 * j) + 1).toNatClampNeg) (xs (nI (4 * j) + 2).toNatClampNeg) 3000) = m at *
  refine r_istore (lo' := [(6, .int m.1), (5, .int r), (0, .ref b), (1, .ref (a 15)), (2, .ref (bb 29)), (3, .ref po), (4, .int (nI (4 * j)))]) dL_law_1041 (by decide) rfl ?_
  refine r_aload_n dL_law_1043 4 rfl ?_
  refine r_callVi (nn := 0) (As := []) (st := []) dL_law_1044 (tX4_thrown hb m.2 _) gL_law_X4_thrown rfl (by decide +kernel) ⟨Nat.le_of_ble_eq_true rfl, Nat.le_of_ble_eq_true rfl⟩ ⟨rfl, rfl⟩ (ov_obj hb m.2 _) rfl rfl (Nat.le_of_ble_eq_true rfl) ⟨hk, hn⟩ rfl (fun r3 hh hp => ?_)
  obtain ⟨rfl, rfl⟩ := hp
  refine r_iload dL_law_1047 1 rfl ?_
  refine r_icmp_eq (tgt := 1054) dL_law_1049 (by decide) (fun _ => ?_) (fun c => absurd hr.symm c)
  refine r_iload dL_law_1054 1 rfl ?_
  refine r_if_ne (tgt := 1071) dL_law_1056 (by decide) (fun _ => ?_) (fun c => ?_)
  · refine r_goto (tgt := 1502) dL_law_1071 (by decide) ?_
    refine r_lo (lo' := [(0, .ref b), (1, .ref (a 15)), (2, .ref (bb 29)), (3, .ref po), (4, .int (nI (4 * j)))]) [2, 3, 4, 5, 6] rfl ?_
    exact kk _ (LS_2 hb hpo h15 R' hg')
  · refine r_aload_n dL_law_1059 5 rfl ?_
    refine r_iconst (v := 0) dL_law_1060 (by decide) ?_
    refine r_lald dL_law_1061 (LS_at hpo hg') (vp_in_nI (by decide) (by decide)) ?_
    refine r_iload dL_law_1062 0 rfl ?_
    refine r_i2l dL_law_1064 ?_
    refine r_lcmp dL_law_1065 ?_
    refine r_if_eq (tgt := 1071) dL_law_1066 (by decide) (fun _ => ?_) (fun c2 => absurd (by rw [show f' (0 : Int32).toNatClampNeg = f' 0 from rfl, hf c]; exact lg_cmp_e _) c2)
    refine r_goto (tgt := 1502) dL_law_1071 (by decide) ?_
    refine r_lo (lo' := [(0, .ref b), (1, .ref (a 15)), (2, .ref (bb 29)), (3, .ref po), (4, .int (nI (4 * j)))]) [2, 3, 4, 5, 6] rfl ?_
    exact kk _ (LS_2 hb hpo h15 R' hg')
set_option maxHeartbeats 4000000 in
set_option maxRecDepth 100000 in
theorem cs_overlay {E : kE} {X : kX} {b L : Nat} {xs : Nat → Int32} {q1 q2 po j k n : Nat} {h : kH} (hX : kScr X b L xs) (hj : 4 * j + 4 ≤ L) (hL : L ≤ 2048) (hS : kLS E q1 q2 po h) (hk : k + 12 ≤ 601024) (hn : n + 500 ≤ 7293034) (kk : ∀ h', kLS E q1 q2 po h' → V E X room_1 cL_law 7 wsL_law RL (k + 12) (n + 500) h' [(0, .ref b), (1, .ref q1), (2, .ref q2), (3, .ref po), (4, .int (nI (4 * j)))] 1502 []) : V E X room_1 cL_law 7 wsL_law RL k n h [(0, .ref b), (1, .ref q1), (2, .ref q2), (3, .ref po), (4, .int (nI (4 * j)))] 1074 [] := by
  obtain ⟨a, cap, bb, nF, nC, nE, w, dt, st, f, rfl, rfl, hb, hpo, hg, R, rfl⟩ := hS
  refine r_aload_n dL_law_1074 1 rfl ?_
  refine r_aload_n dL_law_1075 0 rfl ?_
  refine r_iload dL_law_1076 4 rfl ?_
  refine r_iconst (v := 1) dL_law_1078 (by decide) ?_
  refine r_iadd dL_law_1079 ?_
  refine r_sld hX dL_law_1080 (sidx1 hj hL) ?_
  refine r_aload_n dL_law_1081 0 rfl ?_
  refine r_iload dL_law_1082 4 rfl ?_
  refine r_iconst (v := 2) dL_law_1084 (by decide) ?_
  refine r_iadd dL_law_1085 ?_
  refine r_sld hX dL_law_1086 (sidx2 hj hL) ?_
  refine r_aload_n dL_law_1087 3 rfl ?_
  refine r_callXSH (nn := 4) (As := [.ref (a 15), .int (xs (nI (4 * j) + 1).toNatClampNeg), .int (xs (nI (4 * j) + 2).toNatClampNeg), .ref po]) (st := []) dL_law_1088 (tL_overlay hg R (ov_po hpo) (xs (nI (4 * j) + 1).toNatClampNeg) (xs (nI (4 * j) + 2).toNatClampNeg)) gL_law_L_overlay rfl (by decide +kernel) ⟨Nat.le_of_ble_eq_true rfl, Nat.le_of_ble_eq_true rfl⟩ ⟨rfl, rfl⟩ rfl (Nat.le_of_ble_eq_true rfl) ⟨hk, hn⟩ rfl (fun Ec hh hp => hp.elim) (fun r hh hp => ?_)
  obtain ⟨a', cap', nF', nC', nE', w', dt', f', h15, R', hr, hf, hg', rfl⟩ := LS_1 hb hpo hp
  refine r_istore (lo' := [(5, .int r), (0, .ref b), (1, .ref (a 15)), (2, .ref (bb 29)), (3, .ref po), (4, .int (nI (4 * j)))]) dL_law_1091 (by decide) rfl ?_
  refine r_aload_n dL_law_1093 3 rfl ?_
  refine r_aload_n dL_law_1094 1 rfl ?_
  refine r_iload dL_law_1095 5 rfl ?_
  refine r_iconst (v := 1) dL_law_1097 (by decide) ?_
  refine r_iadd dL_law_1098 ?_
  refine r_sld hX dL_law_1099 (sidx1 hj hL) ?_
  refine r_aload_n dL_law_1100 1 rfl ?_
  refine r_iload dL_law_1101 5 rfl ?_
  refine r_iconst (v := 2) dL_law_1103 (by decide) ?_
  refine r_iadd dL_law_1104 ?_
  refine r_sld hX dL_law_1105 (sidx2 hj hL) ?_
  refine r_callVi (nn := 2) (As := [.int (xs (nI (4 * j) + 1).toNatClampNeg), .int (xs (nI (4 * j) + 2).toNatClampNeg)]) (st := []) dL_law_1106 (tX4_overlay hb st _ nF nC nE w R.mw (xs (nI (4 * j) + 1).toNatClampNeg) (xs (nI (4 * j) + 2).toNatClampNeg)) gL_law_X4_overlay rfl (by decide +kernel) ⟨Nat.le_of_ble_eq_true rfl, Nat.le_of_ble_eq_true rfl⟩ ⟨rfl, rfl⟩ (ov_obj hb st _) rfl rfl (Nat.le_of_ble_eq_true rfl) ⟨hk, hn⟩ rfl (fun r2 hh hp => ?_)
  obtain ⟨rfl, rfl⟩ := hp
  generalize hm : (mpoints st nE (xs (nI (4 * j) + 1).toNatClampNeg) (xs (nI (4 * j) + 2).toNatClampNeg) (st 3 0)) = m at *
  refine r_istore (lo' := [(6, .int m.1), (5, .int r), (0, .ref b), (1, .ref (a 15)), (2, .ref (bb 29)), (3, .ref po), (4, .int (nI (4 * j)))]) dL_law_1109 (by decide) rfl ?_
  refine r_aload_n dL_law_1111 4 rfl ?_
  refine r_callVi (nn := 0) (As := []) (st := []) dL_law_1112 (tX4_thrown hb m.2 _) gL_law_X4_thrown rfl (by decide +kernel) ⟨Nat.le_of_ble_eq_true rfl, Nat.le_of_ble_eq_true rfl⟩ ⟨rfl, rfl⟩ (ov_obj hb m.2 _) rfl rfl (Nat.le_of_ble_eq_true rfl) ⟨hk, hn⟩ rfl (fun r3 hh hp => ?_)
  obtain ⟨rfl, rfl⟩ := hp
  refine r_iload dL_law_1115 1 rfl ?_
  refine r_icmp_eq (tgt := 1122) dL_law_1117 (by decide) (fun _ => ?_) (fun c => absurd hr.symm c)
  refine r_iload dL_law_1122 1 rfl ?_
  refine r_if_ne (tgt := 1139) dL_law_1124 (by decide) (fun _ => ?_) (fun c => ?_)
  · refine r_goto (tgt := 1502) dL_law_1139 (by decide) ?_
    refine r_lo (lo' := [(0, .ref b), (1, .ref (a 15)), (2, .ref (bb 29)), (3, .ref po), (4, .int (nI (4 * j)))]) [2, 3, 4, 5, 6] rfl ?_
    exact kk _ (LS_2 hb hpo h15 R' hg')
  · refine r_aload_n dL_law_1127 5 rfl ?_
    refine r_iconst (v := 0) dL_law_1128 (by decide) ?_
    refine r_lald dL_law_1129 (LS_at hpo hg') (vp_in_nI (by decide) (by decide)) ?_
    refine r_iload dL_law_1130 0 rfl ?_
    refine r_i2l dL_law_1132 ?_
    refine r_lcmp dL_law_1133 ?_
    refine r_if_eq (tgt := 1139) dL_law_1134 (by decide) (fun _ => ?_) (fun c2 => absurd (by rw [show f' (0 : Int32).toNatClampNeg = f' 0 from rfl, hf c]; exact lg_cmp_e _) c2)
    refine r_goto (tgt := 1502) dL_law_1139 (by decide) ?_
    refine r_lo (lo' := [(0, .ref b), (1, .ref (a 15)), (2, .ref (bb 29)), (3, .ref po), (4, .int (nI (4 * j)))]) [2, 3, 4, 5, 6] rfl ?_
    exact kk _ (LS_2 hb hpo h15 R' hg')
set_option maxHeartbeats 4000000 in
set_option maxRecDepth 100000 in
theorem cs_fightOf {E : kE} {X : kX} {b L : Nat} {xs : Nat → Int32} {q1 q2 po j k n : Nat} {h : kH} (hX : kScr X b L xs) (hj : 4 * j + 4 ≤ L) (hL : L ≤ 2048) (hS : kLS E q1 q2 po h) (hk : k + 12 ≤ 601024) (hn : n + 500 ≤ 7293034) (kk : ∀ h', kLS E q1 q2 po h' → V E X room_1 cL_law 7 wsL_law RL (k + 12) (n + 500) h' [(0, .ref b), (1, .ref q1), (2, .ref q2), (3, .ref po), (4, .int (nI (4 * j)))] 1502 []) : V E X room_1 cL_law 7 wsL_law RL k n h [(0, .ref b), (1, .ref q1), (2, .ref q2), (3, .ref po), (4, .int (nI (4 * j)))] 1142 [] := by
  obtain ⟨a, cap, bb, nF, nC, nE, w, dt, st, f, rfl, rfl, hb, hpo, hg, R, rfl⟩ := hS
  refine r_aload_n dL_law_1142 1 rfl ?_
  refine r_aload_n dL_law_1143 0 rfl ?_
  refine r_iload dL_law_1144 4 rfl ?_
  refine r_iconst (v := 1) dL_law_1146 (by decide) ?_
  refine r_iadd dL_law_1147 ?_
  refine r_sld hX dL_law_1148 (sidx1 hj hL) ?_
  refine r_aload_n dL_law_1149 0 rfl ?_
  refine r_iload dL_law_1150 4 rfl ?_
  refine r_iconst (v := 2) dL_law_1152 (by decide) ?_
  refine r_iadd dL_law_1153 ?_
  refine r_sld hX dL_law_1154 (sidx2 hj hL) ?_
  refine r_aload_n dL_law_1155 3 rfl ?_
  refine r_callXSH (nn := 4) (As := [.ref (a 15), .int (xs (nI (4 * j) + 1).toNatClampNeg), .int (xs (nI (4 * j) + 2).toNatClampNeg), .ref po]) (st := []) dL_law_1156 (tL_fightOf hg R (ov_po hpo) (xs (nI (4 * j) + 1).toNatClampNeg) (xs (nI (4 * j) + 2).toNatClampNeg)) gL_law_L_fightOf rfl (by decide +kernel) ⟨Nat.le_of_ble_eq_true rfl, Nat.le_of_ble_eq_true rfl⟩ ⟨rfl, rfl⟩ rfl (Nat.le_of_ble_eq_true rfl) ⟨hk, hn⟩ rfl (fun Ec hh hp => hp.elim) (fun r hh hp => ?_)
  obtain ⟨a', cap', nF', nC', nE', w', dt', f', h15, R', hr, hf, hg', rfl⟩ := LS_1 hb hpo hp
  refine r_istore (lo' := [(5, .int r), (0, .ref b), (1, .ref (a 15)), (2, .ref (bb 29)), (3, .ref po), (4, .int (nI (4 * j)))]) dL_law_1159 (by decide) rfl ?_
  refine r_aload_n dL_law_1161 3 rfl ?_
  refine r_aload_n dL_law_1162 1 rfl ?_
  refine r_iload dL_law_1163 5 rfl ?_
  refine r_iconst (v := 1) dL_law_1165 (by decide) ?_
  refine r_iadd dL_law_1166 ?_
  refine r_sld hX dL_law_1167 (sidx1 hj hL) ?_
  refine r_aload_n dL_law_1168 1 rfl ?_
  refine r_iload dL_law_1169 5 rfl ?_
  refine r_iconst (v := 2) dL_law_1171 (by decide) ?_
  refine r_iadd dL_law_1172 ?_
  refine r_sld hX dL_law_1173 (sidx2 hj hL) ?_
  refine r_callVi (nn := 2) (As := [.int (xs (nI (4 * j) + 1).toNatClampNeg), .int (xs (nI (4 * j) + 2).toNatClampNeg)]) (st := []) dL_law_1174 (tX4_fightOf hb st _ nF nC nE w R.mw (xs (nI (4 * j) + 1).toNatClampNeg) (xs (nI (4 * j) + 2).toNatClampNeg)) gL_law_X4_fightOf rfl (by decide +kernel) ⟨Nat.le_of_ble_eq_true rfl, Nat.le_of_ble_eq_true rfl⟩ ⟨rfl, rfl⟩ (ov_obj hb st _) rfl rfl (Nat.le_of_ble_eq_true rfl) ⟨hk, hn⟩ rfl (fun r2 hh hp => ?_)
  obtain ⟨rfl, rfl⟩ := hp
  generalize hm : (mfightOf st w (xs (nI (4 * j) + 1).toNatClampNeg) (xs (nI (4 * j) + 2).toNatClampNeg)) = m at *
  refine r_istore (lo' := [(6, .int m.1), (5, .int r), (0, .ref b), (1, .ref (a 15)), (2, .ref (bb 29)), (3, .ref po), (4, .int (nI (4 * j)))]) dL_law_1177 (by decide) rfl ?_
  refine r_aload_n dL_law_1179 4 rfl ?_
  refine r_callVi (nn := 0) (As := []) (st := []) dL_law_1180 (tX4_thrown hb m.2 _) gL_law_X4_thrown rfl (by decide +kernel) ⟨Nat.le_of_ble_eq_true rfl, Nat.le_of_ble_eq_true rfl⟩ ⟨rfl, rfl⟩ (ov_obj hb m.2 _) rfl rfl (Nat.le_of_ble_eq_true rfl) ⟨hk, hn⟩ rfl (fun r3 hh hp => ?_)
  obtain ⟨rfl, rfl⟩ := hp
  refine r_iload dL_law_1183 1 rfl ?_
  refine r_icmp_eq (tgt := 1190) dL_law_1185 (by decide) (fun _ => ?_) (fun c => absurd hr.symm c)
  refine r_iload dL_law_1190 1 rfl ?_
  refine r_if_ne (tgt := 1207) dL_law_1192 (by decide) (fun _ => ?_) (fun c => ?_)
  · refine r_goto (tgt := 1502) dL_law_1207 (by decide) ?_
    refine r_lo (lo' := [(0, .ref b), (1, .ref (a 15)), (2, .ref (bb 29)), (3, .ref po), (4, .int (nI (4 * j)))]) [2, 3, 4, 5, 6] rfl ?_
    exact kk _ (LS_2 hb hpo h15 R' hg')
  · refine r_aload_n dL_law_1195 5 rfl ?_
    refine r_iconst (v := 0) dL_law_1196 (by decide) ?_
    refine r_lald dL_law_1197 (LS_at hpo hg') (vp_in_nI (by decide) (by decide)) ?_
    refine r_iload dL_law_1198 0 rfl ?_
    refine r_i2l dL_law_1200 ?_
    refine r_lcmp dL_law_1201 ?_
    refine r_if_eq (tgt := 1207) dL_law_1202 (by decide) (fun _ => ?_) (fun c2 => absurd (by rw [show f' (0 : Int32).toNatClampNeg = f' 0 from rfl, hf c]; exact lg_cmp_e _) c2)
    refine r_goto (tgt := 1502) dL_law_1207 (by decide) ?_
    refine r_lo (lo' := [(0, .ref b), (1, .ref (a 15)), (2, .ref (bb 29)), (3, .ref po), (4, .int (nI (4 * j)))]) [2, 3, 4, 5, 6] rfl ?_
    exact kk _ (LS_2 hb hpo h15 R' hg')
set_option maxHeartbeats 4000000 in
set_option maxRecDepth 100000 in
theorem cs_cameraOf {E : kE} {X : kX} {b L : Nat} {xs : Nat → Int32} {q1 q2 po j k n : Nat} {h : kH} (hX : kScr X b L xs) (hj : 4 * j + 4 ≤ L) (hL : L ≤ 2048) (hS : kLS E q1 q2 po h) (hk : k + 12 ≤ 601024) (hn : n + 500 ≤ 7293034) (kk : ∀ h', kLS E q1 q2 po h' → V E X room_1 cL_law 7 wsL_law RL (k + 12) (n + 500) h' [(0, .ref b), (1, .ref q1), (2, .ref q2), (3, .ref po), (4, .int (nI (4 * j)))] 1502 []) : V E X room_1 cL_law 7 wsL_law RL k n h [(0, .ref b), (1, .ref q1), (2, .ref q2), (3, .ref po), (4, .int (nI (4 * j)))] 1210 [] := by
  obtain ⟨a, cap, bb, nF, nC, nE, w, dt, st, f, rfl, rfl, hb, hpo, hg, R, rfl⟩ := hS
  refine r_aload_n dL_law_1210 1 rfl ?_
  refine r_aload_n dL_law_1211 0 rfl ?_
  refine r_iload dL_law_1212 4 rfl ?_
  refine r_iconst (v := 1) dL_law_1214 (by decide) ?_
  refine r_iadd dL_law_1215 ?_
  refine r_sld hX dL_law_1216 (sidx1 hj hL) ?_
  refine r_aload_n dL_law_1217 0 rfl ?_
  refine r_iload dL_law_1218 4 rfl ?_
  refine r_iconst (v := 2) dL_law_1220 (by decide) ?_
  refine r_iadd dL_law_1221 ?_
  refine r_sld hX dL_law_1222 (sidx2 hj hL) ?_
  refine r_aload_n dL_law_1223 3 rfl ?_
  refine r_callXSH (nn := 4) (As := [.ref (a 15), .int (xs (nI (4 * j) + 1).toNatClampNeg), .int (xs (nI (4 * j) + 2).toNatClampNeg), .ref po]) (st := []) dL_law_1224 (tL_cameraOf hg R (ov_po hpo) (xs (nI (4 * j) + 1).toNatClampNeg) (xs (nI (4 * j) + 2).toNatClampNeg)) gL_law_L_cameraOf rfl (by decide +kernel) ⟨Nat.le_of_ble_eq_true rfl, Nat.le_of_ble_eq_true rfl⟩ ⟨rfl, rfl⟩ rfl (Nat.le_of_ble_eq_true rfl) ⟨hk, hn⟩ rfl (fun Ec hh hp => hp.elim) (fun r hh hp => ?_)
  obtain ⟨a', cap', nF', nC', nE', w', dt', f', h15, R', hr, hf, hg', rfl⟩ := LS_1 hb hpo hp
  refine r_istore (lo' := [(5, .int r), (0, .ref b), (1, .ref (a 15)), (2, .ref (bb 29)), (3, .ref po), (4, .int (nI (4 * j)))]) dL_law_1227 (by decide) rfl ?_
  refine r_aload_n dL_law_1229 3 rfl ?_
  refine r_aload_n dL_law_1230 1 rfl ?_
  refine r_iload dL_law_1231 5 rfl ?_
  refine r_iconst (v := 1) dL_law_1233 (by decide) ?_
  refine r_iadd dL_law_1234 ?_
  refine r_sld hX dL_law_1235 (sidx1 hj hL) ?_
  refine r_aload_n dL_law_1236 1 rfl ?_
  refine r_iload dL_law_1237 5 rfl ?_
  refine r_iconst (v := 2) dL_law_1239 (by decide) ?_
  refine r_iadd dL_law_1240 ?_
  refine r_sld hX dL_law_1241 (sidx2 hj hL) ?_
  refine r_callVi (nn := 2) (As := [.int (xs (nI (4 * j) + 1).toNatClampNeg), .int (xs (nI (4 * j) + 2).toNatClampNeg)]) (st := []) dL_law_1242 (tX4_cameraOf hb st _ nF nC nE w R.mw (xs (nI (4 * j) + 1).toNatClampNeg) (xs (nI (4 * j) + 2).toNatClampNeg)) gL_law_X4_cameraOf rfl (by decide +kernel) ⟨Nat.le_of_ble_eq_true rfl, Nat.le_of_ble_eq_true rfl⟩ ⟨rfl, rfl⟩ (ov_obj hb st _) rfl rfl (Nat.le_of_ble_eq_true rfl) ⟨hk, hn⟩ rfl (fun r2 hh hp => ?_)
  obtain ⟨rfl, rfl⟩ := hp
  generalize hm : (mcameraOf st (xs (nI (4 * j) + 1).toNatClampNeg) (xs (nI (4 * j) + 2).toNatClampNeg)) = m at *
  refine r_istore (lo' := [(6, .int m.1), (5, .int r), (0, .ref b), (1, .ref (a 15)), (2, .ref (bb 29)), (3, .ref po), (4, .int (nI (4 * j)))]) dL_law_1245 (by decide) rfl ?_
  refine r_aload_n dL_law_1247 4 rfl ?_
  refine r_callVi (nn := 0) (As := []) (st := []) dL_law_1248 (tX4_thrown hb m.2 _) gL_law_X4_thrown rfl (by decide +kernel) ⟨Nat.le_of_ble_eq_true rfl, Nat.le_of_ble_eq_true rfl⟩ ⟨rfl, rfl⟩ (ov_obj hb m.2 _) rfl rfl (Nat.le_of_ble_eq_true rfl) ⟨hk, hn⟩ rfl (fun r3 hh hp => ?_)
  obtain ⟨rfl, rfl⟩ := hp
  refine r_iload dL_law_1251 1 rfl ?_
  refine r_icmp_eq (tgt := 1258) dL_law_1253 (by decide) (fun _ => ?_) (fun c => absurd hr.symm c)
  refine r_iload dL_law_1258 1 rfl ?_
  refine r_if_ne (tgt := 1275) dL_law_1260 (by decide) (fun _ => ?_) (fun c => ?_)
  · refine r_goto (tgt := 1502) dL_law_1275 (by decide) ?_
    refine r_lo (lo' := [(0, .ref b), (1, .ref (a 15)), (2, .ref (bb 29)), (3, .ref po), (4, .int (nI (4 * j)))]) [2, 3, 4, 5, 6] rfl ?_
    exact kk _ (LS_2 hb hpo h15 R' hg')
  · refine r_aload_n dL_law_1263 5 rfl ?_
    refine r_iconst (v := 0) dL_law_1264 (by decide) ?_
    refine r_lald dL_law_1265 (LS_at hpo hg') (vp_in_nI (by decide) (by decide)) ?_
    refine r_iload dL_law_1266 0 rfl ?_
    refine r_i2l dL_law_1268 ?_
    refine r_lcmp dL_law_1269 ?_
    refine r_if_eq (tgt := 1275) dL_law_1270 (by decide) (fun _ => ?_) (fun c2 => absurd (by rw [show f' (0 : Int32).toNatClampNeg = f' 0 from rfl, hf c]; exact lg_cmp_e _) c2)
    refine r_goto (tgt := 1502) dL_law_1275 (by decide) ?_
    refine r_lo (lo' := [(0, .ref b), (1, .ref (a 15)), (2, .ref (bb 29)), (3, .ref po), (4, .int (nI (4 * j)))]) [2, 3, 4, 5, 6] rfl ?_
    exact kk _ (LS_2 hb hpo h15 R' hg')
set_option maxHeartbeats 4000000 in
set_option maxRecDepth 100000 in
theorem cs_counted {E : kE} {X : kX} {b L : Nat} {xs : Nat → Int32} {q1 q2 po j k n : Nat} {h : kH} (hX : kScr X b L xs) (hj : 4 * j + 4 ≤ L) (hL : L ≤ 2048) (hS : kLS E q1 q2 po h) (hk : k + 12 ≤ 601024) (hn : n + 500 ≤ 7293034) (kk : ∀ h', kLS E q1 q2 po h' → V E X room_1 cL_law 7 wsL_law RL (k + 12) (n + 500) h' [(0, .ref b), (1, .ref q1), (2, .ref q2), (3, .ref po), (4, .int (nI (4 * j)))] 1502 []) : V E X room_1 cL_law 7 wsL_law RL k n h [(0, .ref b), (1, .ref q1), (2, .ref q2), (3, .ref po), (4, .int (nI (4 * j)))] 1278 [] := by
  obtain ⟨a, cap, bb, nF, nC, nE, w, dt, st, f, rfl, rfl, hb, hpo, hg, R, rfl⟩ := hS
  refine r_aload_n dL_law_1278 1 rfl ?_
  refine r_aload_n dL_law_1279 0 rfl ?_
  refine r_iload dL_law_1280 4 rfl ?_
  refine r_iconst (v := 1) dL_law_1282 (by decide) ?_
  refine r_iadd dL_law_1283 ?_
  refine r_sld hX dL_law_1284 (sidx1 hj hL) ?_
  refine r_aload_n dL_law_1285 3 rfl ?_
  refine r_callXSH (nn := 3) (As := [.ref (a 15), .int (xs (nI (4 * j) + 1).toNatClampNeg), .ref po]) (st := []) dL_law_1286 (tL_counted hg R (ov_po hpo) (xs (nI (4 * j) + 1).toNatClampNeg)) gL_law_L_counted rfl (by decide +kernel) ⟨Nat.le_of_ble_eq_true rfl, Nat.le_of_ble_eq_true rfl⟩ ⟨rfl, rfl⟩ rfl (Nat.le_of_ble_eq_true rfl) ⟨hk, hn⟩ rfl (fun Ec hh hp => hp.elim) (fun r hh hp => ?_)
  obtain ⟨a', cap', nF', nC', nE', w', dt', f', h15, R', hr, hf, hg', rfl⟩ := LS_1 hb hpo hp
  refine r_istore (lo' := [(5, .int r), (0, .ref b), (1, .ref (a 15)), (2, .ref (bb 29)), (3, .ref po), (4, .int (nI (4 * j)))]) dL_law_1289 (by decide) rfl ?_
  refine r_aload_n dL_law_1291 3 rfl ?_
  refine r_aload_n dL_law_1292 1 rfl ?_
  refine r_iload dL_law_1293 5 rfl ?_
  refine r_iconst (v := 1) dL_law_1295 (by decide) ?_
  refine r_iadd dL_law_1296 ?_
  refine r_sld hX dL_law_1297 (sidx1 hj hL) ?_
  refine r_callVi (nn := 1) (As := [.int (xs (nI (4 * j) + 1).toNatClampNeg)]) (st := []) dL_law_1298 (tX4_counted hb st _ nF nC nE w R.mw (xs (nI (4 * j) + 1).toNatClampNeg)) gL_law_X4_counted rfl (by decide +kernel) ⟨Nat.le_of_ble_eq_true rfl, Nat.le_of_ble_eq_true rfl⟩ ⟨rfl, rfl⟩ (ov_obj hb st _) rfl rfl (Nat.le_of_ble_eq_true rfl) ⟨hk, hn⟩ rfl (fun r2 hh hp => ?_)
  obtain ⟨rfl, rfl⟩ := hp
  generalize hm : (mcounted st w (xs (nI (4 * j) + 1).toNatClampNeg)) = m at *
  refine r_istore (lo' := [(6, .int m.1), (5, .int r), (0, .ref b), (1, .ref (a 15)), (2, .ref (bb 29)), (3, .ref po), (4, .int (nI (4 * j)))]) dL_law_1301 (by decide) rfl ?_
  refine r_aload_n dL_law_1303 4 rfl ?_
  refine r_callVi (nn := 0) (As := []) (st := []) dL_law_1304 (tX4_thrown hb m.2 _) gL_law_X4_thrown rfl (by decide +kernel) ⟨Nat.le_of_ble_eq_true rfl, Nat.le_of_ble_eq_true rfl⟩ ⟨rfl, rfl⟩ (ov_obj hb m.2 _) rfl rfl (Nat.le_of_ble_eq_true rfl) ⟨hk, hn⟩ rfl (fun r3 hh hp => ?_)
  obtain ⟨rfl, rfl⟩ := hp
  refine r_iload dL_law_1307 1 rfl ?_
  refine r_icmp_eq (tgt := 1314) dL_law_1309 (by decide) (fun _ => ?_) (fun c => absurd hr.symm c)
  refine r_iload dL_law_1314 1 rfl ?_
  refine r_if_ne (tgt := 1331) dL_law_1316 (by decide) (fun _ => ?_) (fun c => ?_)
  · refine r_goto (tgt := 1502) dL_law_1331 (by decide) ?_
    refine r_lo (lo' := [(0, .ref b), (1, .ref (a 15)), (2, .ref (bb 29)), (3, .ref po), (4, .int (nI (4 * j)))]) [2, 3, 4, 5, 6] rfl ?_
    exact kk _ (LS_2 hb hpo h15 R' hg')
  · refine r_aload_n dL_law_1319 5 rfl ?_
    refine r_iconst (v := 0) dL_law_1320 (by decide) ?_
    refine r_lald dL_law_1321 (LS_at hpo hg') (vp_in_nI (by decide) (by decide)) ?_
    refine r_iload dL_law_1322 0 rfl ?_
    refine r_i2l dL_law_1324 ?_
    refine r_lcmp dL_law_1325 ?_
    refine r_if_eq (tgt := 1331) dL_law_1326 (by decide) (fun _ => ?_) (fun c2 => absurd (by rw [show f' (0 : Int32).toNatClampNeg = f' 0 from rfl, hf c]; exact lg_cmp_e _) c2)
    refine r_goto (tgt := 1502) dL_law_1331 (by decide) ?_
    refine r_lo (lo' := [(0, .ref b), (1, .ref (a 15)), (2, .ref (bb 29)), (3, .ref po), (4, .int (nI (4 * j)))]) [2, 3, 4, 5, 6] rfl ?_
    exact kk _ (LS_2 hb hpo h15 R' hg')
set_option maxHeartbeats 4000000 in
set_option maxRecDepth 100000 in
theorem cs_countedAnew {E : kE} {X : kX} {b L : Nat} {xs : Nat → Int32} {q1 q2 po j k n : Nat} {h : kH} (hX : kScr X b L xs) (hj : 4 * j + 4 ≤ L) (hL : L ≤ 2048) (hS : kLS E q1 q2 po h) (hk : k + 12 ≤ 601024) (hn : n + 500 ≤ 7293034) (kk : ∀ h', kLS E q1 q2 po h' → V E X room_1 cL_law 7 wsL_law RL (k + 12) (n + 500) h' [(0, .ref b), (1, .ref q1), (2, .ref q2), (3, .ref po), (4, .int (nI (4 * j)))] 1502 []) : V E X room_1 cL_law 7 wsL_law RL k n h [(0, .ref b), (1, .ref q1), (2, .ref q2), (3, .ref po), (4, .int (nI (4 * j)))] 1334 [] := by
  obtain ⟨a, cap, bb, nF, nC, nE, w, dt, st, f, rfl, rfl, hb, hpo, hg, R, rfl⟩ := hS
  refine r_aload_n dL_law_1334 1 rfl ?_
  refine r_aload_n dL_law_1335 0 rfl ?_
  refine r_iload dL_law_1336 4 rfl ?_
  refine r_iconst (v := 1) dL_law_1338 (by decide) ?_
  refine r_iadd dL_law_1339 ?_
  refine r_sld hX dL_law_1340 (sidx1 hj hL) ?_
  refine r_aload_n dL_law_1341 3 rfl ?_
  refine r_callXSH (nn := 3) (As := [.ref (a 15), .int (xs (nI (4 * j) + 1).toNatClampNeg), .ref po]) (st := []) dL_law_1342 (tL_countedAnew hg R (ov_po hpo) (xs (nI (4 * j) + 1).toNatClampNeg)) gL_law_L_countedAnew rfl (by decide +kernel) ⟨Nat.le_of_ble_eq_true rfl, Nat.le_of_ble_eq_true rfl⟩ ⟨rfl, rfl⟩ rfl (Nat.le_of_ble_eq_true rfl) ⟨hk, hn⟩ rfl (fun Ec hh hp => hp.elim) (fun r hh hp => ?_)
  obtain ⟨a', cap', nF', nC', nE', w', dt', f', h15, R', hr, hf, hg', rfl⟩ := LS_1 hb hpo hp
  refine r_istore (lo' := [(5, .int r), (0, .ref b), (1, .ref (a 15)), (2, .ref (bb 29)), (3, .ref po), (4, .int (nI (4 * j)))]) dL_law_1345 (by decide) rfl ?_
  refine r_aload_n dL_law_1347 3 rfl ?_
  refine r_aload_n dL_law_1348 1 rfl ?_
  refine r_iload dL_law_1349 5 rfl ?_
  refine r_iconst (v := 1) dL_law_1351 (by decide) ?_
  refine r_iadd dL_law_1352 ?_
  refine r_sld hX dL_law_1353 (sidx1 hj hL) ?_
  refine r_callVi (nn := 1) (As := [.int (xs (nI (4 * j) + 1).toNatClampNeg)]) (st := []) dL_law_1354 (tX4_countedAnew hb st _ nF nC nE w R.mw (xs (nI (4 * j) + 1).toNatClampNeg)) gL_law_X4_countedAnew rfl (by decide +kernel) ⟨Nat.le_of_ble_eq_true rfl, Nat.le_of_ble_eq_true rfl⟩ ⟨rfl, rfl⟩ (ov_obj hb st _) rfl rfl (Nat.le_of_ble_eq_true rfl) ⟨hk, hn⟩ rfl (fun r2 hh hp => ?_)
  obtain ⟨rfl, rfl⟩ := hp
  generalize hm : (mcounted st w (xs (nI (4 * j) + 1).toNatClampNeg)) = m at *
  refine r_istore (lo' := [(6, .int m.1), (5, .int r), (0, .ref b), (1, .ref (a 15)), (2, .ref (bb 29)), (3, .ref po), (4, .int (nI (4 * j)))]) dL_law_1357 (by decide) rfl ?_
  refine r_aload_n dL_law_1359 4 rfl ?_
  refine r_callVi (nn := 0) (As := []) (st := []) dL_law_1360 (tX4_thrown hb m.2 _) gL_law_X4_thrown rfl (by decide +kernel) ⟨Nat.le_of_ble_eq_true rfl, Nat.le_of_ble_eq_true rfl⟩ ⟨rfl, rfl⟩ (ov_obj hb m.2 _) rfl rfl (Nat.le_of_ble_eq_true rfl) ⟨hk, hn⟩ rfl (fun r3 hh hp => ?_)
  obtain ⟨rfl, rfl⟩ := hp
  refine r_iload dL_law_1363 1 rfl ?_
  refine r_icmp_eq (tgt := 1370) dL_law_1365 (by decide) (fun _ => ?_) (fun c => absurd hr.symm c)
  refine r_iload dL_law_1370 1 rfl ?_
  refine r_if_ne (tgt := 1387) dL_law_1372 (by decide) (fun _ => ?_) (fun c => ?_)
  · refine r_goto (tgt := 1502) dL_law_1387 (by decide) ?_
    refine r_lo (lo' := [(0, .ref b), (1, .ref (a 15)), (2, .ref (bb 29)), (3, .ref po), (4, .int (nI (4 * j)))]) [2, 3, 4, 5, 6] rfl ?_
    exact kk _ (LS_2 hb hpo h15 R' hg')
  · refine r_aload_n dL_law_1375 5 rfl ?_
    refine r_iconst (v := 0) dL_law_1376 (by decide) ?_
    refine r_lald dL_law_1377 (LS_at hpo hg') (vp_in_nI (by decide) (by decide)) ?_
    refine r_iload dL_law_1378 0 rfl ?_
    refine r_i2l dL_law_1380 ?_
    refine r_lcmp dL_law_1381 ?_
    refine r_if_eq (tgt := 1387) dL_law_1382 (by decide) (fun _ => ?_) (fun c2 => absurd (by rw [show f' (0 : Int32).toNatClampNeg = f' 0 from rfl, hf c]; exact lg_cmp_e _) c2)
    refine r_goto (tgt := 1502) dL_law_1387 (by decide) ?_
    refine r_lo (lo' := [(0, .ref b), (1, .ref (a 15)), (2, .ref (bb 29)), (3, .ref po), (4, .int (nI (4 * j)))]) [2, 3, 4, 5, 6] rfl ?_
    exact kk _ (LS_2 hb hpo h15 R' hg')
set_option maxHeartbeats 4000000 in
set_option maxRecDepth 100000 in
theorem cs_owed {E : kE} {X : kX} {b L : Nat} {xs : Nat → Int32} {q1 q2 po j k n : Nat} {h : kH} (hX : kScr X b L xs) (hj : 4 * j + 4 ≤ L) (hL : L ≤ 2048) (hS : kLS E q1 q2 po h) (hk : k + 12 ≤ 601024) (hn : n + 500 ≤ 7293034) (kk : ∀ h', kLS E q1 q2 po h' → V E X room_1 cL_law 7 wsL_law RL (k + 12) (n + 500) h' [(0, .ref b), (1, .ref q1), (2, .ref q2), (3, .ref po), (4, .int (nI (4 * j)))] 1502 []) : V E X room_1 cL_law 7 wsL_law RL k n h [(0, .ref b), (1, .ref q1), (2, .ref q2), (3, .ref po), (4, .int (nI (4 * j)))] 1390 [] := by
  obtain ⟨a, cap, bb, nF, nC, nE, w, dt, st, f, rfl, rfl, hb, hpo, hg, R, rfl⟩ := hS
  refine r_aload_n dL_law_1390 1 rfl ?_
  refine r_aload_n dL_law_1391 0 rfl ?_
  refine r_iload dL_law_1392 4 rfl ?_
  refine r_iconst (v := 1) dL_law_1394 (by decide) ?_
  refine r_iadd dL_law_1395 ?_
  refine r_sld hX dL_law_1396 (sidx1 hj hL) ?_
  refine r_aload_n dL_law_1397 3 rfl ?_
  refine r_callXSH (nn := 3) (As := [.ref (a 15), .int (xs (nI (4 * j) + 1).toNatClampNeg), .ref po]) (st := []) dL_law_1398 (tL_owed hg R (ov_po hpo) (xs (nI (4 * j) + 1).toNatClampNeg)) gL_law_L_owed rfl (by decide +kernel) ⟨Nat.le_of_ble_eq_true rfl, Nat.le_of_ble_eq_true rfl⟩ ⟨rfl, rfl⟩ rfl (Nat.le_of_ble_eq_true rfl) ⟨hk, hn⟩ rfl (fun Ec hh hp => hp.elim) (fun r hh hp => ?_)
  obtain ⟨a', cap', nF', nC', nE', w', dt', f', h15, R', hr, hf, hg', rfl⟩ := LS_1 hb hpo hp
  refine r_istore (lo' := [(5, .int r), (0, .ref b), (1, .ref (a 15)), (2, .ref (bb 29)), (3, .ref po), (4, .int (nI (4 * j)))]) dL_law_1401 (by decide) rfl ?_
  refine r_aload_n dL_law_1403 3 rfl ?_
  refine r_aload_n dL_law_1404 1 rfl ?_
  refine r_iload dL_law_1405 5 rfl ?_
  refine r_iconst (v := 1) dL_law_1407 (by decide) ?_
  refine r_iadd dL_law_1408 ?_
  refine r_sld hX dL_law_1409 (sidx1 hj hL) ?_
  refine r_callVi (nn := 1) (As := [.int (xs (nI (4 * j) + 1).toNatClampNeg)]) (st := []) dL_law_1410 (tX4_owed hb st _ nF nC nE w R.mw (xs (nI (4 * j) + 1).toNatClampNeg)) gL_law_X4_owed rfl (by decide +kernel) ⟨Nat.le_of_ble_eq_true rfl, Nat.le_of_ble_eq_true rfl⟩ ⟨rfl, rfl⟩ (ov_obj hb st _) rfl rfl (Nat.le_of_ble_eq_true rfl) ⟨hk, hn⟩ rfl (fun r2 hh hp => ?_)
  obtain ⟨rfl, rfl⟩ := hp
  generalize hm : (mowedP st w (xs (nI (4 * j) + 1).toNatClampNeg)) = m at *
  refine r_istore (lo' := [(6, .int m.1), (5, .int r), (0, .ref b), (1, .ref (a 15)), (2, .ref (bb 29)), (3, .ref po), (4, .int (nI (4 * j)))]) dL_law_1413 (by decide) rfl ?_
  refine r_aload_n dL_law_1415 4 rfl ?_
  refine r_callVi (nn := 0) (As := []) (st := []) dL_law_1416 (tX4_thrown hb m.2 _) gL_law_X4_thrown rfl (by decide +kernel) ⟨Nat.le_of_ble_eq_true rfl, Nat.le_of_ble_eq_true rfl⟩ ⟨rfl, rfl⟩ (ov_obj hb m.2 _) rfl rfl (Nat.le_of_ble_eq_true rfl) ⟨hk, hn⟩ rfl (fun r3 hh hp => ?_)
  obtain ⟨rfl, rfl⟩ := hp
  refine r_iload dL_law_1419 1 rfl ?_
  refine r_icmp_eq (tgt := 1426) dL_law_1421 (by decide) (fun _ => ?_) (fun c => absurd hr.symm c)
  refine r_iload dL_law_1426 1 rfl ?_
  refine r_if_ne (tgt := 1443) dL_law_1428 (by decide) (fun _ => ?_) (fun c => ?_)
  · refine r_goto (tgt := 1502) dL_law_1443 (by decide) ?_
    refine r_lo (lo' := [(0, .ref b), (1, .ref (a 15)), (2, .ref (bb 29)), (3, .ref po), (4, .int (nI (4 * j)))]) [2, 3, 4, 5, 6] rfl ?_
    exact kk _ (LS_2 hb hpo h15 R' hg')
  · refine r_aload_n dL_law_1431 5 rfl ?_
    refine r_iconst (v := 0) dL_law_1432 (by decide) ?_
    refine r_lald dL_law_1433 (LS_at hpo hg') (vp_in_nI (by decide) (by decide)) ?_
    refine r_iload dL_law_1434 0 rfl ?_
    refine r_i2l dL_law_1436 ?_
    refine r_lcmp dL_law_1437 ?_
    refine r_if_eq (tgt := 1443) dL_law_1438 (by decide) (fun _ => ?_) (fun c2 => absurd (by rw [show f' (0 : Int32).toNatClampNeg = f' 0 from rfl, hf c]; exact lg_cmp_e _) c2)
    refine r_goto (tgt := 1502) dL_law_1443 (by decide) ?_
    refine r_lo (lo' := [(0, .ref b), (1, .ref (a 15)), (2, .ref (bb 29)), (3, .ref po), (4, .int (nI (4 * j)))]) [2, 3, 4, 5, 6] rfl ?_
    exact kk _ (LS_2 hb hpo h15 R' hg')
set_option maxHeartbeats 4000000 in
set_option maxRecDepth 100000 in
theorem cs_leader {E : kE} {X : kX} {b L : Nat} {xs : Nat → Int32} {q1 q2 po j k n : Nat} {h : kH} (hX : kScr X b L xs) (hj : 4 * j + 4 ≤ L) (hL : L ≤ 2048) (hS : kLS E q1 q2 po h) (hk : k + 12 ≤ 601024) (hn : n + 500 ≤ 7293034) (kk : ∀ h', kLS E q1 q2 po h' → V E X room_1 cL_law 7 wsL_law RL (k + 12) (n + 500) h' [(0, .ref b), (1, .ref q1), (2, .ref q2), (3, .ref po), (4, .int (nI (4 * j)))] 1502 []) : V E X room_1 cL_law 7 wsL_law RL k n h [(0, .ref b), (1, .ref q1), (2, .ref q2), (3, .ref po), (4, .int (nI (4 * j)))] 1446 [] := by
  obtain ⟨a, cap, bb, nF, nC, nE, w, dt, st, f, rfl, rfl, hb, hpo, hg, R, rfl⟩ := hS
  refine r_aload_n dL_law_1446 1 rfl ?_
  refine r_aload_n dL_law_1447 0 rfl ?_
  refine r_iload dL_law_1448 4 rfl ?_
  refine r_iconst (v := 1) dL_law_1450 (by decide) ?_
  refine r_iadd dL_law_1451 ?_
  refine r_sld hX dL_law_1452 (sidx1 hj hL) ?_
  refine r_aload_n dL_law_1453 3 rfl ?_
  refine r_callXSH (nn := 3) (As := [.ref (a 15), .int (xs (nI (4 * j) + 1).toNatClampNeg), .ref po]) (st := []) dL_law_1454 (tL_leader hg R (ov_po hpo) (xs (nI (4 * j) + 1).toNatClampNeg)) gL_law_L_leader rfl (by decide +kernel) ⟨Nat.le_of_ble_eq_true rfl, Nat.le_of_ble_eq_true rfl⟩ ⟨rfl, rfl⟩ rfl (Nat.le_of_ble_eq_true rfl) ⟨hk, hn⟩ rfl (fun Ec hh hp => hp.elim) (fun r hh hp => ?_)
  obtain ⟨a', cap', nF', nC', nE', w', dt', f', h15, R', hr, hf, hg', rfl⟩ := LS_1 hb hpo hp
  refine r_istore (lo' := [(5, .int r), (0, .ref b), (1, .ref (a 15)), (2, .ref (bb 29)), (3, .ref po), (4, .int (nI (4 * j)))]) dL_law_1457 (by decide) rfl ?_
  refine r_aload_n dL_law_1459 3 rfl ?_
  refine r_aload_n dL_law_1460 1 rfl ?_
  refine r_iload dL_law_1461 5 rfl ?_
  refine r_iconst (v := 1) dL_law_1463 (by decide) ?_
  refine r_iadd dL_law_1464 ?_
  refine r_sld hX dL_law_1465 (sidx1 hj hL) ?_
  refine r_callVi (nn := 1) (As := [.int (xs (nI (4 * j) + 1).toNatClampNeg)]) (st := []) dL_law_1466 (tX4_leader hb st _ nF nC nE w R.mw (xs (nI (4 * j) + 1).toNatClampNeg)) gL_law_X4_leader rfl (by decide +kernel) ⟨Nat.le_of_ble_eq_true rfl, Nat.le_of_ble_eq_true rfl⟩ ⟨rfl, rfl⟩ (ov_obj hb st _) rfl rfl (Nat.le_of_ble_eq_true rfl) ⟨hk, hn⟩ rfl (fun r2 hh hp => ?_)
  obtain ⟨rfl, rfl⟩ := hp
  generalize hm : (mleader st nF (xs (nI (4 * j) + 1).toNatClampNeg)) = m at *
  refine r_istore (lo' := [(6, .int m.1), (5, .int r), (0, .ref b), (1, .ref (a 15)), (2, .ref (bb 29)), (3, .ref po), (4, .int (nI (4 * j)))]) dL_law_1469 (by decide) rfl ?_
  refine r_aload_n dL_law_1471 4 rfl ?_
  refine r_callVi (nn := 0) (As := []) (st := []) dL_law_1472 (tX4_thrown hb m.2 _) gL_law_X4_thrown rfl (by decide +kernel) ⟨Nat.le_of_ble_eq_true rfl, Nat.le_of_ble_eq_true rfl⟩ ⟨rfl, rfl⟩ (ov_obj hb m.2 _) rfl rfl (Nat.le_of_ble_eq_true rfl) ⟨hk, hn⟩ rfl (fun r3 hh hp => ?_)
  obtain ⟨rfl, rfl⟩ := hp
  refine r_iload dL_law_1475 1 rfl ?_
  refine r_icmp_eq (tgt := 1482) dL_law_1477 (by decide) (fun _ => ?_) (fun c => absurd hr.symm c)
  refine r_iload dL_law_1482 1 rfl ?_
  refine r_if_ne (tgt := 1499) dL_law_1484 (by decide) (fun _ => ?_) (fun c => ?_)
  · refine r_goto (tgt := 1502) dL_law_1499 (by decide) ?_
    refine r_lo (lo' := [(0, .ref b), (1, .ref (a 15)), (2, .ref (bb 29)), (3, .ref po), (4, .int (nI (4 * j)))]) [2, 3, 4, 5, 6] rfl ?_
    exact kk _ (LS_2 hb hpo h15 R' hg')
  · refine r_aload_n dL_law_1487 5 rfl ?_
    refine r_iconst (v := 0) dL_law_1488 (by decide) ?_
    refine r_lald dL_law_1489 (LS_at hpo hg') (vp_in_nI (by decide) (by decide)) ?_
    refine r_iload dL_law_1490 0 rfl ?_
    refine r_i2l dL_law_1492 ?_
    refine r_lcmp dL_law_1493 ?_
    refine r_if_eq (tgt := 1499) dL_law_1494 (by decide) (fun _ => ?_) (fun c2 => absurd (by rw [show f' (0 : Int32).toNatClampNeg = f' 0 from rfl, hf c]; exact lg_cmp_e _) c2)
    refine r_goto (tgt := 1502) dL_law_1499 (by decide) ?_
    refine r_lo (lo' := [(0, .ref b), (1, .ref (a 15)), (2, .ref (bb 29)), (3, .ref po), (4, .int (nI (4 * j)))]) [2, 3, 4, 5, 6] rfl ?_
    exact kk _ (LS_2 hb hpo h15 R' hg')
