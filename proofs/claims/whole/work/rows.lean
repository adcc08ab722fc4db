section
-- ===== PART A: goes FIRST, ahead of the names: the tables' words, and 'selects' of the private methods out of them =====
/-- a private method of a class that the tables say can be made, by its rows of tables_1 -/
def lw_okq (q : MethodName × Nat) : Prop := (q.1.cls ≠ "java/lang/invoke/MethodHandle" ∧ q.1.cls ≠ "java/lang/invoke/VarHandle") ∧ Cond.instantiable q.1.cls q.2 ∈ tables_1 ∧ Cond.privateMethod q.1 ∈ tables_1 ∧ Cond.instanceMethod q.1 ∈ tables_1
theorem lw_p0 : lw_okq (⟨"java/lang/Throwable", "fillInStackTrace", "(I)Ljava/lang/Throwable;"⟩, 6) := ⟨⟨by decide +kernel, by decide +kernel⟩, List.mem_of_getElem? (i := 162) (by decide +kernel), List.mem_of_getElem? (i := 160) (by decide +kernel), List.mem_of_getElem? (i := 161) (by decide +kernel)⟩
theorem lw_p1 : lw_okq (⟨"Castdesk", "checkCanBegin", "(II)V"⟩, 15) := ⟨⟨by decide +kernel, by decide +kernel⟩, List.mem_of_getElem? (i := 23) (by decide +kernel), List.mem_of_getElem? (i := 220) (by decide +kernel), List.mem_of_getElem? (i := 221) (by decide +kernel)⟩
theorem lw_p2 : lw_okq (⟨"Castdesk", "begin", "(II)I"⟩, 15) := ⟨⟨by decide +kernel, by decide +kernel⟩, List.mem_of_getElem? (i := 23) (by decide +kernel), List.mem_of_getElem? (i := 264) (by decide +kernel), List.mem_of_getElem? (i := 265) (by decide +kernel)⟩
theorem lw_p3 : lw_okq (⟨"java/util/ArrayList", "add", "(Ljava/lang/Object;[Ljava/lang/Object;I)V"⟩, 3) := ⟨⟨by decide +kernel, by decide +kernel⟩, List.mem_of_getElem? (i := 31) (by decide +kernel), List.mem_of_getElem? (i := 305) (by decide +kernel), List.mem_of_getElem? (i := 306) (by decide +kernel)⟩
theorem lw_p4 : lw_okq (⟨"java/util/ArrayList", "grow", "()[Ljava/lang/Object;"⟩, 3) := ⟨⟨by decide +kernel, by decide +kernel⟩, List.mem_of_getElem? (i := 31) (by decide +kernel), List.mem_of_getElem? (i := 309) (by decide +kernel), List.mem_of_getElem? (i := 310) (by decide +kernel)⟩
theorem lw_p5 : lw_okq (⟨"java/util/ArrayList", "grow", "(I)[Ljava/lang/Object;"⟩, 3) := ⟨⟨by decide +kernel, by decide +kernel⟩, List.mem_of_getElem? (i := 31) (by decide +kernel), List.mem_of_getElem? (i := 313) (by decide +kernel), List.mem_of_getElem? (i := 314) (by decide +kernel)⟩
theorem lw_p6 : lw_okq (⟨"Castdesk", "fightNumbered", "(I)LCastdesk$Fight;"⟩, 15) := ⟨⟨by decide +kernel, by decide +kernel⟩, List.mem_of_getElem? (i := 23) (by decide +kernel), List.mem_of_getElem? (i := 364) (by decide +kernel), List.mem_of_getElem? (i := 365) (by decide +kernel)⟩
theorem lw_p7 : lw_okq (⟨"Castdesk", "pointsUpTo", "(ILCastdesk$Fight;I)I"⟩, 15) := ⟨⟨by decide +kernel, by decide +kernel⟩, List.mem_of_getElem? (i := 23) (by decide +kernel), List.mem_of_getElem? (i := 373) (by decide +kernel), List.mem_of_getElem? (i := 374) (by decide +kernel)⟩
theorem lw_p8 : lw_okq (⟨"Castdesk", "strikeAllOf", "(LCastdesk$Fight;)V"⟩, 15) := ⟨⟨by decide +kernel, by decide +kernel⟩, List.mem_of_getElem? (i := 23) (by decide +kernel), List.mem_of_getElem? (i := 386) (by decide +kernel), List.mem_of_getElem? (i := 387) (by decide +kernel)⟩
theorem lw_p9 : lw_okq (⟨"Castdesk", "uncountFramesOf", "(LCastdesk$Fight;)V"⟩, 15) := ⟨⟨by decide +kernel, by decide +kernel⟩, List.mem_of_getElem? (i := 23) (by decide +kernel), List.mem_of_getElem? (i := 390) (by decide +kernel), List.mem_of_getElem? (i := 391) (by decide +kernel)⟩
theorem lw_p10 : lw_okq (⟨"Castdesk", "letViewersSee", "()V"⟩, 15) := ⟨⟨by decide +kernel, by decide +kernel⟩, List.mem_of_getElem? (i := 23) (by decide +kernel), List.mem_of_getElem? (i := 430) (by decide +kernel), List.mem_of_getElem? (i := 431) (by decide +kernel)⟩
theorem lw_p11 : lw_okq (⟨"Castdesk", "passOne", "()V"⟩, 15) := ⟨⟨by decide +kernel, by decide +kernel⟩, List.mem_of_getElem? (i := 23) (by decide +kernel), List.mem_of_getElem? (i := 443) (by decide +kernel), List.mem_of_getElem? (i := 444) (by decide +kernel)⟩
theorem lw_p12 : lw_okq (⟨"Castdesk", "hottestFight", "()LCastdesk$Fight;"⟩, 15) := ⟨⟨by decide +kernel, by decide +kernel⟩, List.mem_of_getElem? (i := 23) (by decide +kernel), List.mem_of_getElem? (i := 447) (by decide +kernel), List.mem_of_getElem? (i := 448) (by decide +kernel)⟩
theorem lw_p13 : lw_okq (⟨"Castdesk", "ofFrameAhead", "([I)I"⟩, 15) := ⟨⟨by decide +kernel, by decide +kernel⟩, List.mem_of_getElem? (i := 23) (by decide +kernel), List.mem_of_getElem? (i := 451) (by decide +kernel), List.mem_of_getElem? (i := 452) (by decide +kernel)⟩
theorem lw_p14 : lw_okq (⟨"Castdesk", "heatOf", "(LCastdesk$Fight;)I"⟩, 15) := ⟨⟨by decide +kernel, by decide +kernel⟩, List.mem_of_getElem? (i := 23) (by decide +kernel), List.mem_of_getElem? (i := 455) (by decide +kernel), List.mem_of_getElem? (i := 456) (by decide +kernel)⟩
theorem lw_p15 : lw_okq (⟨"Castdesk", "cameraForAir", "()I"⟩, 15) := ⟨⟨by decide +kernel, by decide +kernel⟩, List.mem_of_getElem? (i := 23) (by decide +kernel), List.mem_of_getElem? (i := 469) (by decide +kernel), List.mem_of_getElem? (i := 470) (by decide +kernel)⟩
def lw_privs_1 : List (MethodName × Nat) := [(⟨"java/lang/Throwable", "fillInStackTrace", "(I)Ljava/lang/Throwable;"⟩, 6), (⟨"Castdesk", "checkCanBegin", "(II)V"⟩, 15), (⟨"Castdesk", "begin", "(II)I"⟩, 15), (⟨"java/util/ArrayList", "add", "(Ljava/lang/Object;[Ljava/lang/Object;I)V"⟩, 3), (⟨"java/util/ArrayList", "grow", "()[Ljava/lang/Object;"⟩, 3), (⟨"java/util/ArrayList", "grow", "(I)[Ljava/lang/Object;"⟩, 3), (⟨"Castdesk", "fightNumbered", "(I)LCastdesk$Fight;"⟩, 15), (⟨"Castdesk", "pointsUpTo", "(ILCastdesk$Fight;I)I"⟩, 15), (⟨"Castdesk", "strikeAllOf", "(LCastdesk$Fight;)V"⟩, 15), (⟨"Castdesk", "uncountFramesOf", "(LCastdesk$Fight;)V"⟩, 15), (⟨"Castdesk", "letViewersSee", "()V"⟩, 15), (⟨"Castdesk", "passOne", "()V"⟩, 15), (⟨"Castdesk", "hottestFight", "()LCastdesk$Fight;"⟩, 15), (⟨"Castdesk", "ofFrameAhead", "([I)I"⟩, 15), (⟨"Castdesk", "heatOf", "(LCastdesk$Fight;)I"⟩, 15), (⟨"Castdesk", "cameraForAir", "()I"⟩, 15)]
theorem lw_r1 : ∀ q ∈ lw_privs_1, lw_okq q := List.forall_mem_cons.mpr ⟨lw_p0, List.forall_mem_cons.mpr ⟨lw_p1, List.forall_mem_cons.mpr ⟨lw_p2, List.forall_mem_cons.mpr ⟨lw_p3, List.forall_mem_cons.mpr ⟨lw_p4, List.forall_mem_cons.mpr ⟨lw_p5, List.forall_mem_cons.mpr ⟨lw_p6, List.forall_mem_cons.mpr ⟨lw_p7, List.forall_mem_cons.mpr ⟨lw_p8, List.forall_mem_cons.mpr ⟨lw_p9, List.forall_mem_cons.mpr ⟨lw_p10, List.forall_mem_cons.mpr ⟨lw_p11, List.forall_mem_cons.mpr ⟨lw_p12, List.forall_mem_cons.mpr ⟨lw_p13, List.forall_mem_cons.mpr ⟨lw_p14, List.forall_mem_cons.mpr ⟨lw_p15, fun _ h => absurd h List.not_mem_nil⟩⟩⟩⟩⟩⟩⟩⟩⟩⟩⟩⟩⟩⟩⟩⟩
theorem lw_p16 : lw_okq (⟨"Castdesk", "canBeOnAir", "(I)Z"⟩, 15) := ⟨⟨by decide +kernel, by decide +kernel⟩, List.mem_of_getElem? (i := 23) (by decide +kernel), List.mem_of_getElem? (i := 473) (by decide +kernel), List.mem_of_getElem? (i := 474) (by decide +kernel)⟩
theorem lw_p17 : lw_okq (⟨"Castdesk", "showFight", "(LCastdesk$Fight;)V"⟩, 15) := ⟨⟨by decide +kernel, by decide +kernel⟩, List.mem_of_getElem? (i := 23) (by decide +kernel), List.mem_of_getElem? (i := 477) (by decide +kernel), List.mem_of_getElem? (i := 478) (by decide +kernel)⟩
theorem lw_p18 : lw_okq (⟨"Castdesk", "sponsorOwedMost", "(LCastdesk$Fight;)I"⟩, 15) := ⟨⟨by decide +kernel, by decide +kernel⟩, List.mem_of_getElem? (i := 23) (by decide +kernel), List.mem_of_getElem? (i := 481) (by decide +kernel), List.mem_of_getElem? (i := 482) (by decide +kernel)⟩
theorem lw_p19 : lw_okq (⟨"Castdesk", "owedTo", "(I)I"⟩, 15) := ⟨⟨by decide +kernel, by decide +kernel⟩, List.mem_of_getElem? (i := 23) (by decide +kernel), List.mem_of_getElem? (i := 485) (by decide +kernel), List.mem_of_getElem? (i := 486) (by decide +kernel)⟩
theorem lw_p20 : lw_okq (⟨"Castdesk", "letCamerasPass", "(I)V"⟩, 15) := ⟨⟨by decide +kernel, by decide +kernel⟩, List.mem_of_getElem? (i := 23) (by decide +kernel), List.mem_of_getElem? (i := 489) (by decide +kernel), List.mem_of_getElem? (i := 490) (by decide +kernel)⟩
theorem lw_p21 : lw_okq (⟨"Castdesk", "entryNumbered", "(I)LCastdesk$Entry;"⟩, 15) := ⟨⟨by decide +kernel, by decide +kernel⟩, List.mem_of_getElem? (i := 23) (by decide +kernel), List.mem_of_getElem? (i := 552) (by decide +kernel), List.mem_of_getElem? (i := 553) (by decide +kernel)⟩
theorem lw_p22 : lw_okq (⟨"Castdesk", "placeOf", "(I)I"⟩, 15) := ⟨⟨by decide +kernel, by decide +kernel⟩, List.mem_of_getElem? (i := 23) (by decide +kernel), List.mem_of_getElem? (i := 661) (by decide +kernel), List.mem_of_getElem? (i := 662) (by decide +kernel)⟩
theorem lw_p23 : lw_okq (⟨"CastdeskModel", "refused", "(I)Z"⟩, 29) := ⟨⟨by decide +kernel, by decide +kernel⟩, List.mem_of_getElem? (i := 665) (by decide +kernel), List.mem_of_getElem? (i := 774) (by decide +kernel), List.mem_of_getElem? (i := 775) (by decide +kernel)⟩
theorem lw_p24 : lw_okq (⟨"CastdeskModel", "isBusy", "(I)Z"⟩, 29) := ⟨⟨by decide +kernel, by decide +kernel⟩, List.mem_of_getElem? (i := 665) (by decide +kernel), List.mem_of_getElem? (i := 782) (by decide +kernel), List.mem_of_getElem? (i := 783) (by decide +kernel)⟩
theorem lw_p25 : lw_okq (⟨"CastdeskModel", "begin", "(II)I"⟩, 29) := ⟨⟨by decide +kernel, by decide +kernel⟩, List.mem_of_getElem? (i := 665) (by decide +kernel), List.mem_of_getElem? (i := 786) (by decide +kernel), List.mem_of_getElem? (i := 787) (by decide +kernel)⟩
theorem lw_p26 : lw_okq (⟨"CastdeskModel", "isFight", "(I)Z"⟩, 29) := ⟨⟨by decide +kernel, by decide +kernel⟩, List.mem_of_getElem? (i := 665) (by decide +kernel), List.mem_of_getElem? (i := 794) (by decide +kernel), List.mem_of_getElem? (i := 795) (by decide +kernel)⟩
theorem lw_p27 : lw_okq (⟨"CastdeskModel", "pointsOf", "(III)I"⟩, 29) := ⟨⟨by decide +kernel, by decide +kernel⟩, List.mem_of_getElem? (i := 665) (by decide +kernel), List.mem_of_getElem? (i := 798) (by decide +kernel), List.mem_of_getElem? (i := 799) (by decide +kernel)⟩
theorem lw_p28 : lw_okq (⟨"CastdeskModel", "see", "()V"⟩, 29) := ⟨⟨by decide +kernel, by decide +kernel⟩, List.mem_of_getElem? (i := 665) (by decide +kernel), List.mem_of_getElem? (i := 814) (by decide +kernel), List.mem_of_getElem? (i := 815) (by decide +kernel)⟩
theorem lw_p29 : lw_okq (⟨"CastdeskModel", "passes", "()V"⟩, 29) := ⟨⟨by decide +kernel, by decide +kernel⟩, List.mem_of_getElem? (i := 665) (by decide +kernel), List.mem_of_getElem? (i := 822) (by decide +kernel), List.mem_of_getElem? (i := 823) (by decide +kernel)⟩
theorem lw_p30 : lw_okq (⟨"CastdeskModel", "hottest", "()I"⟩, 29) := ⟨⟨by decide +kernel, by decide +kernel⟩, List.mem_of_getElem? (i := 665) (by decide +kernel), List.mem_of_getElem? (i := 826) (by decide +kernel), List.mem_of_getElem? (i := 827) (by decide +kernel)⟩
theorem lw_p31 : lw_okq (⟨"CastdeskModel", "heat", "(I)I"⟩, 29) := ⟨⟨by decide +kernel, by decide +kernel⟩, List.mem_of_getElem? (i := 665) (by decide +kernel), List.mem_of_getElem? (i := 830) (by decide +kernel), List.mem_of_getElem? (i := 831) (by decide +kernel)⟩
def lw_privs_2 : List (MethodName × Nat) := [(⟨"Castdesk", "canBeOnAir", "(I)Z"⟩, 15), (⟨"Castdesk", "showFight", "(LCastdesk$Fight;)V"⟩, 15), (⟨"Castdesk", "sponsorOwedMost", "(LCastdesk$Fight;)I"⟩, 15), (⟨"Castdesk", "owedTo", "(I)I"⟩, 15), (⟨"Castdesk", "letCamerasPass", "(I)V"⟩, 15), (⟨"Castdesk", "entryNumbered", "(I)LCastdesk$Entry;"⟩, 15), (⟨"Castdesk", "placeOf", "(I)I"⟩, 15), (⟨"CastdeskModel", "refused", "(I)Z"⟩, 29), (⟨"CastdeskModel", "isBusy", "(I)Z"⟩, 29), (⟨"CastdeskModel", "begin", "(II)I"⟩, 29), (⟨"CastdeskModel", "isFight", "(I)Z"⟩, 29), (⟨"CastdeskModel", "pointsOf", "(III)I"⟩, 29), (⟨"CastdeskModel", "see", "()V"⟩, 29), (⟨"CastdeskModel", "passes", "()V"⟩, 29), (⟨"CastdeskModel", "hottest", "()I"⟩, 29), (⟨"CastdeskModel", "heat", "(I)I"⟩, 29)]
theorem lw_r2 : ∀ q ∈ lw_privs_2, lw_okq q := List.forall_mem_cons.mpr ⟨lw_p16, List.forall_mem_cons.mpr ⟨lw_p17, List.forall_mem_cons.mpr ⟨lw_p18, List.forall_mem_cons.mpr ⟨lw_p19, List.forall_mem_cons.mpr ⟨lw_p20, List.forall_mem_cons.mpr ⟨lw_p21, List.forall_mem_cons.mpr ⟨lw_p22, List.forall_mem_cons.mpr ⟨lw_p23, List.forall_mem_cons.mpr ⟨lw_p24, List.forall_mem_cons.mpr ⟨lw_p25, List.forall_mem_cons.mpr ⟨lw_p26, List.forall_mem_cons.mpr ⟨lw_p27, List.forall_mem_cons.mpr ⟨lw_p28, List.forall_mem_cons.mpr ⟨lw_p29, List.forall_mem_cons.mpr ⟨lw_p30, List.forall_mem_cons.mpr ⟨lw_p31, fun _ h => absurd h List.not_mem_nil⟩⟩⟩⟩⟩⟩⟩⟩⟩⟩⟩⟩⟩⟩⟩⟩
theorem lw_p32 : lw_okq (⟨"CastdeskModel", "chosen", "()I"⟩, 29) := ⟨⟨by decide +kernel, by decide +kernel⟩, List.mem_of_getElem? (i := 665) (by decide +kernel), List.mem_of_getElem? (i := 834) (by decide +kernel), List.mem_of_getElem? (i := 835) (by decide +kernel)⟩
theorem lw_p33 : lw_okq (⟨"CastdeskModel", "sponsorFor", "(I)I"⟩, 29) := ⟨⟨by decide +kernel, by decide +kernel⟩, List.mem_of_getElem? (i := 665) (by decide +kernel), List.mem_of_getElem? (i := 838) (by decide +kernel), List.mem_of_getElem? (i := 839) (by decide +kernel)⟩
theorem lw_p34 : lw_okq (⟨"CastdeskModel", "owedTo", "(I)I"⟩, 29) := ⟨⟨by decide +kernel, by decide +kernel⟩, List.mem_of_getElem? (i := 665) (by decide +kernel), List.mem_of_getElem? (i := 842) (by decide +kernel), List.mem_of_getElem? (i := 843) (by decide +kernel)⟩
theorem lw_p35 : lw_okq (⟨"CastdeskModel", "countedFor", "(I)I"⟩, 29) := ⟨⟨by decide +kernel, by decide +kernel⟩, List.mem_of_getElem? (i := 665) (by decide +kernel), List.mem_of_getElem? (i := 846) (by decide +kernel), List.mem_of_getElem? (i := 847) (by decide +kernel)⟩
theorem lw_p36 : lw_okq (⟨"CastdeskModel", "isEntry", "(I)Z"⟩, 29) := ⟨⟨by decide +kernel, by decide +kernel⟩, List.mem_of_getElem? (i := 665) (by decide +kernel), List.mem_of_getElem? (i := 858) (by decide +kernel), List.mem_of_getElem? (i := 859) (by decide +kernel)⟩
theorem lw_p37 : lw_okq (⟨"CastdeskModel", "isFixed", "(I)Z"⟩, 29) := ⟨⟨by decide +kernel, by decide +kernel⟩, List.mem_of_getElem? (i := 665) (by decide +kernel), List.mem_of_getElem? (i := 862) (by decide +kernel), List.mem_of_getElem? (i := 863) (by decide +kernel)⟩
theorem lw_p38 : lw_okq (⟨"CastdeskModel", "wins", "(I)I"⟩, 29) := ⟨⟨by decide +kernel, by decide +kernel⟩, List.mem_of_getElem? (i := 665) (by decide +kernel), List.mem_of_getElem? (i := 926) (by decide +kernel), List.mem_of_getElem? (i := 927) (by decide +kernel)⟩
def lw_privs_3 : List (MethodName × Nat) := [(⟨"CastdeskModel", "chosen", "()I"⟩, 29), (⟨"CastdeskModel", "sponsorFor", "(I)I"⟩, 29), (⟨"CastdeskModel", "owedTo", "(I)I"⟩, 29), (⟨"CastdeskModel", "countedFor", "(I)I"⟩, 29), (⟨"CastdeskModel", "isEntry", "(I)Z"⟩, 29), (⟨"CastdeskModel", "isFixed", "(I)Z"⟩, 29), (⟨"CastdeskModel", "wins", "(I)I"⟩, 29)]
theorem lw_r3 : ∀ q ∈ lw_privs_3, lw_okq q := List.forall_mem_cons.mpr ⟨lw_p32, List.forall_mem_cons.mpr ⟨lw_p33, List.forall_mem_cons.mpr ⟨lw_p34, List.forall_mem_cons.mpr ⟨lw_p35, List.forall_mem_cons.mpr ⟨lw_p36, List.forall_mem_cons.mpr ⟨lw_p37, List.forall_mem_cons.mpr ⟨lw_p38, fun _ h => absurd h List.not_mem_nil⟩⟩⟩⟩⟩⟩⟩
def lw_privs : List (MethodName × Nat) := lw_privs_1 ++ (lw_privs_2 ++ (lw_privs_3))
def lw_tbl : List Cond := k2_sels lw_privs ++ tables_1
theorem lw_privs_ok : ∀ q ∈ lw_privs, lw_okq q := by
  show ∀ q ∈ lw_privs_1 ++ (lw_privs_2 ++ (lw_privs_3)), lw_okq q
  exact List.forall_mem_append.mpr ⟨lw_r1, List.forall_mem_append.mpr ⟨lw_r2, lw_r3⟩⟩
end
section
/-! ===== BEGIN words of one list among another's, by their places ===== -/
theorem goodIn_r {big : List Cond} (ws : List Cond) (ps : List Nat) (hp : ws = ps.filterMap (fun i => big[i]?)) (h : ws.all goodWord = true) : GoodIn big ws := by
  intro w hw
  have h1 := List.all_eq_true.mp h w hw
  rw [hp] at hw
  obtain ⟨i, -, hi⟩ := List.mem_filterMap.mp hw
  have hm : w ∈ big := by first | exact List.mem_of_getElem? hi | exact List.getElem?_mem hi
  exact ⟨hm, good_of_word h1⟩
theorem goodIn_app {big a b : List Cond} (ha : GoodIn big a) (hb : GoodIn big b) : GoodIn big (a ++ b) := fun w h => (List.mem_append.mp h).elim (ha w) (hb w)
theorem goodIn_ca {big a b : List Cond} {c : Cond} (ha : GoodIn big (c :: a)) (hb : GoodIn big b) : GoodIn big (c :: (a ++ b)) := fun w h => (List.mem_cons.mp h).elim (fun e => ha w (List.mem_cons.mpr (Or.inl e))) (fun h => (List.mem_append.mp h).elim (fun h => ha w (List.mem_cons.mpr (Or.inr h))) (hb w))
theorem goodIn_sub {big ws : List Cond} (hm : ∀ w ∈ ws, w ∈ big) (h : ws.all goodWord = true) : GoodIn big ws := fun w hw => ⟨hm w hw, good_of_word (List.all_eq_true.mp h w hw)⟩
/-! ===== END ===== -/

/-! ===== BEGIN exceptions that leave a method, and their catching by the caller (launches without stack traces) ===== -/
section VXA
/-! The laws vx_back, vx_callV, vx_callS, vx_callSW, vx_throw0, vx_throwS follow proofs of the library, with one case more: JvmDerived/Free/Laws.lean (Back.of_free), Shelf42/LK1.lean (callV, callS), Shelf/KitTraced.lean (throwNew0V, throwNewS). -/
/-- where a method has thrown q: the class by its name, the cell, what was written, the world -/
def vx_T (XC : String → State → State → Prop) (st : State) (q : Addr) (t : State) (mc ms : Nat) (free : Addr → Prop) : Prop :=
  ∃ (E : String) (ce : Cell) (L : List Loc), XC E st t ∧ t.heap[q]? = some ce ∧ ce.vm = .none ∧ st.vm.findClass E = some ce.cls ∧ st.WarmedH t.vm ∧ st.sameButNew ({ t with vm := st.vm } : State) L mc ms ∧ ∀ z ∈ L, free z.base
def vx_Q (Qc : Array Value → State → Outcome → State → Prop) (XC : String → State → State → Prop) (mc ms : Nat) (free : Addr → Prop) : Array Value → State → Outcome → State → Prop := fun a st o t =>
  (Qc a st o t ∧ ∃ L, FrameEnd st o t L mc ms ∧ ∀ q ∈ L, free q.base) ∨ ∃ q, o = .threw q ∧ vx_T XC st q t mc ms free
/-- a callee that returns or throws -/
def vx_Met (l : Launch) (y : MethodName) (ws : List Cond) (rm : Room) (Pc : Array Value → State → Prop) (Qc : Array Value → State → Outcome → State → Prop) (XC : String → State → State → Prop) (mc ms : Nat) (free : Addr → Prop) : Prop :=
  MetFree l y (headSpec ws rm) Pc (fun _ _ _ _ _ => True) (vx_Q Qc XC mc ms free)
def vx_Post (XC : String → State → State → Prop) (mc ms : Nat) (free : Addr → Prop) : Pt → Array Value → Addr → Pt → Prop := fun A a q B =>
  ∃ (g : JFrame) (mk : MethodId) (t : State) (L : List Loc) (E : String) (ce : Cell), B.U.heap = t.heap ∧ B.U.vm = t.vm ∧ XC E (A.U.calling g mk a) t ∧ t.heap[q]? = some ce ∧ ce.vm = .none ∧ A.U.vm.findClass E = some ce.cls ∧ B.locs = A.locs ++ L ∧ (∀ z ∈ L, free z.base) ∧ B.cells = A.cells + mc ∧ B.slots = A.slots + ms
def vx_Back (l : Launch) (R : Room) (p : Program) (e : Env) (below : List Frame) (s : State) (sargs : Array Value) (y : MethodName) (len W9 : Nat)
    (Pre : Pt → Array Value → Prop) (Post : Pt → Array Value → Option Value → Pt → Prop) (PostX : Pt → Array Value → Addr → Pt → Prop) : Prop :=
  ∀ (m : MethodId) (meth : Method) (c : Code) (A : Pt) (g : JFrame) (ig : Instr) (mk : MethodId) (a : Array Value),
    Stand p l e R s m sargs below meth c A.U A.locs A.cells A.slots → g.method = m → g.locals.size = c.maxLocals → decode c.code g.pc = .ok (ig, len) →
    2 * g.monitorRoom + (g.stack.map fun v => v.category).sum ≤ W9 → A.U.methodNamed? y = some mk → Pre A a →
    (∃ (v : Option Value) (B : Pt), Stand p l e R s m sargs below meth c B.U B.locs B.cells B.slots ∧ Post A a v B ∧
      Steps p.tables e below (doInvoke e (A.U.setTop g) [] mk a).1 (B.U.setTop { g with pc := g.pc + len, stack := v.toList ++ g.stack })) ∨
    (∃ (q : Addr) (B : Pt), Stand p l e R s m sargs below meth c B.U B.locs B.cells B.slots ∧ PostX A a q B ∧
      Steps p.tables e below (doInvoke e (A.U.setTop g) [] mk a).1 ((B.U.setTop g).pushFrame (.throwing q)))
section Payer
variable {l : Launch} {R : Room} {p : Program} {e : Env} {below : List Frame} {s : State} {sargs : Array Value} {y : MethodName} {len W9 : Nat}
theorem vx_back {ws : List Cond} {rm : Room} {Pc : Array Value → State → Prop} {Qc : Array Value → State → Outcome → State → Prop} {XC : String → State → State → Prop} {mc ms : Nat} {free : Addr → Prop} {bytes : ByteArray} {maxL : Nat} {ret : Option FieldType}
    (hM : vx_Met l y ws rm Pc Qc XC mc ms free) (hblind : FrameBlind Pc) (hrc : rm.cells = mc) (hrs : rm.slots = ms)
    (hframes : rm.frames + 1 ≤ R.frames) (hlocals : W9 + (maxL + 11) + rm.locals ≤ R.locals)
    (hws : ∀ w ∈ ws, ∀ a' U, s.WarmedH U.vm → w.before a' U = true) (hcode : Cond.code y bytes maxL ret ∈ ws) (hinit : ∀ a' U, s.WarmedH U.vm → (Cond.initialized y.cls).before a' U = true) :
    vx_Back l R p e below s sargs y len W9 (PreOf R mc ms Pc) (PostOf Qc mc ms free) (vx_Post XC mc ms free) := by
  intro m meth c A g ig mk a X hg hsize hdg hW hn hp
  have h1 : (headSpec ws rm).pre.before a A.U = true := atoms_intro fun w hw => hws w hw _ _ X.warmed
  have h2 : (Cond.code y bytes maxL ret).before a A.U = true := hws _ hcode _ _ X.warmed
  have h3 : (Cond.initialized y.cls).before a A.U = true := hinit _ _ X.warmed
  have h4 : A.cells + (headSpec ws rm).room.cells ≤ R.cells := by rw [show (headSpec ws rm).room.cells = mc from hrc]; exact hp.1
  have h5 : A.slots + (headSpec ws rm).room.slots ≤ R.slots := by rw [show (headSpec ws rm).room.slots = ms from hrs]; exact hp.2.1
  have hPc : Pc a (A.U.calling g mk a) := hblind _ _ _ _ hp.2.2
  obtain ⟨U, Ls, c0, s0⟩ := A
  dsimp only [Pt.U, Pt.locs, Pt.cells, Pt.slots] at h1 h2 h3 h4 h5 X hn hPc ⊢
  obtain ⟨methY, cY, hmY, hcY, -, hlY, -, -, -, -⟩ := Cond.code_spec hn h2
  obtain ⟨kY, hkY, -⟩ := className_of_methodNamed hn
  have hinitY : kY.init = .initialized := Cond.initialized_spec (findClass_of_methodNamed hn) hkY h3
  have h : At U g.method c below := by rw [hg]; exact X.here
  have hlocals9 : W9 + (maxL + 11) + (headSpec ws rm).room.locals ≤ R.locals := hlocals
  have happ : (headSpec ws rm).appliesLoose y e.platform (U.calling g mk a) = true :=
    Spec.appliesLoose_calling (g := g) h hdg hn hkY hinitY
      (X.room_calling (g := g) (R' := (headSpec ws rm).room) hsize hmY hcY hframes (by rw [hlY]; omega) h4 h5) h1
  obtain ⟨mid, hmid⟩ := h.above
  have hfr : (U.setTop g).frames = (.java g :: mid) ++ below := by rw [State.frames_setTop' g h.top, hmid]; rfl
  obtain ⟨o, s₂, hsteps, -, hend, hq⟩ := Steps.callFree hM p X.admits X.cas X.clock (acts := []) hfr happ hPc trivial
  have hq' : vx_Q Qc XC mc ms free a (U.calling g mk a) o s₂ := hq
  rw [State.frames_setTop' g h.top] at hend
  obtain ⟨g₀, hg0⟩ := Option.isSome_iff_exists.mp h.top
  obtain ⟨r, hr⟩ := State.topJava?_eq_some.mp hg0
  have hr' : (({ U with heap := s₂.heap, slotsUsed := s₂.slotsUsed } : State).setVm s₂.vm).frames = .java g₀ :: r := hr
  rcases hq' with ⟨hqc, L, hfe, hL⟩ | ⟨q, rfl, E, ce, L, hx, hce, hcv, hcl, hW₂, hsm, hL⟩
  · obtain ⟨⟨v, rfl⟩, hW₂, e2, q2, q3, q4, q5, q6⟩ := id hfe
    have e3 : s₂ = ({ (U.calling g mk a).setFrames s₂.frames with heap := s₂.heap, slotsUsed := s₂.slotsUsed } : State).setVm s₂.vm := by
      have : s₂ = ({ s₂ with vm := (U.calling g mk a).vm } : State).setVm s₂.vm := rfl
      rw [e2] at this
      exact this
    obtain ⟨c₂, i₂, len₂, hc₂, hd₂, hf₂⟩ := hend
    have hW' : U.WarmedH s₂.vm := hW₂
    have hcc : c₂ = c := by
      have h1 : s₂.code? g.method = U.code? g.method := by
        rw [State.code?_eq, State.code?_eq, hW'.alike.method?]
      exact Option.some.inj (hc₂.symm.trans (h1.trans h.code))
    subst hcc
    have hlen : len₂ = len := by rw [hdg] at hd₂; cases hd₂; rfl
    subst hlen
    have hs₂ : s₂ = (({ U with heap := s₂.heap, slotsUsed := s₂.slotsUsed } : State).setVm s₂.vm).setTop { g with pc := g.pc + len₂, stack := v.toList ++ g.stack } := by
      refine e3.trans ?_
      rw [hf₂, State.calling_eq h.top, State.setFrames_setFrames, State.setTop_of_frames _ hr', hr]
      rfl
    have hsame : U.sameButNew ({ U with heap := s₂.heap, slotsUsed := s₂.slotsUsed } : State) L mc ms := by
      refine ⟨?_, q2, q3, q4, q5, q6⟩
      obtain ⟨t, ht, -⟩ := State.frames_cons hr
      show ({ U with heap := s₂.heap, slotsUsed := s₂.slotsUsed } : State) = { U.setFrames U.frames with heap := s₂.heap, slotsUsed := s₂.slotsUsed }
      rw [State.setFrames_self ht]
    subst hg
    refine Or.inl ⟨v, ⟨(({ U with heap := s₂.heap, slotsUsed := s₂.slotsUsed } : State).setVm s₂.vm), Ls ++ L, c0 + mc, s0 + ms⟩,
      ⟨X.admits, X.cas, X.clock, X.frames, X.room, X.hears, X.method, X.code, (X.here.setHeapUsed s₂.heap s₂.slotsUsed).setVm hW'.alike, X.tail, State.WarmedH.trans X.warmed hW', X.limits, X.bytes, X.same.trans (hsame.setVm s.vm)⟩,
      ⟨g, mk, s₂, L, rfl, rfl, hqc, rfl, hL, rfl, rfl⟩, ?_⟩
    show Steps p.tables e below _ ((({ U with heap := s₂.heap, slotsUsed := s₂.slotsUsed } : State).setVm s₂.vm).setTop { g with pc := g.pc + len₂, stack := v.toList ++ g.stack })
    rw [← hs₂]
    exact hsteps
  · obtain ⟨e2, q2, q3, q4, q5, q6⟩ := id hsm
    have e3 : s₂ = ({ (U.calling g mk a).setFrames s₂.frames with heap := s₂.heap, slotsUsed := s₂.slotsUsed } : State).setVm s₂.vm := by
      have : s₂ = ({ s₂ with vm := (U.calling g mk a).vm } : State).setVm s₂.vm := rfl
      rw [e2] at this
      exact this
    have hf₂ : s₂.frames = .throwing q :: .java g :: U.frames.tail := hend
    have hW' : U.WarmedH s₂.vm := hW₂
    have hs₂ : s₂ = ((({ U with heap := s₂.heap, slotsUsed := s₂.slotsUsed } : State).setVm s₂.vm).setTop g).pushFrame (.throwing q) := by
      refine e3.trans ?_
      rw [hf₂, State.calling_eq h.top, State.setFrames_setFrames, State.pushFrame, State.frames_setTop _ hr', State.setTop_of_frames _ hr', State.setFrames_setFrames, hr]
      rfl
    have hsame : U.sameButNew ({ U with heap := s₂.heap, slotsUsed := s₂.slotsUsed } : State) L mc ms := by
      refine ⟨?_, q2, q3, q4, q5, q6⟩
      obtain ⟨t, ht, -⟩ := State.frames_cons hr
      show ({ U with heap := s₂.heap, slotsUsed := s₂.slotsUsed } : State) = { U.setFrames U.frames with heap := s₂.heap, slotsUsed := s₂.slotsUsed }
      rw [State.setFrames_self ht]
    subst hg
    refine Or.inr ⟨q, ⟨(({ U with heap := s₂.heap, slotsUsed := s₂.slotsUsed } : State).setVm s₂.vm), Ls ++ L, c0 + mc, s0 + ms⟩,
      ⟨X.admits, X.cas, X.clock, X.frames, X.room, X.hears, X.method, X.code, (X.here.setHeapUsed s₂.heap s₂.slotsUsed).setVm hW'.alike, X.tail, State.WarmedH.trans X.warmed hW', X.limits, X.bytes, X.same.trans (hsame.setVm s.vm)⟩,
      ⟨g, mk, s₂, L, E, ce, rfl, rfl, hx, hce, hcv, hcl, rfl, hL, rfl, rfl⟩, ?_⟩
    show Steps p.tables e below _ (((({ U with heap := s₂.heap, slotsUsed := s₂.slotsUsed } : State).setVm s₂.vm).setTop g).pushFrame (.throwing q))
    rw [← hs₂]
    exact hsteps
end Payer
section Calls
variable {p : Program} {l : Launch} {e : Env} {R : Room} {s : State} {m : MethodId} {args : Array Value} {below : List Frame} {meth : Method} {c : Code} {T : State} {locs : List Loc} {cells slots : Nat}
theorem vx_callV (X : Stand p l e R s m args below meth c T locs cells slots) (hexec : p.tables.exec = Jvm.exec) {own C : String} {index : Nat} {y : MethodName} {bytes : ByteArray} {maxL : Nat} {ret : Option FieldType}
    (hown : s.vm.findClass own = some m.cls) (hlink : (Cond.methodLink own index y).before args s = true) (hinst : (Cond.instanceMethod y).before args s = true) (hsel : (Cond.selects C y y).before args s = true)
    (hcode : (Cond.code y bytes maxL ret).before args s = true) (hy : y.cls ≠ "java/lang/invoke/MethodHandle" ∧ y.cls ≠ "java/lang/invoke/VarHandle")
    {W9 : Nat} {Pre : Pt → Array Value → Prop} {Post : Pt → Array Value → Option Value → Pt → Prop} {PostX : Pt → Array Value → Addr → Pt → Prop} (hK : vx_Back l R p e below s args y 3 W9 Pre Post PostX)
    {b : Addr} {cellB : Cell} (hcell : T.heap[b]? = some cellB) (hobj : cellB.vm.isStatics = false) (hcls : s.vm.findClass C = some cellB.cls)
    {g : JFrame} (hg : g.method = m) (hsize : g.locals.size = c.maxLocals) {argsL rest : List Value} (hlen : ∀ sig, parseMethodDescriptor y.desc = some sig → argsL.length = sig.parameters.length)
    (hstack : g.stack = argsL.reverse ++ .ref b :: rest) (hW : 2 * g.monitorRoom + (rest.map fun v => v.category).sum ≤ W9) (hdg : decode c.code g.pc = .ok (.invokevirtual index, 3))
    (hpre : ∀ vm₁, s.WarmedH vm₁ → Pre ⟨T.setVm vm₁, locs, cells, slots⟩ (Value.ref b :: argsL).toArray) :
    (∃ (v : Option Value) (vm₁ : Vm) (B : Pt), s.WarmedH vm₁ ∧ Stand p l e R s m args below meth c B.U B.locs B.cells B.slots ∧ Post ⟨T.setVm vm₁, locs, cells, slots⟩ (Value.ref b :: argsL).toArray v B ∧
      ∀ target, Steps p.tables e below (B.U.setTop { g with pc := g.pc + 3, stack := v.toList ++ rest }) target → Steps p.tables e below (T.setTop g) target) ∨
    (∃ (q : Addr) (vm₁ : Vm) (B : Pt), s.WarmedH vm₁ ∧ Stand p l e R s m args below meth c B.U B.locs B.cells B.slots ∧ PostX ⟨T.setVm vm₁, locs, cells, slots⟩ (Value.ref b :: argsL).toArray q B ∧
      Steps p.tables e below (T.setTop g) ((B.U.setTop { g with stack := rest }).pushFrame (.throwing q))) := by
  obtain ⟨mk, methM, hnamed, hmethM, hstM, habM⟩ := Cond.instanceMethod_spec hinst
  obtain ⟨methM', cM, hmethM', -, -, -, -, -, -, hsigM⟩ := Cond.code_spec hnamed hcode
  cases hmethM.symm.trans hmethM'
  obtain ⟨c2, r2, m2, q1, q2, q3, q4, kP, hkP, hkPi⟩ := Cond.selects_spec hsel
  cases hcls.symm.trans q1
  cases (State.methodFound?_of_named hnamed hy).symm.trans q2
  cases hnamed.symm.trans q3
  have hselP : selectMethod e.platform s.vm cellB.cls mk = .method mk := by rw [Launch.admits_selectMethod X.admits]; exact q4
  obtain ⟨vm₁, X₁, hstep₁⟩ := X.invokevirtual hexec hown hlink hnamed hmethM hstM hkP hkPi hy (a := b) (cell := cellB) hcell
    (fun z h => by rw [h] at hobj; cases hobj) hselP hmethM habM hkP hkPi (g := g) hg (argsL := argsL) (rest := rest) (hlen _ hsigM) hstack hdg
  rcases hK m meth c ⟨T.setVm vm₁, locs, cells, slots⟩ { g with stack := rest } (.invokevirtual index) mk (Value.ref b :: argsL).toArray X₁ hg hsize hdg hW (X₁.named hnamed) (hpre vm₁ X₁.warmed) with ⟨v, B, X', hpost, hsteps⟩ | ⟨q, B, X', hpost, hsteps⟩
  · exact Or.inl ⟨v, vm₁, B, X₁.warmed, X', hpost, fun target h => hstep₁ _ fun acts => by rw [doInvoke_state]; exact hsteps.trans h⟩
  · exact Or.inr ⟨q, vm₁, B, X₁.warmed, X', hpost, hstep₁ _ fun acts => by rw [doInvoke_state]; exact hsteps⟩
theorem vx_callS (X : Stand p l e R s m args below meth c T locs cells slots) (hexec : p.tables.exec = Jvm.exec) {own : String} {index : Nat} {y : MethodName} {bytes : ByteArray} {maxL : Nat} {ret : Option FieldType}
    (hown : s.vm.findClass own = some m.cls) (hlink : (Cond.methodLink own index y).before args s = true) (hstat : (Cond.static y).before args s = true) (hinit : (Cond.initialized y.cls).before args s = true)
    (hcode : (Cond.code y bytes maxL ret).before args s = true) (hy : y.cls ≠ "java/lang/invoke/MethodHandle" ∧ y.cls ≠ "java/lang/invoke/VarHandle")
    {W9 : Nat} {Pre : Pt → Array Value → Prop} {Post : Pt → Array Value → Option Value → Pt → Prop} {PostX : Pt → Array Value → Addr → Pt → Prop} (hK : vx_Back l R p e below s args y 3 W9 Pre Post PostX)
    {g : JFrame} (hg : g.method = m) (hsize : g.locals.size = c.maxLocals) {argsL rest : List Value} (hlen : ∀ sig, parseMethodDescriptor y.desc = some sig → argsL.length = sig.parameters.length)
    (hstack : g.stack = argsL.reverse ++ rest) (hW : 2 * g.monitorRoom + (rest.map fun v => v.category).sum ≤ W9) (hdg : decode c.code g.pc = .ok (.invokestatic index, 3))
    (hpre : ∀ vm₁, s.WarmedH vm₁ → Pre ⟨T.setVm vm₁, locs, cells, slots⟩ argsL.toArray) :
    (∃ (v : Option Value) (vm₁ : Vm) (B : Pt), s.WarmedH vm₁ ∧ Stand p l e R s m args below meth c B.U B.locs B.cells B.slots ∧ Post ⟨T.setVm vm₁, locs, cells, slots⟩ argsL.toArray v B ∧
      ∀ target, Steps p.tables e below (B.U.setTop { g with pc := g.pc + 3, stack := v.toList ++ rest }) target → Steps p.tables e below (T.setTop g) target) ∨
    (∃ (q : Addr) (vm₁ : Vm) (B : Pt), s.WarmedH vm₁ ∧ Stand p l e R s m args below meth c B.U B.locs B.cells B.slots ∧ PostX ⟨T.setVm vm₁, locs, cells, slots⟩ argsL.toArray q B ∧
      Steps p.tables e below (T.setTop g) ((B.U.setTop { g with stack := rest }).pushFrame (.throwing q))) := by
  obtain ⟨mk, hnamed⟩ := Cond.code_named hcode
  obtain ⟨methM, cM, hmethM, -, -, -, -, -, -, hsigM⟩ := Cond.code_spec hnamed hcode
  have hstatic : methM.isStatic = true := Cond.static_spec hnamed hmethM hstat
  obtain ⟨kP, hkP, -⟩ := className_of_methodNamed hnamed
  have hinitP : kP.init = .initialized := Cond.initialized_spec (findClass_of_methodNamed hnamed) hkP hinit
  obtain ⟨vm₁, X₁, hstep₁⟩ := X.invokestatic hexec hown hlink hnamed hmethM hstatic hkP hinitP hy (g := g) hg (argsL := argsL) (rest := rest) (hlen _ hsigM) hstack hdg
  rcases hK m meth c ⟨T.setVm vm₁, locs, cells, slots⟩ { g with stack := rest } (.invokestatic index) mk argsL.toArray X₁ hg hsize hdg hW (X₁.named hnamed) (hpre vm₁ X₁.warmed) with ⟨v, B, X', hpost, hsteps⟩ | ⟨q, B, X', hpost, hsteps⟩
  · exact Or.inl ⟨v, vm₁, B, X₁.warmed, X', hpost, fun target h => hstep₁ _ fun acts => by rw [doInvoke_state]; exact hsteps.trans h⟩
  · exact Or.inr ⟨q, vm₁, B, X₁.warmed, X', hpost, hstep₁ _ fun acts => by rw [doInvoke_state]; exact hsteps⟩
end Calls
theorem vx_cls {s : State} {T : State} {vm₁ : Vm} {E : String} {k : ClassId} (hW : s.WarmedH vm₁) (h : (T.setVm vm₁).vm.findClass E = some k) : s.vm.findClass E = some k := by
  have h1 : vm₁.findClass E = some k := h
  rw [hW.alike.findClass] at h1
  exact h1
/-- the method's frame g, with q thrown over it -/
def vx_W (p : Program) (l : Launch) (e : Env) (R : Room) (s : State) (m : MethodId) (args : Array Value) (below : List Frame) (meth : Method) (c : Code) (H : Heap) (locs : List Loc) (cells slots : Nat) (Q : State → Prop) (g : JFrame) (q : Addr) : Prop :=
  ∀ T : State, T.heap = H → Stand p l e R s m args below meth c T locs cells slots → ∃ t, Steps p.tables e below ((T.setTop g).pushFrame (.throwing q)) t ∧ Q t
def vx_Run (p : Program) (l : Launch) (e : Env) (R : Room) (s : State) (m : MethodId) (args : Array Value) (below : List Frame) (meth : Method) (c : Code) (H : Heap) (locs : List Loc) (cells slots mc ms : Nat) (g : JFrame) (rest : List Value) (Qa : State → Outcome → State → Prop) (XC : String → State → State → Prop) (free : Addr → Prop) : Prop :=
  ∀ T : State, T.heap = H → Stand p l e R s m args below meth c T locs cells slots →
    (∃ (v : Option Value) (st₀ t T' : State) (L : List Loc), st₀.heap = H ∧ Stand p l e R s m args below meth c T' (locs ++ L) (cells + mc) (slots + ms) ∧ (∀ q ∈ L, free q.base) ∧ T'.heap = t.heap ∧ T'.vm = t.vm ∧ Qa st₀ (.returned v) t ∧
      Goes p e below T g T' { g with pc := g.pc + 3, stack := v.toList ++ rest }) ∨
    (∃ (q : Addr) (st₀ t T' : State) (L : List Loc) (E : String) (ce : Cell), st₀.heap = H ∧ Stand p l e R s m args below meth c T' (locs ++ L) (cells + mc) (slots + ms) ∧ (∀ z ∈ L, free z.base) ∧ T'.heap = t.heap ∧ T'.vm = t.vm ∧ XC E st₀ t ∧ t.heap[q]? = some ce ∧ ce.vm = .none ∧ s.vm.findClass E = some ce.cls ∧
      Steps p.tables e below (T.setTop g) ((T'.setTop { g with stack := rest }).pushFrame (.throwing q)))
def vx_X {S : Type} (px : S → Prop) (B : String → S → State → Prop) (A : Nat → Prop) : String → State → State → Prop := fun E st t => ∃ u : S, px u ∧ B E u t ∧ va_F A st t
section Runs
variable {p : Program} {l : Launch} {e : Env} {R : Room} {s : State} {m : MethodId} {args : Array Value} {below : List Frame} {meth : Method} {c : Code} {H : Heap} {locs : List Loc} {cells slots : Nat}
variable {y : MethodName} {bytes cc : ByteArray} {maxL nL mc ms n index : Nat} {ret : Option FieldType} {ws : List Cond} {rm : Room} {Pc : Array Value → State → Prop} {Qc : Array Value → State → Outcome → State → Prop} {XC : String → State → State → Prop} {free : Addr → Prop} {Ts : List Cond} {own C : String} {b : Addr} {As rest : List Value} {g : JFrame}
theorem vx_callBack (cb : CallB R s args own index y bytes maxL ret ws rm mc ms n) (hM : vx_Met l y ws rm Pc Qc XC mc ms free) (hbl : FrameBlind Pc) : vx_Back l R p e below s args y 3 8 (PreOf R mc ms Pc) (PostOf Qc mc ms free) (vx_Post XC mc ms free) := by
  obtain ⟨hrc, hrs, hfr, hlo, hws, hcw, -, hini, -⟩ := cb
  exact vx_back (bytes := bytes) (maxL := maxL) (ret := ret) hM hbl hrc hrs hfr hlo hws hcw (fun a' U hW => word_at hW (Or.inl (by first | rfl | simp [Cond.onTables, Cond.keeps, Cond.steady])) hini)
theorem vx_runV (S : CallFix p m c cc nL s args Ts own) (hM : vx_Met l y ws rm Pc Qc XC mc ms free) (cw : CallW R s args own C index y bytes maxL ret ws rm mc ms n) (hp : PreV s H C b Pc As)
    (hg : g.method = m) (hn : As.length = n) (hsize : g.locals.size = nL) (hstack : g.stack = As.reverse ++ .ref b :: rest) (hW : 2 * g.monitorRoom + (rest.map fun v => v.category).sum ≤ 8) (hdg : decode cc g.pc = .ok (.invokevirtual index, 3)) (hf : cells + mc ≤ R.cells ∧ slots + ms ≤ R.slots) :
    vx_Run p l e R s m args below meth c H locs cells slots mc ms g rest (Qc (Value.ref b :: As).toArray) XC free := by
  have hK : vx_Back l R p e below s args y 3 8 (PreOf R mc ms Pc) (PostOf Qc mc ms free) (vx_Post XC mc ms free) := vx_callBack cw.1 hM hp.1
  obtain ⟨⟨-, -, -, -, -, -, hcode, -, hy, hlen, hl⟩, hin, hse⟩ := cw
  obtain ⟨hx, hb, hml, ho, -⟩ := S
  obtain ⟨-, ⟨cellB, hcB, hoB, hclB⟩, hPc⟩ := hp
  intro T hT X
  rcases vx_callV X hx (C := C) (bytes := bytes) (maxL := maxL) (ret := ret) ho hl hin hse hcode hy hK (by rw [hT]; exact hcB) hoB hclB hg (hsize.trans hml.symm) (argsL := As) (rest := rest) (fun sig h => hn.trans (hlen sig h)) hstack hW (by rw [hb]; exact hdg)
    (fun vm₁ hW₁ => ⟨hf.1, hf.2, hPc (T.setVm vm₁) hT hW₁⟩) with ⟨v, vm₁, ⟨U', l2, c2, s2⟩, hW₁, X', ⟨g', mk, t, L, e1, e2, hq, h1, hL, h2, h3⟩, st⟩ | ⟨q, vm₁, ⟨U', l2, c2, s2⟩, hW₁, X', ⟨g', mk, t, L, E, ce, e1, e2, hq, hce, hcv, hcl, h1, hL, h2, h3⟩, st⟩
  · dsimp only [Pt.U, Pt.locs, Pt.cells, Pt.slots] at X' e1 e2 h1 h2 h3 st
    subst h1; subst h2; subst h3
    exact Or.inl ⟨v, (T.setVm vm₁).calling g' mk (Value.ref b :: As).toArray, t, U', L, hT, X', hL, e1, e2, hq, st⟩
  · dsimp only [Pt.U, Pt.locs, Pt.cells, Pt.slots] at X' e1 e2 h1 h2 h3 st hcl
    subst h1; subst h2; subst h3
    exact Or.inr ⟨q, (T.setVm vm₁).calling g' mk (Value.ref b :: As).toArray, t, U', L, E, ce, hT, X', hL, e1, e2, hq, hce, hcv, vx_cls hW₁ hcl, st⟩
theorem vx_runS (S : CallFix p m c cc nL s args Ts own) (hM : vx_Met l y ws rm Pc Qc XC mc ms free) (cw : CallB R s args own index y bytes maxL ret ws rm mc ms n ∧ (Cond.static y).before args s = true) (hp : PreS s H Pc As)
    (hg : g.method = m) (hn : As.length = n) (hsize : g.locals.size = nL) (hstack : g.stack = As.reverse ++ rest) (hW : 2 * g.monitorRoom + (rest.map fun v => v.category).sum ≤ 8) (hdg : decode cc g.pc = .ok (.invokestatic index, 3)) (hf : cells + mc ≤ R.cells ∧ slots + ms ≤ R.slots) :
    vx_Run p l e R s m args below meth c H locs cells slots mc ms g rest (Qc As.toArray) XC free := by
  have hK : vx_Back l R p e below s args y 3 8 (PreOf R mc ms Pc) (PostOf Qc mc ms free) (vx_Post XC mc ms free) := vx_callBack cw.1 hM hp.1
  obtain ⟨⟨-, -, -, -, -, -, hcode, hini, hy, hlen, hl⟩, hstt⟩ := cw
  obtain ⟨hx, hb, hml, ho, -⟩ := S
  intro T hT X
  rcases vx_callS X hx (bytes := bytes) (maxL := maxL) (ret := ret) ho hl hstt hini hcode hy hK hg (hsize.trans hml.symm) (argsL := As) (rest := rest) (fun sig h => hn.trans (hlen sig h)) hstack hW (by rw [hb]; exact hdg)
    (fun vm₁ hW₁ => ⟨hf.1, hf.2, hp.2 (T.setVm vm₁) hT hW₁⟩) with ⟨v, vm₁, ⟨U', l2, c2, s2⟩, hW₁, X', ⟨g', mk, t, L, e1, e2, hq, h1, hL, h2, h3⟩, st⟩ | ⟨q, vm₁, ⟨U', l2, c2, s2⟩, hW₁, X', ⟨g', mk, t, L, E, ce, e1, e2, hq, hce, hcv, hcl, h1, hL, h2, h3⟩, st⟩
  · dsimp only [Pt.U, Pt.locs, Pt.cells, Pt.slots] at X' e1 e2 h1 h2 h3 st
    subst h1; subst h2; subst h3
    exact Or.inl ⟨v, (T.setVm vm₁).calling g' mk As.toArray, t, U', L, hT, X', hL, e1, e2, hq, st⟩
  · dsimp only [Pt.U, Pt.locs, Pt.cells, Pt.slots] at X' e1 e2 h1 h2 h3 st hcl
    subst h1; subst h2; subst h3
    exact Or.inr ⟨q, (T.setVm vm₁).calling g' mk As.toArray, t, U', L, E, ce, hT, X', hL, e1, e2, hq, hce, hcv, vx_cls hW₁ hcl, st⟩
end Runs
section Rows
variable {p : Program} {l : Launch} {e : Env} {R : Room} {s : State} {m : MethodId} {args : Array Value} {below : List Frame} {meth : Method} {c : Code} {H : Heap} {locs : List Loc} {cells slots : Nat} {Q : State → Prop}
variable {mc ms : Nat} {free : Addr → Prop} {A0 A1 : Nat → Prop} {H0 : Heap} {a : Array Value} {pc : Nat} {ls : Array Slot} {st0 rest : List Value}
theorem vx_keep {st₀ t T' : State} {L : List Loc} (h0 : st₀.heap = H) (e1 : T'.heap = t.heap) (hS : va_S A0 H0 H locs) (hA : ∀ q, q < H.size → A1 q → A0 q) (hf : ∀ q, free q → A0 q) (hL : ∀ q ∈ L, free q.base) (hF : va_F A1 st₀ t) :
    H.size ≤ T'.heap.size ∧ (∀ q : Nat, q < H.size → ¬ A1 q → T'.heap[q]? = H[q]?) ∧ va_S A0 H0 T'.heap (locs ++ L) := by
  obtain ⟨hz, hk⟩ := hF
  rw [h0] at hz hk
  exact ⟨by rw [e1]; exact hz, fun q h1 h2 => by rw [e1]; exact hk q h1 h2,
    ⟨Nat.le_trans hS.1 (by rw [e1]; exact hz), fun q h1 h2 => by rw [e1, hk q (Nat.lt_of_lt_of_le h1 hS.1) (fun z => h2 (hA q (Nat.lt_of_lt_of_le h1 hS.1) z))]; exact hS.2.1 q h1 h2, fun q hq => by
      rcases List.mem_append.mp hq with h | h
      · exact hS.2.2 q h
      · exact hf _ (hL q h)⟩⟩
theorem vx_calli {S SX : Type} {post : Int32 → S → Prop} {px : SX → Prop} {B : S → State → Prop} {BX : String → SX → State → Prop} {AX : Nat → Prop} (hr : vx_Run p l e R s m args below meth c H locs cells slots mc ms (F0 m pc ls st0) rest (va_Qi post B A1 a) (vx_X px BX AX) free) (hS : va_S A0 H0 H locs) (hA : ∀ q, q < H.size → A1 q → A0 q) (hf : ∀ q, free q → A0 q) (hAX : ∀ q, q < H.size → AX q → A0 q)
    (kx : ∀ (E : String) (ce : Cell) (q9 : Addr) (u : SX) (t : State) (H1 : Heap) (locs1 : List Loc), t.heap = H1 → s.vm.Alike t.vm → px u → BX E u t → H.size ≤ H1.size → (∀ q : Nat, q < H.size → ¬ AX q → H1[q]? = H[q]?) → va_S A0 H0 H1 locs1 → H1[q9]? = some ce → ce.vm = .none → s.vm.findClass E = some ce.cls → vx_W p l e R s m args below meth c H1 locs1 (cells + mc) (slots + ms) Q (F0 m pc ls rest) q9)
    (kk : ∀ (r : Int32) (u : S) (t : State) (H1 : Heap) (locs1 : List Loc), t.heap = H1 → s.vm.Alike t.vm → post r u → B u t → H.size ≤ H1.size → (∀ q : Nat, q < H.size → ¬ A1 q → H1[q]? = H[q]?) → va_S A0 H0 H1 locs1 → W p l e R s m args below meth c H1 locs1 (cells + mc) (slots + ms) Q (F0 m (pc + 3) ls (.int r :: rest))) : W p l e R s m args below meth c H locs cells slots Q (F0 m pc ls st0) := by
  intro T hT X
  rcases hr T hT X with ⟨v, st₀, t, T', L, h0, X', hL, e1, e2, ⟨⟨r, u, hv, hp, hb⟩, hF⟩, st⟩ | ⟨q, st₀, t, T', L, E, ce, h0, X', hL, e1, e2, ⟨u, hp, hb, hF⟩, hce, hcv, hcl, st⟩
  · cases hv
    obtain ⟨k1, k2, k3⟩ := vx_keep h0 e1 hS hA hf hL hF
    obtain ⟨t2, a1, b1⟩ := kk r u t T'.heap (locs ++ L) e1.symm (by rw [← e2]; exact X'.warmed.alike) hp hb k1 k2 k3 T' rfl X'
    exact ⟨t2, st t2 a1, b1⟩
  · obtain ⟨k1, k2, k3⟩ := vx_keep h0 e1 hS hAX hf hL hF
    obtain ⟨t2, a1, b1⟩ := kx E ce q u t T'.heap (locs ++ L) e1.symm (by rw [← e2]; exact X'.warmed.alike) hp hb k1 k2 k3 (by rw [e1]; exact hce) hcv hcl T' rfl X'
    exact ⟨t2, st.trans a1, b1⟩
theorem vx_calll {S SX : Type} {post : Int64 → S → Prop} {px : SX → Prop} {B : S → State → Prop} {BX : String → SX → State → Prop} {AX : Nat → Prop} (hr : vx_Run p l e R s m args below meth c H locs cells slots mc ms (F0 m pc ls st0) rest (va_Ql post B A1 a) (vx_X px BX AX) free) (hS : va_S A0 H0 H locs) (hA : ∀ q, q < H.size → A1 q → A0 q) (hf : ∀ q, free q → A0 q) (hAX : ∀ q, q < H.size → AX q → A0 q)
    (kx : ∀ (E : String) (ce : Cell) (q9 : Addr) (u : SX) (t : State) (H1 : Heap) (locs1 : List Loc), t.heap = H1 → s.vm.Alike t.vm → px u → BX E u t → H.size ≤ H1.size → (∀ q : Nat, q < H.size → ¬ AX q → H1[q]? = H[q]?) → va_S A0 H0 H1 locs1 → H1[q9]? = some ce → ce.vm = .none → s.vm.findClass E = some ce.cls → vx_W p l e R s m args below meth c H1 locs1 (cells + mc) (slots + ms) Q (F0 m pc ls rest) q9)
    (kk : ∀ (r : Int64) (u : S) (t : State) (H1 : Heap) (locs1 : List Loc), t.heap = H1 → s.vm.Alike t.vm → post r u → B u t → H.size ≤ H1.size → (∀ q : Nat, q < H.size → ¬ A1 q → H1[q]? = H[q]?) → va_S A0 H0 H1 locs1 → W p l e R s m args below meth c H1 locs1 (cells + mc) (slots + ms) Q (F0 m (pc + 3) ls (.long r :: rest))) : W p l e R s m args below meth c H locs cells slots Q (F0 m pc ls st0) := by
  intro T hT X
  rcases hr T hT X with ⟨v, st₀, t, T', L, h0, X', hL, e1, e2, ⟨⟨r, u, hv, hp, hb⟩, hF⟩, st⟩ | ⟨q, st₀, t, T', L, E, ce, h0, X', hL, e1, e2, ⟨u, hp, hb, hF⟩, hce, hcv, hcl, st⟩
  · cases hv
    obtain ⟨k1, k2, k3⟩ := vx_keep h0 e1 hS hA hf hL hF
    obtain ⟨t2, a1, b1⟩ := kk r u t T'.heap (locs ++ L) e1.symm (by rw [← e2]; exact X'.warmed.alike) hp hb k1 k2 k3 T' rfl X'
    exact ⟨t2, st t2 a1, b1⟩
  · obtain ⟨k1, k2, k3⟩ := vx_keep h0 e1 hS hAX hf hL hF
    obtain ⟨t2, a1, b1⟩ := kx E ce q u t T'.heap (locs ++ L) e1.symm (by rw [← e2]; exact X'.warmed.alike) hp hb k1 k2 k3 (by rw [e1]; exact hce) hcv hcl T' rfl X'
    exact ⟨t2, st.trans a1, b1⟩
theorem vx_callf {S SX : Type} {post : UInt32 → S → Prop} {px : SX → Prop} {B : S → State → Prop} {BX : String → SX → State → Prop} {AX : Nat → Prop} (hr : vx_Run p l e R s m args below meth c H locs cells slots mc ms (F0 m pc ls st0) rest (va_Qf post B A1 a) (vx_X px BX AX) free) (hS : va_S A0 H0 H locs) (hA : ∀ q, q < H.size → A1 q → A0 q) (hf : ∀ q, free q → A0 q) (hAX : ∀ q, q < H.size → AX q → A0 q)
    (kx : ∀ (E : String) (ce : Cell) (q9 : Addr) (u : SX) (t : State) (H1 : Heap) (locs1 : List Loc), t.heap = H1 → s.vm.Alike t.vm → px u → BX E u t → H.size ≤ H1.size → (∀ q : Nat, q < H.size → ¬ AX q → H1[q]? = H[q]?) → va_S A0 H0 H1 locs1 → H1[q9]? = some ce → ce.vm = .none → s.vm.findClass E = some ce.cls → vx_W p l e R s m args below meth c H1 locs1 (cells + mc) (slots + ms) Q (F0 m pc ls rest) q9)
    (kk : ∀ (r : UInt32) (u : S) (t : State) (H1 : Heap) (locs1 : List Loc), t.heap = H1 → s.vm.Alike t.vm → post r u → B u t → H.size ≤ H1.size → (∀ q : Nat, q < H.size → ¬ A1 q → H1[q]? = H[q]?) → va_S A0 H0 H1 locs1 → W p l e R s m args below meth c H1 locs1 (cells + mc) (slots + ms) Q (F0 m (pc + 3) ls (.float r :: rest))) : W p l e R s m args below meth c H locs cells slots Q (F0 m pc ls st0) := by
  intro T hT X
  rcases hr T hT X with ⟨v, st₀, t, T', L, h0, X', hL, e1, e2, ⟨⟨r, u, hv, hp, hb⟩, hF⟩, st⟩ | ⟨q, st₀, t, T', L, E, ce, h0, X', hL, e1, e2, ⟨u, hp, hb, hF⟩, hce, hcv, hcl, st⟩
  · cases hv
    obtain ⟨k1, k2, k3⟩ := vx_keep h0 e1 hS hA hf hL hF
    obtain ⟨t2, a1, b1⟩ := kk r u t T'.heap (locs ++ L) e1.symm (by rw [← e2]; exact X'.warmed.alike) hp hb k1 k2 k3 T' rfl X'
    exact ⟨t2, st t2 a1, b1⟩
  · obtain ⟨k1, k2, k3⟩ := vx_keep h0 e1 hS hAX hf hL hF
    obtain ⟨t2, a1, b1⟩ := kx E ce q u t T'.heap (locs ++ L) e1.symm (by rw [← e2]; exact X'.warmed.alike) hp hb k1 k2 k3 (by rw [e1]; exact hce) hcv hcl T' rfl X'
    exact ⟨t2, st.trans a1, b1⟩
theorem vx_calld {S SX : Type} {post : UInt64 → S → Prop} {px : SX → Prop} {B : S → State → Prop} {BX : String → SX → State → Prop} {AX : Nat → Prop} (hr : vx_Run p l e R s m args below meth c H locs cells slots mc ms (F0 m pc ls st0) rest (va_Qd post B A1 a) (vx_X px BX AX) free) (hS : va_S A0 H0 H locs) (hA : ∀ q, q < H.size → A1 q → A0 q) (hf : ∀ q, free q → A0 q) (hAX : ∀ q, q < H.size → AX q → A0 q)
    (kx : ∀ (E : String) (ce : Cell) (q9 : Addr) (u : SX) (t : State) (H1 : Heap) (locs1 : List Loc), t.heap = H1 → s.vm.Alike t.vm → px u → BX E u t → H.size ≤ H1.size → (∀ q : Nat, q < H.size → ¬ AX q → H1[q]? = H[q]?) → va_S A0 H0 H1 locs1 → H1[q9]? = some ce → ce.vm = .none → s.vm.findClass E = some ce.cls → vx_W p l e R s m args below meth c H1 locs1 (cells + mc) (slots + ms) Q (F0 m pc ls rest) q9)
    (kk : ∀ (r : UInt64) (u : S) (t : State) (H1 : Heap) (locs1 : List Loc), t.heap = H1 → s.vm.Alike t.vm → post r u → B u t → H.size ≤ H1.size → (∀ q : Nat, q < H.size → ¬ A1 q → H1[q]? = H[q]?) → va_S A0 H0 H1 locs1 → W p l e R s m args below meth c H1 locs1 (cells + mc) (slots + ms) Q (F0 m (pc + 3) ls (.double r :: rest))) : W p l e R s m args below meth c H locs cells slots Q (F0 m pc ls st0) := by
  intro T hT X
  rcases hr T hT X with ⟨v, st₀, t, T', L, h0, X', hL, e1, e2, ⟨⟨r, u, hv, hp, hb⟩, hF⟩, st⟩ | ⟨q, st₀, t, T', L, E, ce, h0, X', hL, e1, e2, ⟨u, hp, hb, hF⟩, hce, hcv, hcl, st⟩
  · cases hv
    obtain ⟨k1, k2, k3⟩ := vx_keep h0 e1 hS hA hf hL hF
    obtain ⟨t2, a1, b1⟩ := kk r u t T'.heap (locs ++ L) e1.symm (by rw [← e2]; exact X'.warmed.alike) hp hb k1 k2 k3 T' rfl X'
    exact ⟨t2, st t2 a1, b1⟩
  · obtain ⟨k1, k2, k3⟩ := vx_keep h0 e1 hS hAX hf hL hF
    obtain ⟨t2, a1, b1⟩ := kx E ce q u t T'.heap (locs ++ L) e1.symm (by rw [← e2]; exact X'.warmed.alike) hp hb k1 k2 k3 (by rw [e1]; exact hce) hcv hcl T' rfl X'
    exact ⟨t2, st.trans a1, b1⟩
theorem vx_callv {S SX : Type} {post : S → Prop} {px : SX → Prop} {B : S → State → Prop} {BX : String → SX → State → Prop} {AX : Nat → Prop} (hr : vx_Run p l e R s m args below meth c H locs cells slots mc ms (F0 m pc ls st0) rest (va_Qv post B A1 a) (vx_X px BX AX) free) (hS : va_S A0 H0 H locs) (hA : ∀ q, q < H.size → A1 q → A0 q) (hf : ∀ q, free q → A0 q) (hAX : ∀ q, q < H.size → AX q → A0 q)
    (kx : ∀ (E : String) (ce : Cell) (q9 : Addr) (u : SX) (t : State) (H1 : Heap) (locs1 : List Loc), t.heap = H1 → s.vm.Alike t.vm → px u → BX E u t → H.size ≤ H1.size → (∀ q : Nat, q < H.size → ¬ AX q → H1[q]? = H[q]?) → va_S A0 H0 H1 locs1 → H1[q9]? = some ce → ce.vm = .none → s.vm.findClass E = some ce.cls → vx_W p l e R s m args below meth c H1 locs1 (cells + mc) (slots + ms) Q (F0 m pc ls rest) q9)
    (kk : ∀ (u : S) (t : State) (H1 : Heap) (locs1 : List Loc), t.heap = H1 → s.vm.Alike t.vm → post u → B u t → H.size ≤ H1.size → (∀ q : Nat, q < H.size → ¬ A1 q → H1[q]? = H[q]?) → va_S A0 H0 H1 locs1 → W p l e R s m args below meth c H1 locs1 (cells + mc) (slots + ms) Q (F0 m (pc + 3) ls (rest))) : W p l e R s m args below meth c H locs cells slots Q (F0 m pc ls st0) := by
  intro T hT X
  rcases hr T hT X with ⟨v, st₀, t, T', L, h0, X', hL, e1, e2, ⟨⟨u, hv, hp, hb⟩, hF⟩, st⟩ | ⟨q, st₀, t, T', L, E, ce, h0, X', hL, e1, e2, ⟨u, hp, hb, hF⟩, hce, hcv, hcl, st⟩
  · cases hv
    obtain ⟨k1, k2, k3⟩ := vx_keep h0 e1 hS hA hf hL hF
    obtain ⟨t2, a1, b1⟩ := kk u t T'.heap (locs ++ L) e1.symm (by rw [← e2]; exact X'.warmed.alike) hp hb k1 k2 k3 T' rfl X'
    exact ⟨t2, st t2 a1, b1⟩
  · obtain ⟨k1, k2, k3⟩ := vx_keep h0 e1 hS hAX hf hL hF
    obtain ⟨t2, a1, b1⟩ := kx E ce q u t T'.heap (locs ++ L) e1.symm (by rw [← e2]; exact X'.warmed.alike) hp hb k1 k2 k3 (by rw [e1]; exact hce) hcv hcl T' rfl X'
    exact ⟨t2, st.trans a1, b1⟩
/-- caught by the row x of this method's table; the rows ahead don't take it -/
theorem vx_catch {own name : String} {E : String} {ce : Cell} {q : Addr} (hown : s.vm.findClass own = some m.cls) (pre : List ExceptionTableEntry) (x : ExceptionTableEntry) (suf : List ExceptionTableEntry) (hsplit : c.exceptionTable.toList = pre ++ x :: suf)
    (hpass : ∀ z ∈ pre, covers z pc = false ∨ (z.catchType ≠ 0 ∧ ∃ nm : String, (Cond.classLink own z.catchType nm).before args s = true ∧ va_Nc E nm s)) (hx : covers x pc = true) (h0 : x.catchType ≠ 0)
    (hlink : (Cond.classLink own x.catchType name).before args s = true) (hcast : (Cond.castable E name).before args s = true) (hcell : H[q]? = some ce) (hv : ce.vm = .none) (hcl : s.vm.findClass E = some ce.cls)
    (kk : W p l e R s m args below meth c H locs cells slots Q (F0 m x.handlerPc ls [.ref q])) : vx_W p l e R s m args below meth c H locs cells slots Q (F0 m pc ls rest) q := by
  intro T hT X
  have hpl : e.platform.magicAccessors = ({} : Platform).magicAccessors := by rw [X.admits.platform]
  obtain ⟨c3, c4, hc3, hc4, hasg⟩ := Cond.castable_spec hcast
  cases Option.some.inj (hc3.symm.trans hcl)
  obtain ⟨c5, hc5, hcl5⟩ := Cond.classLink_spec hown hlink e.platform hpl
  cases Option.some.inj (hc4.symm.trans hc5)
  obtain ⟨vm', X', st⟩ := X.thenCaughtThrough q (g := F0 m pc ls rest) rfl (Steps.refl _) (by rw [hT]; exact hcell) (by rw [hv]; rfl) (by obtain ⟨k9, h9, -⟩ := Vm.findClass_spec hcl; exact ⟨k9, h9⟩) pre x suf hsplit
    (fun z hz => by
      rcases hpass z hz with h | ⟨hz0, nm, hl1, hn1⟩
      · exact Or.inl h
      · obtain ⟨c6, hc6, hcl6⟩ := Cond.classLink_spec hown hl1 e.platform hpl
        obtain ⟨a8, b8, h1, h2, h3⟩ := hn1
        cases Option.some.inj (h1.symm.trans hcl)
        cases Option.some.inj (h2.symm.trans hc6)
        exact Or.inr ⟨hz0, _, hcl6, h3⟩) hx (Or.inr ⟨h0, c4, hcl5, hasg⟩)
  obtain ⟨t, a1, b1⟩ := kk (T.setVm vm') hT X'
  exact ⟨t, st.trans a1, b1⟩
end Rows
section Ends
variable {p : Program} {l : Launch} {e : Env} {R : Room} {s : State} {m : MethodId} {args : Array Value} {below : List Frame} {meth : Method} {c : Code} {H : Heap} {locs : List Loc} {cells slots : Nat} {Q : State → Prop}
variable {mc ms : Nat} {free : Addr → Prop} {A0 A1 : Nat → Prop} {H0 : Heap} {a : Array Value} {ls : Array Slot} {st0 rest : List Value}
variable {Qc : Array Value → State → Outcome → State → Prop} {XC : String → State → State → Prop}
/-- what a body that may throw owes at its end -/
def vx_MQ (below : List Frame) (Qc : Array Value → State → Outcome → State → Prop) (XC : String → State → State → Prop) (a : Array Value) (s : State) (mc ms : Nat) (free : Addr → Prop) : State → Prop := fun t =>
  ∃ o, t.status = .running ∧ Ended t below o ∧ vx_Q Qc XC mc ms free a s o t
theorem vx_ret {g : JFrame} {mc ms : Nat} (k : W p l e R s m args below meth c H locs cells slots (MQ below Qc args s mc ms free) g) : W p l e R s m args below meth c H locs cells slots (vx_MQ below Qc XC args s mc ms free) g := by
  intro T hT X
  obtain ⟨t, a1, o, b1, b2, b3, b4⟩ := k T hT X
  exact ⟨t, a1, o, b1, b2, Or.inl ⟨b3, b4⟩⟩
/-- not caught here: it goes on to the caller -/
theorem vx_widen {g : JFrame} {q : Addr} {k n : Nat} (h1 : cells ≤ k) (h2 : slots ≤ n) (kk : vx_W p l e R s m args below meth c H locs k n Q g q) : vx_W p l e R s m args below meth c H locs cells slots Q g q := fun T hT X => kk T hT (stand_widen X h1 h2)
theorem vx_out {pc : Nat} {E : String} {ce : Cell} {q : Addr} {mc ms : Nat} (hout : ∀ x ∈ c.exceptionTable.toList, covers x pc = false) (hlocks : meth.locks = false) (hcell : H[q]? = some ce) (hv : ce.vm = .none) (hcl : s.vm.findClass E = some ce.cls)
    (hx : ∀ t : State, t.heap = H → s.vm.Alike t.vm → XC E s t) (hf : ∀ z ∈ locs, free z.base) (hc : cells ≤ mc) (hs : slots ≤ ms) :
    vx_W p l e R s m args below meth c H locs cells slots (vx_MQ below Qc XC args s mc ms free) (F0 m pc ls rest) q := by
  intro T hT X
  obtain ⟨st1, hrun, hend, hW, hsm⟩ := X.leaveThrown q (g := F0 m pc ls rest) rfl rfl rfl hout hlocks
  have hcell9 : (T.setFrames (.throwing q :: below)).heap[q]? = some ce := by
    show T.heap[q]? = some ce
    rw [hT]; exact hcell
  exact ⟨_, st1, .threw q, hrun, hend, Or.inr ⟨q, rfl, E, ce, locs, hx _ hT hW.alike, hcell9, hv, hcl, hW, hsm.mono hc hs, hf⟩⟩
theorem vx_frame {U : State} {k n : Nat} (h : s.sameButNew ({ U with vm := s.vm } : State) locs k n) : s.heap.size ≤ U.heap.size ∧ ∀ q : Nat, q < s.heap.size → (∀ z ∈ locs, z.base ≠ q) → U.heap[q]? = s.heap[q]? := by
  obtain ⟨-, h2, -, -, -, h6⟩ := h
  refine ⟨h2, fun q hq hz => ?_⟩
  obtain ⟨c9, e1, e2, e3, e4⟩ := h6 q _ (Array.getElem?_eq_getElem hq)
  have hs : c9.slots = (s.heap[q]).slots := Array.ext_getElem? fun i => e4 i fun hm => hz _ hm rfl
  have h9 : c9 = s.heap[q] := by
    rw [hs] at e2
    exact e2
  have e5 : U.heap[q]? = some c9 := e1
  rw [e5, h9, Array.getElem?_eq_getElem hq]
/-- the words of a throw but the four that speak of the heap -/
def vx_no (w : Cond) : Bool := decide (w ≠ .isRef (.static Bundle.tN "UNASSIGNED_STACK" Bundle.steD)) && decide (w ≠ .isRef (.static Bundle.tN "SUPPRESSED_SENTINEL" Bundle.listD)) && decide (w ≠ .laysStatic Bundle.tN "UNASSIGNED_STACK" Bundle.steD) && decide (w ≠ .laysStatic Bundle.tN "SUPPRESSED_SENTINEL" Bundle.listD)
def vx_at0 (own : String) (ic : Nat) (X : String) (names : List String) : List Cond := (Bundle.ownAtoms0 own ic X names).filter vx_no
def vx_atS (own : String) (ic : Nat) (X : String) (names : List String) : List Cond := (Bundle.ownAtoms own ic X names).filter vx_no
/-- a word that the tables alone decide, or a good one -/
def vx_ot (w : Cond) : Bool := w.onTables || goodWord w
theorem vx_ot_at {args a' : Array Value} {s U : State} {w : Cond} (hW : s.WarmedH U.vm) (hvm : s.vm = U.vm) (hg : vx_ot w = true) (h : w.before args s = true) : w.before a' U = true := by
  simp only [vx_ot, Bool.or_eq_true] at hg
  rcases hg with hg | hg
  · exact va_tabs hg hvm h
  · exact word_at hW (good_of_word hg) h
/-- a list's words: the good ones out of the method's own list, the others by premises of their own -/
theorem vx_hat {args : Array Value} {s : State} {L B : List Cond} (h1 : ∀ w ∈ L.filter goodWord, w.before args s = true) (h2 : ∀ w ∈ L.filter (fun w => !goodWord w), w ∈ B) (h3 : ∀ w ∈ B, w.before args s = true) : ∀ w ∈ L, w.before args s = true := by
  intro w hw
  by_cases g : goodWord w = true
  · exact h1 w (List.mem_filter.mpr ⟨hw, g⟩)
  · refine h3 w (h2 w (List.mem_filter.mpr ⟨hw, ?_⟩))
    show (!goodWord w) = true
    cases hgw : goodWord w
    · rfl
    · exact absurd hgw g
theorem vx_c {args : Array Value} {s : State} {w : Cond} {B : List Cond} (h : w.before args s = true) (t : ∀ w ∈ B, w.before args s = true) : ∀ w' ∈ w :: B, w'.before args s = true := fun w' h' => (List.mem_cons.mp h').elim (fun e => by rw [e]; exact h) (t w')
theorem vx_n {args : Array Value} {s : State} : ∀ w ∈ ([] : List Cond), w.before args s = true := fun _ h => nomatch h
theorem vx_own {args : Array Value} {s : State} {L : List Cond} (h1 : ∀ w ∈ L.filter vx_no, w.before args s = true)
    (hU : (Cond.isRef (.static Bundle.tN "UNASSIGNED_STACK" Bundle.steD)).before args s = true) (hN : (Cond.isRef (.static Bundle.tN "SUPPRESSED_SENTINEL" Bundle.listD)).before args s = true)
    (lU : (Cond.laysStatic Bundle.tN "UNASSIGNED_STACK" Bundle.steD).before args s = true) (lN : (Cond.laysStatic Bundle.tN "SUPPRESSED_SENTINEL" Bundle.listD).before args s = true) : ∀ w ∈ L, w.before args s = true := by
  intro w hw
  by_cases e1 : w = .isRef (.static Bundle.tN "UNASSIGNED_STACK" Bundle.steD)
  · rw [e1]; exact hU
  · by_cases e2 : w = .isRef (.static Bundle.tN "SUPPRESSED_SENTINEL" Bundle.listD)
    · rw [e2]; exact hN
    · by_cases e3 : w = .laysStatic Bundle.tN "UNASSIGNED_STACK" Bundle.steD
      · rw [e3]; exact lU
      · by_cases e4 : w = .laysStatic Bundle.tN "SUPPRESSED_SENTINEL" Bundle.listD
        · rw [e4]; exact lN
        · exact h1 w (List.mem_filter.mpr ⟨hw, by unfold vx_no; rw [decide_eq_true e1, decide_eq_true e2, decide_eq_true e3, decide_eq_true e4]; rfl⟩)
/-- where a static field lies, its class's statics cell in H -/
def vx_L (C n d : String) (A : Nat → Prop) (U : State) (H : Heap) : Prop := ∃ (c : ClassId) (k : Class) (i : Nat) (f : Field) (a : Nat) (cell : Cell), U.vm.findClass C = some c ∧ U.fieldFound? C n d = some (c, k, i, f) ∧ f.isStatic = true ∧ k.statics = some a ∧ H[a]? = some cell ∧ cell.vm.isStatics = true ∧ cell.cls = c ∧ f.slot < cell.slots.size ∧ k.staticTypes[f.slot]? = some f.type ∧ ¬ A a
theorem vx_L.moved {C n d : String} {A : Nat → Prop} {u U : State} {H : Heap} (hvm : u.vm.Alike U.vm) (h : vx_L C n d A u H) : vx_L C n d A U H := by
  obtain ⟨c, k, i, f, a, cell, h1, h2, h3, h4, h5, h6, h7, h8, h9, h10⟩ := h
  obtain ⟨k', hi', he⟩ := State.fieldFound?_setVm hvm h2
  exact ⟨c, k', i, f, a, cell, by rw [hvm.findClass]; exact h1, hi', h3, by rw [he]; exact h4, h5, h6, h7, h8, by rw [he]; exact h9, h10⟩
theorem vx_L.kept {C n d : String} {A : Nat → Prop} {U : State} {H H1 : Heap} (h : vx_L C n d A U H) (hq : ∀ a : Nat, a < H.size → ¬ A a → H1[a]? = H[a]?) : vx_L C n d A U H1 := by
  obtain ⟨c, k, i, f, a, cell, h1, h2, h3, h4, h5, h6, h7, h8, h9, h10⟩ := h
  exact ⟨c, k, i, f, a, cell, h1, h2, h3, h4, by rw [hq a (Array.getElem?_eq_some_iff.mp h5).1 h10]; exact h5, h6, h7, h8, h9, h10⟩
theorem vx_L.narrow {C n d : String} {A B : Nat → Prop} {U : State} {H : Heap} (h : vx_L C n d A U H) (hAB : ∀ q, B q → A q) : vx_L C n d B U H := by
  obtain ⟨c, k, i, f, a, cell, h1, h2, h3, h4, h5, h6, h7, h8, h9, h10⟩ := h
  exact ⟨c, k, i, f, a, cell, h1, h2, h3, h4, h5, h6, h7, h8, h9, fun z => h10 (hAB _ z)⟩
theorem vx_L.word {C n d : String} {A : Nat → Prop} {s : State} {args : Array Value} (h : vx_L C n d A s s.heap) : (Cond.laysStatic C n d).before args s = true := by
  obtain ⟨c, k, i, f, a, cell, h1, h2, h3, h4, h5, h6, h7, h8, h9, -⟩ := h
  show (Cond.laysStatic C n d).holds args s none s [] = true
  exact Cond.laysStatic_of h1 h2 h3 h4 h5 h6 h7 h8 h9
/-- .. and what it holds: null or some reference -/
def vx_Zq (C n d : String) (A : Nat → Prop) (U : State) (H : Heap) : Prop := va_Zq C n d A U H ∧ vx_L C n d A U H
theorem vx_Zq.moved {C n d : String} {A : Nat → Prop} {u U : State} {H : Heap} (hvm : u.vm.Alike U.vm) (h : vx_Zq C n d A u H) : vx_Zq C n d A U H := ⟨va_Zq.moved hvm h.1, vx_L.moved hvm h.2⟩
theorem vx_Zq.kept {C n d : String} {A : Nat → Prop} {U : State} {H H1 : Heap} (h : vx_Zq C n d A U H) (hq : ∀ a : Nat, a < H.size → ¬ A a → H1[a]? = H[a]?) : vx_Zq C n d A U H1 := ⟨va_Zq.kept h.1 hq, vx_L.kept h.2 hq⟩
theorem vx_Zq.narrow {C n d : String} {A B : Nat → Prop} {U : State} {H : Heap} (h : vx_Zq C n d A U H) (hAB : ∀ q, B q → A q) : vx_Zq C n d B U H := ⟨va_Zq.narrow h.1 hAB, vx_L.narrow h.2 hAB⟩
theorem vx_Zqof {args : Array Value} {s : State} {C n d : String} {A : Nat → Prop} (hl : (Cond.laysStatic C n d).before args s = true) (hini : (Cond.initialized C).before args s = true) (h : (Cond.isRef (.static C n d)).before args s = true) (hA : ∀ a : Nat, a < s.heap.size → ¬ A a) : vx_Zq C n d A s s.heap := by
  refine ⟨va_Zqof hl hini h hA, ?_⟩
  obtain ⟨c, k, i, f, a, cell, h1, h2, h3, h4, h5, h6, h7, h8, h9⟩ := Cond.laysStatic_spec hl
  exact ⟨c, k, i, f, a, cell, h1, h2, h3, h4, h5, h6, h7, h8, h9, hA a (Array.getElem?_eq_some_iff.mp h5).1⟩
theorem vx_isRef {C n d : String} {v : Value} {A : Nat → Prop} {s : State} {args : Array Value} (h : va_Z C n d v A s s.heap) (hv : v.isRef = true) : (Cond.isRef (.static C n d)).before args s = true := by
  obtain ⟨cf, kf, fi, f, a, cell, h1, h2, h3, h4, h5, h6, h7, -⟩ := h
  have he : (Term.static C n d).eval args s none [] s = some v := by
    simp [Term.eval, State.fieldNamed?, h1, h2, h4, h5, h6, h7]
  simp only [Cond.before, Cond.holds, Cond.value, he]
  cases v <;> simp_all [Value.isRef]
theorem vx_isRefq {C n d : String} {A : Nat → Prop} {s : State} {args : Array Value} (h : va_Zq C n d A s s.heap) : (Cond.isRef (.static C n d)).before args s = true := by
  rcases h with h | ⟨t, h⟩
  · exact vx_isRef h rfl
  · exact vx_isRef h rfl
/-- the same frame, seen from here: as if the method were called anew in this heap -/
theorem vx_rebase {T : State} (X : Stand p l e R s m args below meth c T locs cells slots) {R' : Room} (hf : R'.frames ≤ R.frames) (hl : R'.locals ≤ R.locals) (hc : cells + R'.cells ≤ R.cells) (hs : slots + R'.slots ≤ R.slots) :
    Stand p l e R' ((T.setVm s.vm).setFrames (.invoking m args :: below)) m args below meth c T [] 0 0 := by
  have htop : (T.setVm s.vm).topJava?.isSome := X.here.top
  have hF : ((T.setVm s.vm).setFrames (.invoking m args :: below)).frames = .invoking m args :: below := State.frames_setFrames _ (State.cur_lt_of_top htop)
  obtain ⟨g₀, hg0⟩ := Option.isSome_iff_exists.mp htop
  obtain ⟨r, hr⟩ := State.topJava?_eq_some.mp hg0
  have hl9 : e.platform.stackLimits (T.setVm s.vm).me = e.platform.stackLimits s.me := X.limits
  have hb9 : (T.setVm s.vm).me.stackBytes = s.me.stackBytes := X.bytes
  refine ⟨X.admits, X.cas, X.clock, hF, ?_, X.hears, X.method, X.code, X.here, X.tail, X.warmed, ?_, ?_, ?_⟩
  · have h := X.room
    have hU : ((T.setVm s.vm).setFrames (.invoking m args :: below)).localsInUse = s.localsInUse := by
      rw [State.localsInUse_invoking hF (meth := meth) (c := c) X.method X.code, State.localsInUse_invoking X.frames X.method X.code]
    simp only [State.hasRoom, Bool.and_eq_true, decide_eq_true_eq] at h ⊢
    obtain ⟨⟨⟨⟨h1, h2, h3, h4, h5, h6⟩, h7⟩, h8⟩, h9⟩ := h
    rw [X.frames, List.length_cons] at h2 h3
    have q1 := X.heapSize
    have q2 := X.used
    simp only [hF, hU, List.length_cons, State.stackLimits_setFrames, State.stackBytes_setFrames, hl9, hb9]
    refine ⟨⟨⟨⟨by omega, by omega, by omega, by omega, by omega, h6⟩, ?_⟩, ?_⟩, X.book⟩
    · show T.heap.size + R'.cells ≤ e.platform.maxCells
      omega
    · show T.slotsUsed + R'.slots ≤ e.platform.maxSlots
      omega
  · rw [State.stackLimits_setFrames]; rfl
  · rw [State.stackBytes_setFrames]; rfl
  · refine ⟨?_, Nat.le_refl _, Nat.le_refl _, ?_, ?_, fun a c9 h9 => ⟨c9, h9, rfl, rfl, fun _ _ => rfl⟩⟩
    · obtain ⟨t, ht, -⟩ := State.frames_cons hr
      show T.setVm s.vm = { ((T.setVm s.vm).setFrames (.invoking m args :: below)).setFrames (T.setVm s.vm).frames with heap := T.heap, slotsUsed := T.slotsUsed }
      rw [State.setFrames_setFrames, State.setFrames_self ht]
      rfl
    · show T.slotsUsed = T.slotsUsed + ((T.heap.toList.drop T.heap.size).map (·.slots.size)).sum
      rw [List.drop_eq_nil_of_le (Nat.le_of_eq Array.length_toList)]
      rfl
    · show ((T.heap.toList.drop T.heap.size).map (·.slots.size)).sum ≤ 0
      rw [List.drop_eq_nil_of_le (Nat.le_of_eq Array.length_toList)]
      exact Nat.le_refl _
/-- 'throw new E()': new; dup; invokespecial; athrow -/
theorem vx_throw0 {cc : ByteArray} {pc : Nat} (hexec : p.tables.exec = Jvm.exec) (hb : c.code = cc) (hl : l.stackTraces = false) {own cls : String} {names : List String} {ik ic mc ms : Nat} {A : Nat → Prop}
    (hown : s.vm.findClass own = some m.cls) (hcls : Bundle.fit cls = true) (hnames : ∀ n ∈ names, Bundle.fit n = true)
    (hk : (Cond.classLink own ik cls).before args s = true) (hini : (Cond.initialized cls).before args s = true) (hat : ∀ w ∈ vx_at0 own ic cls names, w.before args s = true)
    (hgood : ∀ w ∈ Cond.classLink own ik cls :: Cond.initialized cls :: vx_at0 own ic cls names, vx_ot w = true)
    (hU : vx_Zq Bundle.tN "UNASSIGNED_STACK" Bundle.steD A s s.heap) (hN : vx_Zq Bundle.tN "SUPPRESSED_SENTINEL" Bundle.listD A s s.heap) (hS : va_S A s.heap H locs) (hsize : ls.size = c.maxLocals)
    (d0 : decode cc pc = .ok (.new ik, 3)) (d3 : decode cc (pc + 3) = .ok (.dup, 1)) (d4 : decode cc (pc + 4) = .ok (.invokespecial ic, 3)) (d7 : decode cc (pc + 7) = .ok (.athrow, 1))
    (hout : ∀ x ∈ c.exceptionTable.toList, covers x (pc + 7) = false)
    (hRframes : names.length + 3 < R.frames) (hRlocals : (rest.map fun v => v.category).sum + (13 * (names.length + 1) + 42) ≤ R.locals) (hRcells : cells + 1 ≤ R.cells) (hRslots : slots + 6 ≤ R.slots) (hlocks : meth.locks = false)
    (hx : ∀ t : State, s.vm.Alike t.vm → H.size ≤ t.heap.size → (∀ q : Nat, q < H.size → t.heap[q]? = H[q]?) → XC cls s t)
    (hf : ∀ z ∈ locs, free z.base) (hc : cells + 1 ≤ mc) (hs : slots + 6 ≤ ms) :
    W p l e R s m args below meth c H locs cells slots (vx_MQ below Qc XC args s mc ms free) (F0 m pc ls rest) := by
  intro T hT X
  have htr : e.platform.stackTraces = false := (show e.platform.stackTraces = l.stackTraces by rw [X.admits.platform]).trans hl
  have Y := vx_rebase X (R' := { frames := R.frames, locals := R.locals, cells := 1, slots := 6 }) (Nat.le_refl _) (Nat.le_refl _) hRcells hRslots
  obtain ⟨s', hA⟩ : ∃ z, z = (T.setVm s.vm).setFrames (.invoking m args :: below) := ⟨_, rfl⟩
  rw [← hA] at Y
  have hvm : s'.vm = s.vm := by rw [hA]; rfl
  have hhp : s'.heap = H := by rw [hA]; exact hT
  have hW0 : s.WarmedH s'.vm := by rw [hvm]; exact State.WarmedH.refl s
  have hat' : ∀ w ∈ vx_at0 own ic cls names, w.before args s' = true := fun w hw => vx_ot_at hW0 hvm.symm (hgood w (List.mem_cons_of_mem _ (List.mem_cons_of_mem _ hw))) (hat w hw)
  have hk' : (Cond.classLink own ik cls).before args s' = true := vx_ot_at hW0 hvm.symm (hgood _ List.mem_cons_self) hk
  have hini' : (Cond.initialized cls).before args s' = true := vx_ot_at hW0 hvm.symm (hgood _ (List.mem_cons_of_mem _ List.mem_cons_self)) hini
  have hU' : vx_Zq Bundle.tN "UNASSIGNED_STACK" Bundle.steD A s' s'.heap := by rw [hhp]; exact vx_Zq.moved hW0.alike (hU.kept hS.2.1)
  have hN' : vx_Zq Bundle.tN "SUPPRESSED_SENTINEL" Bundle.listD A s' s'.heap := by rw [hhp]; exact vx_Zq.moved hW0.alike (hN.kept hS.2.1)
  have h : ∀ w ∈ Bundle.ownAtoms0 own ic cls names, w.before args s' = true := vx_own hat' (vx_isRefq hU'.1) (vx_isRefq hN'.1) hU'.2.word hN'.2.word
  have hown' : s'.vm.findClass own = some m.cls := by rw [hvm]; exact hown
  have hins : (Cond.instantiable cls 6).before args s' = true := h _ (by simp [Bundle.ownAtoms0])
  obtain ⟨vm₁, cX, kX, hfX, hkX, -, -, X₁, st1⟩ := Y.newCold hexec (own := own) (C := cls) (index := ik) (n := 6) hown' hk' hins hini'
    (g := F0 m pc ls rest) rfl (by rw [hb]; exact d0) (Nat.le_refl _) (Nat.le_refl _)
  generalize hT1 : (T.setVm vm₁).pushCell { cls := cX, slots := kX.instanceTypes.map defaultValue, vm := .none } = T1 at X₁ st1
  have hcat : (Value.ref T.heap.size).category = 1 := rfl
  have hcellA : T1.heap[T.heap.size]? = some (freshCell cX kX) := by rw [← hT1]; exact State.heap_pushCell_size _ _
  have d3' : decode c.code (pc + 3) = .ok (.dup, 1) := by rw [hb]; exact d3
  obtain ⟨U, hsteps, hrun, hend, hW, hsame, ce, hce, hO⟩ := X₁.ctorThrow0 hexec htr (own := own) (cls := cls) (names := names) (ic := ic) hown' hcls hnames h (fun x hx => nomatch hx) hfX hkX hcellA (by rw [hhp, hT]; exact Nat.le_refl _)
    (g := { method := m, pc := pc + 4, locals := ls, stack := .ref T.heap.size :: .ref T.heap.size :: rest, locked := none }) rfl hsize rfl rfl (rest := rest) rfl
    (by rw [hb]; exact d4) (by rw [hb]; exact d7) hout hRframes (by simp only [List.map_cons, List.sum_cons, hcat]; omega) hlocks
  obtain ⟨f1, f2⟩ := vx_frame hsame
  rw [hhp] at f1 f2
  have hWs : s.WarmedH U.vm := State.WarmedH.trans hW0 hW
  have hcl : s.vm.findClass cls = some ce.cls := by
    have h9 := hO.cls
    rw [hvm] at h9
    exact h9
  have hall : s.sameButNew ({ U with vm := s.vm } : State) locs mc ms := by
    subst hA
    obtain ⟨e1, e2⟩ := hsame
    rw [State.setFrames_setFrames] at e1
    have h2 : (T.setVm s.vm).sameButNew ({ U with vm := s.vm } : State) [] (0 + 1) (0 + 6) := ⟨e1, e2⟩
    have h3 := X.same.trans h2
    rw [List.append_nil] at h3
    exact h3.mono hc hs
  refine ⟨U, ?_, .threw T.heap.size, hrun, hend, Or.inr ⟨T.heap.size, rfl, cls, ce, locs, hx U hWs.alike f1 (fun q hq => f2 q hq (fun z hz => nomatch hz)), hce, hO.vm, hcl, hWs, hall, hf⟩⟩
  refine st1 _ ?_
  show Steps p.tables e below (T1.setTop { method := m, pc := pc + 3, locals := ls, stack := .ref T.heap.size :: rest, locked := none }) _
  jvm_step X₁.here [X₁.here.top, hexec, d3', Value.category]
  exact hsteps
/-- 'throw new E("text")': new; dup; ldc; invokespecial; athrow -/
theorem vx_throwS {cc : ByteArray} {pc : Nat} (hexec : p.tables.exec = Jvm.exec) (hb : c.code = cc) (hl : l.stackTraces = false) {own cls text : String} {names : List String} {ik is ic mc ms sa : Nat} {A : Nat → Prop}
    (hown : s.vm.findClass own = some m.cls) (hcls : Bundle.fit cls = true) (hnames : ∀ n ∈ names, Bundle.fit n = true)
    (hk : (Cond.classLink own ik cls).before args s = true) (hini : (Cond.initialized cls).before args s = true) (hstr : vk_R own is text sa s) (hat : ∀ w ∈ vx_atS own ic cls names, w.before args s = true)
    (hgood : ∀ w ∈ Cond.classLink own ik cls :: Cond.initialized cls :: vx_atS own ic cls names, vx_ot w = true)
    (hU : vx_Zq Bundle.tN "UNASSIGNED_STACK" Bundle.steD A s s.heap) (hN : vx_Zq Bundle.tN "SUPPRESSED_SENTINEL" Bundle.listD A s s.heap) (hS : va_S A s.heap H locs) (hsize : ls.size = c.maxLocals)
    (d0 : decode cc pc = .ok (.new ik, 3)) (d3 : decode cc (pc + 3) = .ok (.dup, 1)) (d4 : decode cc (pc + 4) = .ok (.ldc is, 2)) (d6 : decode cc (pc + 6) = .ok (.invokespecial ic, 3)) (d9 : decode cc (pc + 9) = .ok (.athrow, 1))
    (hout : ∀ x ∈ c.exceptionTable.toList, covers x (pc + 9) = false)
    (hRframes : names.length + 3 < R.frames) (hRlocals : (rest.map fun v => v.category).sum + (13 * (names.length + 1) + 43) ≤ R.locals) (hRcells : cells + 1 ≤ R.cells) (hRslots : slots + 6 ≤ R.slots) (hlocks : meth.locks = false)
    (hx : ∀ t : State, s.vm.Alike t.vm → H.size ≤ t.heap.size → (∀ q : Nat, q < H.size → t.heap[q]? = H[q]?) → XC cls s t)
    (hf : ∀ z ∈ locs, free z.base) (hc : cells + 1 ≤ mc) (hs : slots + 6 ≤ ms) :
    W p l e R s m args below meth c H locs cells slots (vx_MQ below Qc XC args s mc ms free) (F0 m pc ls rest) := by
  intro T hT X
  have htr : e.platform.stackTraces = false := (show e.platform.stackTraces = l.stackTraces by rw [X.admits.platform]).trans hl
  have Y := vx_rebase X (R' := { frames := R.frames, locals := R.locals, cells := 1, slots := 6 }) (Nat.le_refl _) (Nat.le_refl _) hRcells hRslots
  obtain ⟨s', hA⟩ : ∃ z, z = (T.setVm s.vm).setFrames (.invoking m args :: below) := ⟨_, rfl⟩
  rw [← hA] at Y
  have hvm : s'.vm = s.vm := by rw [hA]; rfl
  have hhp : s'.heap = H := by rw [hA]; exact hT
  have hW0 : s.WarmedH s'.vm := by rw [hvm]; exact State.WarmedH.refl s
  have hat' : ∀ w ∈ vx_atS own ic cls names, w.before args s' = true := fun w hw => vx_ot_at hW0 hvm.symm (hgood w (List.mem_cons_of_mem _ (List.mem_cons_of_mem _ hw))) (hat w hw)
  have hk' : (Cond.classLink own ik cls).before args s' = true := vx_ot_at hW0 hvm.symm (hgood _ List.mem_cons_self) hk
  have hini' : (Cond.initialized cls).before args s' = true := vx_ot_at hW0 hvm.symm (hgood _ (List.mem_cons_of_mem _ List.mem_cons_self)) hini
  have hU' : vx_Zq Bundle.tN "UNASSIGNED_STACK" Bundle.steD A s' s'.heap := by rw [hhp]; exact vx_Zq.moved hW0.alike (hU.kept hS.2.1)
  have hN' : vx_Zq Bundle.tN "SUPPRESSED_SENTINEL" Bundle.listD A s' s'.heap := by rw [hhp]; exact vx_Zq.moved hW0.alike (hN.kept hS.2.1)
  have h : ∀ w ∈ Bundle.ownAtoms own ic cls names, w.before args s' = true := vx_own hat' (vx_isRefq hU'.1) (vx_isRefq hN'.1) hU'.2.word hN'.2.word
  have hown' : s'.vm.findClass own = some m.cls := by rw [hvm]; exact hown
  have hins : (Cond.instantiable cls 6).before args s' = true := h _ (by simp [Bundle.ownAtoms])
  obtain ⟨vm₁, cX, kX, hfX, hkX, -, -, X₁, st1⟩ := Y.newCold hexec (own := own) (C := cls) (index := ik) (n := 6) hown' hk' hins hini'
    (g := F0 m pc ls rest) rfl (by rw [hb]; exact d0) (Nat.le_refl _) (Nat.le_refl _)
  generalize hT1 : (T.setVm vm₁).pushCell { cls := cX, slots := kX.instanceTypes.map defaultValue, vm := .none } = T1 at X₁ st1
  have hcat : (Value.ref T.heap.size).category = 1 := rfl
  have hcellA : T1.heap[T.heap.size]? = some (freshCell cX kX) := by rw [← hT1]; exact State.heap_pushCell_size _ _
  have d3' : decode c.code (pc + 3) = .ok (.dup, 1) := by rw [hb]; exact d3
  have d4' : decode c.code (pc + 4) = .ok (.ldc is, 2) := by rw [hb]; exact d4
  have hstr' : vk_R own is text sa s' := vk_R.warm hW0 hstr
  obtain ⟨U, hsteps, hrun, hend, hW, hsame, ce, hce, hO⟩ := X₁.ctorThrowS hexec htr (own := own) (cls := cls) (names := names) (ic := ic) hown' hcls hnames h (fun x hx => nomatch hx) hfX hkX hcellA (by rw [hhp, hT]; exact Nat.le_refl _) (msg := .ref sa) rfl
    (g := { method := m, pc := pc + 6, locals := ls, stack := .ref sa :: .ref T.heap.size :: .ref T.heap.size :: rest, locked := none }) rfl hsize rfl rfl (rest := rest) rfl
    (by rw [hb]; exact d6) (by rw [hb]; exact d9) hout hRframes (by simp only [List.map_cons, List.sum_cons, hcat]; omega) hlocks
  obtain ⟨f1, f2⟩ := vx_frame hsame
  rw [hhp] at f1 f2
  have hWs : s.WarmedH U.vm := State.WarmedH.trans hW0 hW
  have hcl : s.vm.findClass cls = some ce.cls := by
    have h9 := hO.cls
    rw [hvm] at h9
    exact h9
  have hall : s.sameButNew ({ U with vm := s.vm } : State) locs mc ms := by
    subst hA
    obtain ⟨e1, e2⟩ := hsame
    rw [State.setFrames_setFrames] at e1
    have h2 : (T.setVm s.vm).sameButNew ({ U with vm := s.vm } : State) [] (0 + 1) (0 + 6) := ⟨e1, e2⟩
    have h3 := X.same.trans h2
    rw [List.append_nil] at h3
    exact h3.mono hc hs
  refine ⟨U, ?_, .threw T.heap.size, hrun, hend, Or.inr ⟨T.heap.size, rfl, cls, ce, locs, hx U hWs.alike f1 (fun q hq => f2 q hq (fun z hz => nomatch hz)), hce, hO.vm, hcl, hWs, hall, hf⟩⟩
  refine st1 _ ?_
  show Steps p.tables e below (T1.setTop { method := m, pc := pc + 3, locals := ls, stack := .ref T.heap.size :: rest, locked := none }) _
  jvm_step X₁.here [X₁.here.top, hexec, d3', Value.category]
  exact X₁.ldcString hexec (own := own) (text := text) (index := is) (a := sa) hown' hstr'.1 hstr'.2
    (g := { method := m, pc := pc + 4, locals := ls, stack := .ref T.heap.size :: .ref T.heap.size :: rest, locked := none }) rfl d4' _ hsteps
/-- 'throw new E("text")', the text by a wide index -/
theorem vx_throwSW {cc : ByteArray} {pc : Nat} (hexec : p.tables.exec = Jvm.exec) (hb : c.code = cc) (hl : l.stackTraces = false) {own cls text : String} {names : List String} {ik is ic mc ms sa : Nat} {A : Nat → Prop}
    (hown : s.vm.findClass own = some m.cls) (hcls : Bundle.fit cls = true) (hnames : ∀ n ∈ names, Bundle.fit n = true)
    (hk : (Cond.classLink own ik cls).before args s = true) (hini : (Cond.initialized cls).before args s = true) (hstr : vk_R own is text sa s) (hat : ∀ w ∈ vx_atS own ic cls names, w.before args s = true)
    (hgood : ∀ w ∈ Cond.classLink own ik cls :: Cond.initialized cls :: vx_atS own ic cls names, vx_ot w = true)
    (hU : vx_Zq Bundle.tN "UNASSIGNED_STACK" Bundle.steD A s s.heap) (hN : vx_Zq Bundle.tN "SUPPRESSED_SENTINEL" Bundle.listD A s s.heap) (hS : va_S A s.heap H locs) (hsize : ls.size = c.maxLocals)
    (d0 : decode cc pc = .ok (.new ik, 3)) (d3 : decode cc (pc + 3) = .ok (.dup, 1)) (d4 : decode cc (pc + 4) = .ok (.ldc_w is, 3)) (d7 : decode cc (pc + 7) = .ok (.invokespecial ic, 3)) (d10 : decode cc (pc + 10) = .ok (.athrow, 1))
    (hout : ∀ x ∈ c.exceptionTable.toList, covers x (pc + 10) = false)
    (hRframes : names.length + 3 < R.frames) (hRlocals : (rest.map fun v => v.category).sum + (13 * (names.length + 1) + 43) ≤ R.locals) (hRcells : cells + 1 ≤ R.cells) (hRslots : slots + 6 ≤ R.slots) (hlocks : meth.locks = false)
    (hx : ∀ t : State, s.vm.Alike t.vm → H.size ≤ t.heap.size → (∀ q : Nat, q < H.size → t.heap[q]? = H[q]?) → XC cls s t)
    (hf : ∀ z ∈ locs, free z.base) (hc : cells + 1 ≤ mc) (hs : slots + 6 ≤ ms) :
    W p l e R s m args below meth c H locs cells slots (vx_MQ below Qc XC args s mc ms free) (F0 m pc ls rest) := by
  intro T hT X
  have htr : e.platform.stackTraces = false := (show e.platform.stackTraces = l.stackTraces by rw [X.admits.platform]).trans hl
  have Y := vx_rebase X (R' := { frames := R.frames, locals := R.locals, cells := 1, slots := 6 }) (Nat.le_refl _) (Nat.le_refl _) hRcells hRslots
  obtain ⟨s', hA⟩ : ∃ z, z = (T.setVm s.vm).setFrames (.invoking m args :: below) := ⟨_, rfl⟩
  rw [← hA] at Y
  have hvm : s'.vm = s.vm := by rw [hA]; rfl
  have hhp : s'.heap = H := by rw [hA]; exact hT
  have hW0 : s.WarmedH s'.vm := by rw [hvm]; exact State.WarmedH.refl s
  have hat' : ∀ w ∈ vx_atS own ic cls names, w.before args s' = true := fun w hw => vx_ot_at hW0 hvm.symm (hgood w (List.mem_cons_of_mem _ (List.mem_cons_of_mem _ hw))) (hat w hw)
  have hk' : (Cond.classLink own ik cls).before args s' = true := vx_ot_at hW0 hvm.symm (hgood _ List.mem_cons_self) hk
  have hini' : (Cond.initialized cls).before args s' = true := vx_ot_at hW0 hvm.symm (hgood _ (List.mem_cons_of_mem _ List.mem_cons_self)) hini
  have hU' : vx_Zq Bundle.tN "UNASSIGNED_STACK" Bundle.steD A s' s'.heap := by rw [hhp]; exact vx_Zq.moved hW0.alike (hU.kept hS.2.1)
  have hN' : vx_Zq Bundle.tN "SUPPRESSED_SENTINEL" Bundle.listD A s' s'.heap := by rw [hhp]; exact vx_Zq.moved hW0.alike (hN.kept hS.2.1)
  have h : ∀ w ∈ Bundle.ownAtoms own ic cls names, w.before args s' = true := vx_own hat' (vx_isRefq hU'.1) (vx_isRefq hN'.1) hU'.2.word hN'.2.word
  have hown' : s'.vm.findClass own = some m.cls := by rw [hvm]; exact hown
  have hins : (Cond.instantiable cls 6).before args s' = true := h _ (by simp [Bundle.ownAtoms])
  obtain ⟨vm₁, cX, kX, hfX, hkX, -, -, X₁, st1⟩ := Y.newCold hexec (own := own) (C := cls) (index := ik) (n := 6) hown' hk' hins hini'
    (g := F0 m pc ls rest) rfl (by rw [hb]; exact d0) (Nat.le_refl _) (Nat.le_refl _)
  generalize hT1 : (T.setVm vm₁).pushCell { cls := cX, slots := kX.instanceTypes.map defaultValue, vm := .none } = T1 at X₁ st1
  have hcat : (Value.ref T.heap.size).category = 1 := rfl
  have hcellA : T1.heap[T.heap.size]? = some (freshCell cX kX) := by rw [← hT1]; exact State.heap_pushCell_size _ _
  have d3' : decode c.code (pc + 3) = .ok (.dup, 1) := by rw [hb]; exact d3
  have d4' : decode c.code (pc + 4) = .ok (.ldc_w is, 3) := by rw [hb]; exact d4
  have hstr' : vk_R own is text sa s' := vk_R.warm hW0 hstr
  obtain ⟨U, hsteps, hrun, hend, hW, hsame, ce, hce, hO⟩ := X₁.ctorThrowS hexec htr (own := own) (cls := cls) (names := names) (ic := ic) hown' hcls hnames h (fun x hx => nomatch hx) hfX hkX hcellA (by rw [hhp, hT]; exact Nat.le_refl _) (msg := .ref sa) rfl
    (g := { method := m, pc := pc + 7, locals := ls, stack := .ref sa :: .ref T.heap.size :: .ref T.heap.size :: rest, locked := none }) rfl hsize rfl rfl (rest := rest) rfl
    (by rw [hb]; exact d7) (by rw [hb]; exact d10) hout hRframes (by simp only [List.map_cons, List.sum_cons, hcat]; omega) hlocks
  obtain ⟨f1, f2⟩ := vx_frame hsame
  rw [hhp] at f1 f2
  have hWs : s.WarmedH U.vm := State.WarmedH.trans hW0 hW
  have hcl : s.vm.findClass cls = some ce.cls := by
    have h9 := hO.cls
    rw [hvm] at h9
    exact h9
  have hall : s.sameButNew ({ U with vm := s.vm } : State) locs mc ms := by
    subst hA
    obtain ⟨e1, e2⟩ := hsame
    rw [State.setFrames_setFrames] at e1
    have h2 : (T.setVm s.vm).sameButNew ({ U with vm := s.vm } : State) [] (0 + 1) (0 + 6) := ⟨e1, e2⟩
    have h3 := X.same.trans h2
    rw [List.append_nil] at h3
    exact h3.mono hc hs
  refine ⟨U, ?_, .threw T.heap.size, hrun, hend, Or.inr ⟨T.heap.size, rfl, cls, ce, locs, hx U hWs.alike f1 (fun q hq => f2 q hq (fun z hz => nomatch hz)), hce, hO.vm, hcl, hWs, hall, hf⟩⟩
  refine st1 _ ?_
  show Steps p.tables e below (T1.setTop { method := m, pc := pc + 3, locals := ls, stack := .ref T.heap.size :: rest, locked := none }) _
  jvm_step X₁.here [X₁.here.top, hexec, d3', Value.category]
  exact X₁.ldcStringW hexec (own := own) (text := text) (index := is) (a := sa) hown' hstr'.1 hstr'.2
    (g := { method := m, pc := pc + 4, locals := ls, stack := .ref T.heap.size :: .ref T.heap.size :: rest, locked := none }) rfl d4' _ hsteps
end Ends
section Bodies
variable {l : Launch}
theorem vx_ofW {y : MethodName} {ws ws' : List Cond} {rm : Room} {Pc : Array Value → State → Prop} {Qc : Array Value → State → Outcome → State → Prop} {XC : String → State → State → Prop} {mc ms : Nat} {free : Addr → Prop} {cc : ByteArray} {maxL : Nat} {ret : Option FieldType}
    (hy : plainName y.cls = true) (hw : ws = Cond.code y cc maxL ret :: ws')
    (body : ∀ p e s m args below meth c s₁, BodyLoose p l y (headSpec ws rm) cc maxL ret e s m args below meth c s₁ → c.maxLocals = maxL → (∀ x ∈ c.exceptionTable.toList, False) → Pc args s →
      W p l e (headSpec ws rm).room s m args below meth c s.heap [] 0 0 (vx_MQ below Qc XC args s mc ms free) (entryFrame m args maxL)) : vx_Met l y ws rm Pc Qc XC mc ms free := by
  refine MetFree.of_bodyS (code := cc) (maxLocals := maxL) (ret := ret) hy ?_ ?_
  · intro args s m h hn
    obtain ⟨meth, c, h1, h2, h3, h4, h5, h6, -, -⟩ := Cond.code_spec hn (atoms_spec (ws := ws) h _ (by rw [hw]; exact List.mem_cons_self))
    exact ⟨meth, c, h1, h2, h3, h4, h5, h6⟩
  · intro p e s m args below meth c s₁ B hml hP _
    have hh0 : s₁.heap = s.heap := by rw [B.state]; rfl
    have ht : ∀ x ∈ c.exceptionTable.toList, False := by
      obtain ⟨meth9, c9, h1, h2, -, -, -, -, h7, -⟩ := Cond.code_spec B.named (atoms_spec (ws := ws) B.pre _ (by rw [hw]; exact List.mem_cons_self))
      cases Option.some.inj (h1.symm.trans B.method)
      cases Option.some.inj (h2.symm.trans (Stand.of_body B).code)
      intro x hx
      rw [Array.isEmpty_iff.mp h7] at hx
      cases hx
    obtain ⟨t, a1, o, b1, b2, b3⟩ := body p e s m args below meth c s₁ B hml ht hP s₁ hh0 (Stand.of_body B)
    exact ⟨t, o, a1, b1, b2, b3⟩
/-- the table of a body with handlers -/
theorem vx_table {p : Program} {x y : MethodName} {S : Spec} {cc bytes : ByteArray} {maxL maxL' : Nat} {ret ret' : Option FieldType} {e : Env} {s s₁ : State} {m : MethodId} {args : Array Value} {below : List Frame} {meth : Method} {c : Code} {hh : List (Nat × Nat × Nat × Nat)}
    (B : BodyLoose p l y S cc maxL ret e s m args below meth c s₁) (h : (Cond.codeWith y bytes maxL' ret' hh).before args s = true) : c.exceptionTable.toList = tableOf hh := by
  obtain ⟨m9, meth9, c9, hn9, h1, h2, -, -, h6, -⟩ := Cond.codeWith_spec h
  cases Option.some.inj (hn9.symm.trans B.named)
  cases Option.some.inj (h1.symm.trans B.method)
  cases Option.some.inj (h2.symm.trans (Stand.of_body B).code)
  rw [← h6, table_eq]
end Bodies
end VXA
/-! ===== END ===== -/
/-! ===== BEGIN a static call of a method with an exception table ===== -/
section VXS
variable {p : Program} {l : Launch} {e : Env} {R : Room} {s : State} {m : MethodId} {args : Array Value} {below : List Frame} {meth : Method} {c : Code} {T : State} {H : Heap} {locs : List Loc} {cells slots : Nat}
abbrev vx_CSW (R : Room) (s : State) (args : Array Value) (own : String) (index : Nat) (y : MethodName) (bytes : ByteArray) (maxL : Nat) (ret : Option FieldType) (hh : List (Nat × Nat × Nat × Nat)) (ws : List Cond) (rm : Room) (mc ms n : Nat) : Prop :=
  (rm.cells = mc ∧ rm.slots = ms ∧ rm.frames + 1 ≤ R.frames ∧ 8 + (maxL + 11) + rm.locals ≤ R.locals ∧ (∀ w ∈ ws, ∀ (a' : Array Value) (U : State), s.WarmedH U.vm → w.before a' U = true) ∧ Cond.codeWith y bytes maxL ret hh ∈ ws) ∧
  (Cond.codeWith y bytes maxL ret hh).before args s = true ∧ (Cond.initialized y.cls).before args s = true ∧ (y.cls ≠ "java/lang/invoke/MethodHandle" ∧ y.cls ≠ "java/lang/invoke/VarHandle") ∧
  (∀ sig, parseMethodDescriptor y.desc = some sig → n = sig.parameters.length) ∧ (Cond.methodLink own index y).before args s = true ∧ (Cond.static y).before args s = true
theorem vx_cwSW {own : String} {index maxL mc ms : Nat} {y : MethodName} {bytes : ByteArray} {ret : Option FieldType} {hh : List (Nat × Nat × Nat × Nat)} {Ts ws ws' : List Cond} {rm : Room} (n : Nat) (ht : ∀ w ∈ Ts, w.before args s = true) (hT : GoodIn Ts (va_wsS own index y ws)) (hw : ws = Cond.codeWith y bytes maxL ret hh :: ws') (hrc : rm.cells = mc) (hrs : rm.slots = ms)
    (hd : y.cls ≠ "java/lang/invoke/MethodHandle" ∧ y.cls ≠ "java/lang/invoke/VarHandle" ∧ (parseMethodDescriptor y.desc).map (fun d => d.parameters.length) = some n) (hR : rm.frames + 1 ≤ R.frames ∧ 8 + (maxL + 11) + rm.locals ≤ R.locals) :
    vx_CSW R s args own index y bytes maxL ret hh ws rm mc ms n := by
  have ok : ∀ w ∈ va_wsS own index y ws, w.before args s = true := fun w h => ht w (hT w h).1
  have hG : GoodIn Ts ws := fun w h => hT w (by unfold va_wsS; exact List.mem_append_right _ h)
  have hc : Cond.codeWith y bytes maxL ret hh ∈ ws := by rw [hw]; exact List.mem_cons_self
  refine ⟨⟨hrc, hrs, hR.1, hR.2, pay_in ht hG, hc⟩, ht _ (hG _ hc).1, ok _ (by simp [va_wsS]), ⟨hd.1, hd.2.1⟩, fun sig h => ?_, ok _ (by simp [va_wsS]), ok _ (by simp [va_wsS])⟩
  have h2 := hd.2.2
  rw [h] at h2
  exact (Option.some.inj h2).symm
theorem vx_callSW (X : Stand p l e R s m args below meth c T locs cells slots) (hexec : p.tables.exec = Jvm.exec) {own : String} {index : Nat} {y : MethodName} {bytes : ByteArray} {maxL : Nat} {ret : Option FieldType} {hh : List (Nat × Nat × Nat × Nat)}
    (hown : s.vm.findClass own = some m.cls) (hlink : (Cond.methodLink own index y).before args s = true) (hstat : (Cond.static y).before args s = true) (hinit : (Cond.initialized y.cls).before args s = true)
    (hcode : (Cond.codeWith y bytes maxL ret hh).before args s = true) (hy : y.cls ≠ "java/lang/invoke/MethodHandle" ∧ y.cls ≠ "java/lang/invoke/VarHandle")
    {W9 : Nat} {Pre : Pt → Array Value → Prop} {Post : Pt → Array Value → Option Value → Pt → Prop} (hK : Back l R p e below s args y 3 W9 Pre Post)
    {g : JFrame} (hg : g.method = m) (hsize : g.locals.size = c.maxLocals) {argsL rest : List Value} (hlen : ∀ sig, parseMethodDescriptor y.desc = some sig → argsL.length = sig.parameters.length)
    (hstack : g.stack = argsL.reverse ++ rest) (hW : 2 * g.monitorRoom + (rest.map fun v => v.category).sum ≤ W9) (hdg : decode c.code g.pc = .ok (.invokestatic index, 3))
    (hpre : ∀ vm₁, s.WarmedH vm₁ → Pre ⟨T.setVm vm₁, locs, cells, slots⟩ argsL.toArray) :
    ∃ (v : Option Value) (vm₁ : Vm) (B : Pt), s.WarmedH vm₁ ∧ Stand p l e R s m args below meth c B.U B.locs B.cells B.slots ∧ Post ⟨T.setVm vm₁, locs, cells, slots⟩ argsL.toArray v B ∧
      ∀ target, Steps p.tables e below (B.U.setTop { g with pc := g.pc + 3, stack := v.toList ++ rest }) target → Steps p.tables e below (T.setTop g) target := by
  obtain ⟨mk, methM, cM, hnamed, hmethM, -, -, -, -, -, -, hsigM⟩ := Cond.codeWith_spec hcode
  have hstatic : methM.isStatic = true := Cond.static_spec hnamed hmethM hstat
  obtain ⟨kP, hkP, -⟩ := className_of_methodNamed hnamed
  have hinitP : kP.init = .initialized := Cond.initialized_spec (findClass_of_methodNamed hnamed) hkP hinit
  obtain ⟨vm₁, X₁, hstep₁⟩ := X.invokestatic hexec hown hlink hnamed hmethM hstatic hkP hinitP hy (g := g) hg (argsL := argsL) (rest := rest) (hlen _ hsigM) hstack hdg
  obtain ⟨v, B, X', hpost, hsteps⟩ := hK m meth c ⟨T.setVm vm₁, locs, cells, slots⟩ { g with stack := rest } (.invokestatic index) mk argsL.toArray X₁ hg hsize hdg hW (X₁.named hnamed) (hpre vm₁ X₁.warmed)
  exact ⟨v, vm₁, B, X₁.warmed, X', hpost, fun target h => hstep₁ _ fun acts => by rw [doInvoke_state]; exact hsteps.trans h⟩
theorem vx_runSW {y : MethodName} {bytes cc : ByteArray} {maxL nL mc ms n index : Nat} {ret : Option FieldType} {hh : List (Nat × Nat × Nat × Nat)} {ws : List Cond} {rm : Room} {Pc : Array Value → State → Prop} {Qc : Array Value → State → Outcome → State → Prop} {free : Addr → Prop} {Ts : List Cond} {own : String} {As rest : List Value} {g : JFrame}
    (S : CallFix p m c cc nL s args Ts own) (hM : Met l y ws rm Pc Qc mc ms free) (cw : vx_CSW R s args own index y bytes maxL ret hh ws rm mc ms n) (hp : PreS s H Pc As)
    (hg : g.method = m) (hn : As.length = n) (hsize : g.locals.size = nL) (hstack : g.stack = As.reverse ++ rest) (hW : 2 * g.monitorRoom + (rest.map fun v => v.category).sum ≤ 8) (hdg : decode cc g.pc = .ok (.invokestatic index, 3)) (hf : cells + mc ≤ R.cells ∧ slots + ms ≤ R.slots) :
    va_Run p l e R s m args below meth c H locs cells slots mc ms g rest (Qc As.toArray) (free) := by
  obtain ⟨⟨hrc, hrs, hfr, hlo, hws, hcw⟩, hcode, hini, hy, hlen, hl, hstt⟩ := cw
  have hK : Back l R p e below s args y 3 8 (PreOf R mc ms Pc) (PostOf Qc mc ms free) := va_backW (hh := hh) (bytes := bytes) (maxL := maxL) (ret := ret) hM hp.1 hrc hrs hfr hlo hws hcw (fun a' U hW => word_at hW (Or.inl (by first | rfl | simp [Cond.onTables, Cond.keeps, Cond.steady])) hini)
  obtain ⟨hx, hb, hml, ho, -⟩ := S
  intro T hT X
  obtain ⟨v, vm₁, ⟨U', l2, c2, s2⟩, hW₁, X', ⟨g', mk, t, L, e1, e2, hq, h1, hL, h2, h3⟩, st⟩ := vx_callSW X hx (hh := hh) (bytes := bytes) (maxL := maxL) (ret := ret) ho hl hstt hini hcode hy hK hg (hsize.trans hml.symm) (argsL := As) (rest := rest) (fun sig h => hn.trans (hlen sig h)) hstack hW (by rw [hb]; exact hdg)
    (fun vm₁ hW₁ => ⟨hf.1, hf.2, hp.2 (T.setVm vm₁) hT hW₁⟩)
  dsimp only [Pt.U, Pt.locs, Pt.cells, Pt.slots] at X' e1 e2 h1 h2 h3 st
  subst h1; subst h2; subst h3
  exact ⟨v, (T.setVm vm₁).calling g' mk As.toArray, t, U', L, hT, X', hL, e1, e2, hq, st⟩
/-- not caught here, past rows that name other classes: it goes on to the caller -/
theorem vx_outP {p : Program} {l : Launch} {e : Env} {R : Room} {s : State} {m : MethodId} {args : Array Value} {below : List Frame} {meth : Method} {c : Code} {H : Heap} {locs : List Loc} {cells slots : Nat} {free : Addr → Prop} {ls : Array Slot} {rest : List Value} {Qc : Array Value → State → Outcome → State → Prop} {XC : String → State → State → Prop}
    {pc : Nat} {own E : String} {ce : Cell} {q : Addr} {mc ms : Nat} (hown : s.vm.findClass own = some m.cls) (hlocks : meth.locks = false)
    (hpass : ∀ z ∈ c.exceptionTable.toList, covers z pc = false ∨ (z.catchType ≠ 0 ∧ ∃ nm : String, (Cond.classLink own z.catchType nm).before args s = true ∧ va_Nc E nm s)) (hcell : H[q]? = some ce) (hv : ce.vm = .none) (hcl : s.vm.findClass E = some ce.cls)
    (hx : ∀ t : State, t.heap = H → s.vm.Alike t.vm → XC E s t) (hf : ∀ z ∈ locs, free z.base) (hc : cells ≤ mc) (hs : slots ≤ ms) :
    vx_W p l e R s m args below meth c H locs cells slots (vx_MQ below Qc XC args s mc ms free) (F0 m pc ls rest) q := by
  intro T hT X
  have hpl : e.platform.magicAccessors = ({} : Platform).magicAccessors := by rw [X.admits.platform]
  obtain ⟨vm', hW', X', st⟩ := X.outThrough hlocks q (g := F0 m pc ls rest) rfl rfl rfl (cell := ce) (by rw [hT]; exact hcell) (by rw [hv]; rfl)
    (by obtain ⟨k9, h9, -⟩ := Vm.findClass_spec hcl; exact ⟨k9, h9⟩) (fun z hz => by
      rcases hpass z hz with h | ⟨hz0, nm, hl1, hn1⟩
      · exact Or.inl h
      · obtain ⟨c6, hc6, hcl6⟩ := Cond.classLink_spec hown hl1 e.platform hpl
        obtain ⟨a8, b8, h1, h2, h3⟩ := hn1
        cases Option.some.inj (h1.symm.trans hcl)
        cases Option.some.inj (h2.symm.trans hc6)
        exact Or.inr ⟨hz0, _, hcl6, h3⟩)
  obtain ⟨g₀, hfr⟩ := X'.frames_eq
  have hcell9 : ((T.setVm vm').setFrames (.throwing q :: below)).heap[q]? = some ce := by
    show T.heap[q]? = some ce
    rw [hT]; exact hcell
  have hend : Ended ((T.setVm vm').setFrames (.throwing q :: below)) below (.threw q) := State.frames_setFrames _ (State.cur_lt_of_frames hfr)
  refine ⟨(T.setVm vm').setFrames (.throwing q :: below), ?_, .threw q, X'.here.running, hend, Or.inr ⟨q, rfl, E, ce, locs, hx _ hT (X'.ends _).1.alike, hcell9, hv, hcl, (X'.ends _).1, (X'.ends _).2.mono hc hs, hf⟩⟩
  rw [X.pushThrowing_eq]
  exact st
/-- a thing of a world lies in the heap -/
theorem vx_lt {D : va_G} {cl : List vw_C} {ws : va_W} {H1 : Heap} (h : va_P D cl ws H1) {k : Nat} {q : Nat × va_E} (hk : ws[k]? = some q) : q.1 < H1.size := (h k q hk).lt
end VXS
/-! ===== END ===== -/
/-! ===== BEGIN methods with a table of their own: called by a name, returning or throwing ===== -/
section VXH
/-! vx_backW, vx_callVX, vx_callSX, vx_callVW, vx_runVW, vx_runVX, vx_runSX, vx_ofWH follow the same proofs as their sisters above (Free/Laws.lean, Shelf42/LK1.lean); vx_outP calls Shelf42/NT130.lean (outThrough). -/
section
variable {l : Launch} {R : Room} {p : Program} {e : Env} {below : List Frame} {s : State} {sargs : Array Value} {y : MethodName} {len W9 : Nat}
theorem vx_backW {ws : List Cond} {rm : Room} {Pc : Array Value → State → Prop} {Qc : Array Value → State → Outcome → State → Prop} {XC : String → State → State → Prop} {mc ms : Nat} {free : Addr → Prop} {bytes : ByteArray} {maxL : Nat} {ret : Option FieldType} {hh : List (Nat × Nat × Nat × Nat)}
    (hM : vx_Met l y ws rm Pc Qc XC mc ms free) (hblind : FrameBlind Pc) (hrc : rm.cells = mc) (hrs : rm.slots = ms)
    (hframes : rm.frames + 1 ≤ R.frames) (hlocals : W9 + (maxL + 11) + rm.locals ≤ R.locals)
    (hws : ∀ w ∈ ws, ∀ a' U, s.WarmedH U.vm → w.before a' U = true) (hcode : Cond.codeWith y bytes maxL ret hh ∈ ws) (hinit : ∀ a' U, s.WarmedH U.vm → (Cond.initialized y.cls).before a' U = true) :
    vx_Back l R p e below s sargs y len W9 (PreOf R mc ms Pc) (PostOf Qc mc ms free) (vx_Post XC mc ms free) := by
  intro m meth c A g ig mk a X hg hsize hdg hW hn hp
  have h1 : (headSpec ws rm).pre.before a A.U = true := atoms_intro fun w hw => hws w hw _ _ X.warmed
  have h2 : (Cond.codeWith y bytes maxL ret hh).before a A.U = true := hws _ hcode _ _ X.warmed
  have h3 : (Cond.initialized y.cls).before a A.U = true := hinit _ _ X.warmed
  have h4 : A.cells + (headSpec ws rm).room.cells ≤ R.cells := by rw [show (headSpec ws rm).room.cells = mc from hrc]; exact hp.1
  have h5 : A.slots + (headSpec ws rm).room.slots ≤ R.slots := by rw [show (headSpec ws rm).room.slots = ms from hrs]; exact hp.2.1
  have hPc : Pc a (A.U.calling g mk a) := hblind _ _ _ _ hp.2.2
  obtain ⟨U, Ls, c0, s0⟩ := A
  dsimp only [Pt.U, Pt.locs, Pt.cells, Pt.slots] at h1 h2 h3 h4 h5 X hn hPc ⊢
  obtain ⟨m9, methY, cY, hn9, hmY, hcY, -, hlY, -⟩ := Cond.codeWith_spec h2
  cases Option.some.inj (hn9.symm.trans hn)
  obtain ⟨kY, hkY, -⟩ := className_of_methodNamed hn
  have hinitY : kY.init = .initialized := Cond.initialized_spec (findClass_of_methodNamed hn) hkY h3
  have h : At U g.method c below := by rw [hg]; exact X.here
  have hlocals9 : W9 + (maxL + 11) + (headSpec ws rm).room.locals ≤ R.locals := hlocals
  have happ : (headSpec ws rm).appliesLoose y e.platform (U.calling g mk a) = true :=
    Spec.appliesLoose_calling (g := g) h hdg hn hkY hinitY
      (X.room_calling (g := g) (R' := (headSpec ws rm).room) hsize hmY hcY hframes (by rw [hlY]; omega) h4 h5) h1
  obtain ⟨mid, hmid⟩ := h.above
  have hfr : (U.setTop g).frames = (.java g :: mid) ++ below := by rw [State.frames_setTop' g h.top, hmid]; rfl
  obtain ⟨o, s₂, hsteps, -, hend, hq⟩ := Steps.callFree hM p X.admits X.cas X.clock (acts := []) hfr happ hPc trivial
  have hq' : vx_Q Qc XC mc ms free a (U.calling g mk a) o s₂ := hq
  rw [State.frames_setTop' g h.top] at hend
  obtain ⟨g₀, hg0⟩ := Option.isSome_iff_exists.mp h.top
  obtain ⟨r, hr⟩ := State.topJava?_eq_some.mp hg0
  have hr' : (({ U with heap := s₂.heap, slotsUsed := s₂.slotsUsed } : State).setVm s₂.vm).frames = .java g₀ :: r := hr
  rcases hq' with ⟨hqc, L, hfe, hL⟩ | ⟨q, rfl, E, ce, L, hx, hce, hcv, hcl, hW₂, hsm, hL⟩
  · obtain ⟨⟨v, rfl⟩, hW₂, e2, q2, q3, q4, q5, q6⟩ := id hfe
    have e3 : s₂ = ({ (U.calling g mk a).setFrames s₂.frames with heap := s₂.heap, slotsUsed := s₂.slotsUsed } : State).setVm s₂.vm := by
      have : s₂ = ({ s₂ with vm := (U.calling g mk a).vm } : State).setVm s₂.vm := rfl
      rw [e2] at this
      exact this
    obtain ⟨c₂, i₂, len₂, hc₂, hd₂, hf₂⟩ := hend
    have hW' : U.WarmedH s₂.vm := hW₂
    have hcc : c₂ = c := by
      have h1 : s₂.code? g.method = U.code? g.method := by
        rw [State.code?_eq, State.code?_eq, hW'.alike.method?]
      exact Option.some.inj (hc₂.symm.trans (h1.trans h.code))
    subst hcc
    have hlen : len₂ = len := by rw [hdg] at hd₂; cases hd₂; rfl
    subst hlen
    have hs₂ : s₂ = (({ U with heap := s₂.heap, slotsUsed := s₂.slotsUsed } : State).setVm s₂.vm).setTop { g with pc := g.pc + len₂, stack := v.toList ++ g.stack } := by
      refine e3.trans ?_
      rw [hf₂, State.calling_eq h.top, State.setFrames_setFrames, State.setTop_of_frames _ hr', hr]
      rfl
    have hsame : U.sameButNew ({ U with heap := s₂.heap, slotsUsed := s₂.slotsUsed } : State) L mc ms := by
      refine ⟨?_, q2, q3, q4, q5, q6⟩
      obtain ⟨t, ht, -⟩ := State.frames_cons hr
      show ({ U with heap := s₂.heap, slotsUsed := s₂.slotsUsed } : State) = { U.setFrames U.frames with heap := s₂.heap, slotsUsed := s₂.slotsUsed }
      rw [State.setFrames_self ht]
    subst hg
    refine Or.inl ⟨v, ⟨(({ U with heap := s₂.heap, slotsUsed := s₂.slotsUsed } : State).setVm s₂.vm), Ls ++ L, c0 + mc, s0 + ms⟩,
      ⟨X.admits, X.cas, X.clock, X.frames, X.room, X.hears, X.method, X.code, (X.here.setHeapUsed s₂.heap s₂.slotsUsed).setVm hW'.alike, X.tail, State.WarmedH.trans X.warmed hW', X.limits, X.bytes, X.same.trans (hsame.setVm s.vm)⟩,
      ⟨g, mk, s₂, L, rfl, rfl, hqc, rfl, hL, rfl, rfl⟩, ?_⟩
    show Steps p.tables e below _ ((({ U with heap := s₂.heap, slotsUsed := s₂.slotsUsed } : State).setVm s₂.vm).setTop { g with pc := g.pc + len₂, stack := v.toList ++ g.stack })
    rw [← hs₂]
    exact hsteps
  · obtain ⟨e2, q2, q3, q4, q5, q6⟩ := id hsm
    have e3 : s₂ = ({ (U.calling g mk a).setFrames s₂.frames with heap := s₂.heap, slotsUsed := s₂.slotsUsed } : State).setVm s₂.vm := by
      have : s₂ = ({ s₂ with vm := (U.calling g mk a).vm } : State).setVm s₂.vm := rfl
      rw [e2] at this
      exact this
    have hf₂ : s₂.frames = .throwing q :: .java g :: U.frames.tail := hend
    have hW' : U.WarmedH s₂.vm := hW₂
    have hs₂ : s₂ = ((({ U with heap := s₂.heap, slotsUsed := s₂.slotsUsed } : State).setVm s₂.vm).setTop g).pushFrame (.throwing q) := by
      refine e3.trans ?_
      rw [hf₂, State.calling_eq h.top, State.setFrames_setFrames, State.pushFrame, State.frames_setTop _ hr', State.setTop_of_frames _ hr', State.setFrames_setFrames, hr]
      rfl
    have hsame : U.sameButNew ({ U with heap := s₂.heap, slotsUsed := s₂.slotsUsed } : State) L mc ms := by
      refine ⟨?_, q2, q3, q4, q5, q6⟩
      obtain ⟨t, ht, -⟩ := State.frames_cons hr
      show ({ U with heap := s₂.heap, slotsUsed := s₂.slotsUsed } : State) = { U.setFrames U.frames with heap := s₂.heap, slotsUsed := s₂.slotsUsed }
      rw [State.setFrames_self ht]
    subst hg
    refine Or.inr ⟨q, ⟨(({ U with heap := s₂.heap, slotsUsed := s₂.slotsUsed } : State).setVm s₂.vm), Ls ++ L, c0 + mc, s0 + ms⟩,
      ⟨X.admits, X.cas, X.clock, X.frames, X.room, X.hears, X.method, X.code, (X.here.setHeapUsed s₂.heap s₂.slotsUsed).setVm hW'.alike, X.tail, State.WarmedH.trans X.warmed hW', X.limits, X.bytes, X.same.trans (hsame.setVm s.vm)⟩,
      ⟨g, mk, s₂, L, E, ce, rfl, rfl, hx, hce, hcv, hcl, rfl, hL, rfl, rfl⟩, ?_⟩
    show Steps p.tables e below _ (((({ U with heap := s₂.heap, slotsUsed := s₂.slotsUsed } : State).setVm s₂.vm).setTop g).pushFrame (.throwing q))
    rw [← hs₂]
    exact hsteps
end
variable {p : Program} {l : Launch} {e : Env} {R : Room} {s : State} {m : MethodId} {args : Array Value} {below : List Frame} {meth : Method} {c : Code} {T : State} {H : Heap} {locs : List Loc} {cells slots : Nat}
theorem vx_callVX (X : Stand p l e R s m args below meth c T locs cells slots) (hexec : p.tables.exec = Jvm.exec) {own C : String} {index : Nat} {y : MethodName} {bytes : ByteArray} {maxL : Nat} {ret : Option FieldType} {hh : List (Nat × Nat × Nat × Nat)}
    (hown : s.vm.findClass own = some m.cls) (hlink : (Cond.methodLink own index y).before args s = true) (hinst : (Cond.instanceMethod y).before args s = true) (hsel : (Cond.selects C y y).before args s = true)
    (hcode : (Cond.codeWith y bytes maxL ret hh).before args s = true) (hy : y.cls ≠ "java/lang/invoke/MethodHandle" ∧ y.cls ≠ "java/lang/invoke/VarHandle")
    {W9 : Nat} {Pre : Pt → Array Value → Prop} {Post : Pt → Array Value → Option Value → Pt → Prop} {PostX : Pt → Array Value → Addr → Pt → Prop} (hK : vx_Back l R p e below s args y 3 W9 Pre Post PostX)
    {b : Addr} {cellB : Cell} (hcell : T.heap[b]? = some cellB) (hobj : cellB.vm.isStatics = false) (hcls : s.vm.findClass C = some cellB.cls)
    {g : JFrame} (hg : g.method = m) (hsize : g.locals.size = c.maxLocals) {argsL rest : List Value} (hlen : ∀ sig, parseMethodDescriptor y.desc = some sig → argsL.length = sig.parameters.length)
    (hstack : g.stack = argsL.reverse ++ .ref b :: rest) (hW : 2 * g.monitorRoom + (rest.map fun v => v.category).sum ≤ W9) (hdg : decode c.code g.pc = .ok (.invokevirtual index, 3))
    (hpre : ∀ vm₁, s.WarmedH vm₁ → Pre ⟨T.setVm vm₁, locs, cells, slots⟩ (Value.ref b :: argsL).toArray) :
    (∃ (v : Option Value) (vm₁ : Vm) (B : Pt), s.WarmedH vm₁ ∧ Stand p l e R s m args below meth c B.U B.locs B.cells B.slots ∧ Post ⟨T.setVm vm₁, locs, cells, slots⟩ (Value.ref b :: argsL).toArray v B ∧
      ∀ target, Steps p.tables e below (B.U.setTop { g with pc := g.pc + 3, stack := v.toList ++ rest }) target → Steps p.tables e below (T.setTop g) target) ∨
    (∃ (q : Addr) (vm₁ : Vm) (B : Pt), s.WarmedH vm₁ ∧ Stand p l e R s m args below meth c B.U B.locs B.cells B.slots ∧ PostX ⟨T.setVm vm₁, locs, cells, slots⟩ (Value.ref b :: argsL).toArray q B ∧
      Steps p.tables e below (T.setTop g) ((B.U.setTop { g with stack := rest }).pushFrame (.throwing q))) := by
  obtain ⟨mk, methM, hnamed, hmethM, hstM, habM⟩ := Cond.instanceMethod_spec hinst
  obtain ⟨m8, methM', cM, hn8, hmethM', -, -, -, -, -, -, hsigM⟩ := Cond.codeWith_spec hcode
  cases Option.some.inj (hn8.symm.trans hnamed)
  cases hmethM.symm.trans hmethM'
  obtain ⟨c2, r2, m2, q1, q2, q3, q4, kP, hkP, hkPi⟩ := Cond.selects_spec hsel
  cases hcls.symm.trans q1
  cases (State.methodFound?_of_named hnamed hy).symm.trans q2
  cases hnamed.symm.trans q3
  have hselP : selectMethod e.platform s.vm cellB.cls mk = .method mk := by rw [Launch.admits_selectMethod X.admits]; exact q4
  obtain ⟨vm₁, X₁, hstep₁⟩ := X.invokevirtual hexec hown hlink hnamed hmethM hstM hkP hkPi hy (a := b) (cell := cellB) hcell
    (fun z h => by rw [h] at hobj; cases hobj) hselP hmethM habM hkP hkPi (g := g) hg (argsL := argsL) (rest := rest) (hlen _ hsigM) hstack hdg
  rcases hK m meth c ⟨T.setVm vm₁, locs, cells, slots⟩ { g with stack := rest } (.invokevirtual index) mk (Value.ref b :: argsL).toArray X₁ hg hsize hdg hW (X₁.named hnamed) (hpre vm₁ X₁.warmed) with ⟨v, B, X', hpost, hsteps⟩ | ⟨q, B, X', hpost, hsteps⟩
  · exact Or.inl ⟨v, vm₁, B, X₁.warmed, X', hpost, fun target h => hstep₁ _ fun acts => by rw [doInvoke_state]; exact hsteps.trans h⟩
  · exact Or.inr ⟨q, vm₁, B, X₁.warmed, X', hpost, hstep₁ _ fun acts => by rw [doInvoke_state]; exact hsteps⟩
theorem vx_callSX (X : Stand p l e R s m args below meth c T locs cells slots) (hexec : p.tables.exec = Jvm.exec) {own : String} {index : Nat} {y : MethodName} {bytes : ByteArray} {maxL : Nat} {ret : Option FieldType} {hh : List (Nat × Nat × Nat × Nat)}
    (hown : s.vm.findClass own = some m.cls) (hlink : (Cond.methodLink own index y).before args s = true) (hstat : (Cond.static y).before args s = true) (hinit : (Cond.initialized y.cls).before args s = true)
    (hcode : (Cond.codeWith y bytes maxL ret hh).before args s = true) (hy : y.cls ≠ "java/lang/invoke/MethodHandle" ∧ y.cls ≠ "java/lang/invoke/VarHandle")
    {W9 : Nat} {Pre : Pt → Array Value → Prop} {Post : Pt → Array Value → Option Value → Pt → Prop} {PostX : Pt → Array Value → Addr → Pt → Prop} (hK : vx_Back l R p e below s args y 3 W9 Pre Post PostX)
    {g : JFrame} (hg : g.method = m) (hsize : g.locals.size = c.maxLocals) {argsL rest : List Value} (hlen : ∀ sig, parseMethodDescriptor y.desc = some sig → argsL.length = sig.parameters.length)
    (hstack : g.stack = argsL.reverse ++ rest) (hW : 2 * g.monitorRoom + (rest.map fun v => v.category).sum ≤ W9) (hdg : decode c.code g.pc = .ok (.invokestatic index, 3))
    (hpre : ∀ vm₁, s.WarmedH vm₁ → Pre ⟨T.setVm vm₁, locs, cells, slots⟩ argsL.toArray) :
    (∃ (v : Option Value) (vm₁ : Vm) (B : Pt), s.WarmedH vm₁ ∧ Stand p l e R s m args below meth c B.U B.locs B.cells B.slots ∧ Post ⟨T.setVm vm₁, locs, cells, slots⟩ argsL.toArray v B ∧
      ∀ target, Steps p.tables e below (B.U.setTop { g with pc := g.pc + 3, stack := v.toList ++ rest }) target → Steps p.tables e below (T.setTop g) target) ∨
    (∃ (q : Addr) (vm₁ : Vm) (B : Pt), s.WarmedH vm₁ ∧ Stand p l e R s m args below meth c B.U B.locs B.cells B.slots ∧ PostX ⟨T.setVm vm₁, locs, cells, slots⟩ argsL.toArray q B ∧
      Steps p.tables e below (T.setTop g) ((B.U.setTop { g with stack := rest }).pushFrame (.throwing q))) := by
  obtain ⟨mk, methM, cM, hnamed, hmethM, -, -, -, -, -, -, hsigM⟩ := Cond.codeWith_spec hcode
  have hstatic : methM.isStatic = true := Cond.static_spec hnamed hmethM hstat
  obtain ⟨kP, hkP, -⟩ := className_of_methodNamed hnamed
  have hinitP : kP.init = .initialized := Cond.initialized_spec (findClass_of_methodNamed hnamed) hkP hinit
  obtain ⟨vm₁, X₁, hstep₁⟩ := X.invokestatic hexec hown hlink hnamed hmethM hstatic hkP hinitP hy (g := g) hg (argsL := argsL) (rest := rest) (hlen _ hsigM) hstack hdg
  rcases hK m meth c ⟨T.setVm vm₁, locs, cells, slots⟩ { g with stack := rest } (.invokestatic index) mk argsL.toArray X₁ hg hsize hdg hW (X₁.named hnamed) (hpre vm₁ X₁.warmed) with ⟨v, B, X', hpost, hsteps⟩ | ⟨q, B, X', hpost, hsteps⟩
  · exact Or.inl ⟨v, vm₁, B, X₁.warmed, X', hpost, fun target h => hstep₁ _ fun acts => by rw [doInvoke_state]; exact hsteps.trans h⟩
  · exact Or.inr ⟨q, vm₁, B, X₁.warmed, X', hpost, hstep₁ _ fun acts => by rw [doInvoke_state]; exact hsteps⟩
theorem vx_callVW (X : Stand p l e R s m args below meth c T locs cells slots) (hexec : p.tables.exec = Jvm.exec) {own C : String} {index : Nat} {y : MethodName} {bytes : ByteArray} {maxL : Nat} {ret : Option FieldType} {hh : List (Nat × Nat × Nat × Nat)}
    (hown : s.vm.findClass own = some m.cls) (hlink : (Cond.methodLink own index y).before args s = true) (hinst : (Cond.instanceMethod y).before args s = true) (hsel : (Cond.selects C y y).before args s = true)
    (hcode : (Cond.codeWith y bytes maxL ret hh).before args s = true) (hy : y.cls ≠ "java/lang/invoke/MethodHandle" ∧ y.cls ≠ "java/lang/invoke/VarHandle")
    {W9 : Nat} {Pre : Pt → Array Value → Prop} {Post : Pt → Array Value → Option Value → Pt → Prop} (hK : Back l R p e below s args y 3 W9 Pre Post)
    {b : Addr} {cellB : Cell} (hcell : T.heap[b]? = some cellB) (hobj : cellB.vm.isStatics = false) (hcls : s.vm.findClass C = some cellB.cls)
    {g : JFrame} (hg : g.method = m) (hsize : g.locals.size = c.maxLocals) {argsL rest : List Value} (hlen : ∀ sig, parseMethodDescriptor y.desc = some sig → argsL.length = sig.parameters.length)
    (hstack : g.stack = argsL.reverse ++ .ref b :: rest) (hW : 2 * g.monitorRoom + (rest.map fun v => v.category).sum ≤ W9) (hdg : decode c.code g.pc = .ok (.invokevirtual index, 3))
    (hpre : ∀ vm₁, s.WarmedH vm₁ → Pre ⟨T.setVm vm₁, locs, cells, slots⟩ (Value.ref b :: argsL).toArray) :
    ∃ (v : Option Value) (vm₁ : Vm) (B : Pt), s.WarmedH vm₁ ∧ Stand p l e R s m args below meth c B.U B.locs B.cells B.slots ∧ Post ⟨T.setVm vm₁, locs, cells, slots⟩ (Value.ref b :: argsL).toArray v B ∧
      ∀ target, Steps p.tables e below (B.U.setTop { g with pc := g.pc + 3, stack := v.toList ++ rest }) target → Steps p.tables e below (T.setTop g) target := by
  obtain ⟨mk, methM, hnamed, hmethM, hstM, habM⟩ := Cond.instanceMethod_spec hinst
  obtain ⟨m8, methM', cM, hn8, hmethM', -, -, -, -, -, -, hsigM⟩ := Cond.codeWith_spec hcode
  cases Option.some.inj (hn8.symm.trans hnamed)
  cases hmethM.symm.trans hmethM'
  obtain ⟨c2, r2, m2, q1, q2, q3, q4, kP, hkP, hkPi⟩ := Cond.selects_spec hsel
  cases hcls.symm.trans q1
  cases (State.methodFound?_of_named hnamed hy).symm.trans q2
  cases hnamed.symm.trans q3
  have hselP : selectMethod e.platform s.vm cellB.cls mk = .method mk := by rw [Launch.admits_selectMethod X.admits]; exact q4
  obtain ⟨vm₁, X₁, hstep₁⟩ := X.invokevirtual hexec hown hlink hnamed hmethM hstM hkP hkPi hy (a := b) (cell := cellB) hcell
    (fun z h => by rw [h] at hobj; cases hobj) hselP hmethM habM hkP hkPi (g := g) hg (argsL := argsL) (rest := rest) (hlen _ hsigM) hstack hdg
  obtain ⟨v, B, X', hpost, hsteps⟩ := hK m meth c ⟨T.setVm vm₁, locs, cells, slots⟩ { g with stack := rest } (.invokevirtual index) mk (Value.ref b :: argsL).toArray X₁ hg hsize hdg hW (X₁.named hnamed) (hpre vm₁ X₁.warmed)
  exact ⟨v, vm₁, B, X₁.warmed, X', hpost, fun target h => hstep₁ _ fun acts => by rw [doInvoke_state]; exact hsteps.trans h⟩
abbrev vx_CVW (R : Room) (s : State) (args : Array Value) (own C : String) (index : Nat) (y : MethodName) (bytes : ByteArray) (maxL : Nat) (ret : Option FieldType) (hh : List (Nat × Nat × Nat × Nat)) (ws : List Cond) (rm : Room) (mc ms n : Nat) : Prop :=
  (rm.cells = mc ∧ rm.slots = ms ∧ rm.frames + 1 ≤ R.frames ∧ 8 + (maxL + 11) + rm.locals ≤ R.locals ∧ (∀ w ∈ ws, ∀ (a' : Array Value) (U : State), s.WarmedH U.vm → w.before a' U = true) ∧ Cond.codeWith y bytes maxL ret hh ∈ ws) ∧
  (Cond.codeWith y bytes maxL ret hh).before args s = true ∧ (Cond.initialized y.cls).before args s = true ∧ (y.cls ≠ "java/lang/invoke/MethodHandle" ∧ y.cls ≠ "java/lang/invoke/VarHandle") ∧
  (∀ sig, parseMethodDescriptor y.desc = some sig → n = sig.parameters.length) ∧ (Cond.methodLink own index y).before args s = true ∧ (Cond.instanceMethod y).before args s = true ∧ (Cond.selects C y y).before args s = true
theorem vx_cwVW {own C : String} {index maxL mc ms : Nat} {y : MethodName} {bytes : ByteArray} {ret : Option FieldType} {hh : List (Nat × Nat × Nat × Nat)} {Ts ws ws' : List Cond} {rm : Room} (n : Nat) (ht : ∀ w ∈ Ts, w.before args s = true) (hT : GoodIn Ts (wsV own index C y ws)) (hw : ws = Cond.codeWith y bytes maxL ret hh :: ws') (hrc : rm.cells = mc) (hrs : rm.slots = ms)
    (hd : y.cls = C ∧ y.cls ≠ "java/lang/invoke/MethodHandle" ∧ y.cls ≠ "java/lang/invoke/VarHandle" ∧ (parseMethodDescriptor y.desc).map (fun d => d.parameters.length) = some n) (hR : rm.frames + 1 ≤ R.frames ∧ 8 + (maxL + 11) + rm.locals ≤ R.locals) :
    vx_CVW R s args own C index y bytes maxL ret hh ws rm mc ms n := by
  obtain ⟨hC, hd⟩ := hd
  subst hC
  have ok : ∀ w ∈ wsV own index y.cls y ws, w.before args s = true := fun w h => ht w (hT w h).1
  have hG : GoodIn Ts ws := fun w h => hT w (by unfold wsV; exact List.mem_append_right _ h)
  have hc : Cond.codeWith y bytes maxL ret hh ∈ ws := by rw [hw]; exact List.mem_cons_self
  refine ⟨⟨hrc, hrs, hR.1, hR.2, pay_in ht hG, hc⟩, ht _ (hG _ hc).1, ok _ (by simp [wsV]), ⟨hd.1, hd.2.1⟩, fun sig h => ?_, ok _ (by simp [wsV]), ok _ (by simp [wsV]), ok _ (by simp [wsV])⟩
  have h2 := hd.2.2
  rw [h] at h2
  exact (Option.some.inj h2).symm
theorem vx_runVW {y : MethodName} {bytes cc : ByteArray} {maxL nL mc ms n index : Nat} {ret : Option FieldType} {hh : List (Nat × Nat × Nat × Nat)} {ws : List Cond} {rm : Room} {Pc : Array Value → State → Prop} {Qc : Array Value → State → Outcome → State → Prop} {free : Addr → Prop} {Ts : List Cond} {own C : String} {b : Addr} {As rest : List Value} {g : JFrame}
    (S : CallFix p m c cc nL s args Ts own) (hM : Met l y ws rm Pc Qc mc ms free) (cw : vx_CVW R s args own C index y bytes maxL ret hh ws rm mc ms n) (hp : PreV s H C b Pc As)
    (hg : g.method = m) (hn : As.length = n) (hsize : g.locals.size = nL) (hstack : g.stack = As.reverse ++ .ref b :: rest) (hW : 2 * g.monitorRoom + (rest.map fun v => v.category).sum ≤ 8) (hdg : decode cc g.pc = .ok (.invokevirtual index, 3)) (hf : cells + mc ≤ R.cells ∧ slots + ms ≤ R.slots) :
    va_Run p l e R s m args below meth c H locs cells slots mc ms g rest (Qc (Value.ref b :: As).toArray) free := by
  obtain ⟨⟨hrc, hrs, hfr, hlo, hws, hcw⟩, hcode, hini, hy, hlen, hl, hin, hse⟩ := cw
  have hK : Back l R p e below s args y 3 8 (PreOf R mc ms Pc) (PostOf Qc mc ms free) := va_backW (hh := hh) (bytes := bytes) (maxL := maxL) (ret := ret) hM hp.1 hrc hrs hfr hlo hws hcw (fun a' U hW => word_at hW (Or.inl (by first | rfl | simp [Cond.onTables, Cond.keeps, Cond.steady])) hini)
  obtain ⟨hx, hb, hml, ho, -⟩ := S
  obtain ⟨-, ⟨cellB, hcB, hoB, hclB⟩, hPc⟩ := hp
  intro T hT X
  obtain ⟨v, vm₁, ⟨U', l2, c2, s2⟩, hW₁, X', ⟨g', mk, t, L, e1, e2, hq, h1, hL, h2, h3⟩, st⟩ := vx_callVW X hx (C := C) (hh := hh) (bytes := bytes) (maxL := maxL) (ret := ret) ho hl hin hse hcode hy hK (by rw [hT]; exact hcB) hoB hclB hg (hsize.trans hml.symm) (argsL := As) (rest := rest) (fun sig h => hn.trans (hlen sig h)) hstack hW (by rw [hb]; exact hdg)
    (fun vm₁ hW₁ => ⟨hf.1, hf.2, hPc (T.setVm vm₁) hT hW₁⟩)
  dsimp only [Pt.U, Pt.locs, Pt.cells, Pt.slots] at X' e1 e2 h1 h2 h3 st
  subst h1; subst h2; subst h3
  exact ⟨v, (T.setVm vm₁).calling g' mk (Value.ref b :: As).toArray, t, U', L, hT, X', hL, e1, e2, hq, st⟩
section
variable {y : MethodName} {bytes cc : ByteArray} {maxL nL mc ms n index : Nat} {ret : Option FieldType} {ws : List Cond} {rm : Room} {Pc : Array Value → State → Prop} {Qc : Array Value → State → Outcome → State → Prop} {XC : String → State → State → Prop} {free : Addr → Prop} {Ts : List Cond} {own C : String} {b : Addr} {As rest : List Value} {g : JFrame}
theorem vx_runVX {hh : List (Nat × Nat × Nat × Nat)} (S : CallFix p m c cc nL s args Ts own) (hM : vx_Met l y ws rm Pc Qc XC mc ms free) (cw : vx_CVW R s args own C index y bytes maxL ret hh ws rm mc ms n) (hp : PreV s H C b Pc As)
    (hg : g.method = m) (hn : As.length = n) (hsize : g.locals.size = nL) (hstack : g.stack = As.reverse ++ .ref b :: rest) (hW : 2 * g.monitorRoom + (rest.map fun v => v.category).sum ≤ 8) (hdg : decode cc g.pc = .ok (.invokevirtual index, 3)) (hf : cells + mc ≤ R.cells ∧ slots + ms ≤ R.slots) :
    vx_Run p l e R s m args below meth c H locs cells slots mc ms g rest (Qc (Value.ref b :: As).toArray) XC free := by
  obtain ⟨⟨hrc, hrs, hfr, hlo, hws, hcw⟩, hcode, hini, hy, hlen, hl, hin, hse⟩ := cw
  have hK : vx_Back l R p e below s args y 3 8 (PreOf R mc ms Pc) (PostOf Qc mc ms free) (vx_Post XC mc ms free) := vx_backW (hh := hh) (bytes := bytes) (maxL := maxL) (ret := ret) hM hp.1 hrc hrs hfr hlo hws hcw (fun a' U hW => word_at hW (Or.inl (by first | rfl | simp [Cond.onTables, Cond.keeps, Cond.steady])) hini)
  obtain ⟨hx, hb, hml, ho, -⟩ := S
  obtain ⟨-, ⟨cellB, hcB, hoB, hclB⟩, hPc⟩ := hp
  intro T hT X
  rcases vx_callVX X hx (C := C) (hh := hh) (bytes := bytes) (maxL := maxL) (ret := ret) ho hl hin hse hcode hy hK (by rw [hT]; exact hcB) hoB hclB hg (hsize.trans hml.symm) (argsL := As) (rest := rest) (fun sig h => hn.trans (hlen sig h)) hstack hW (by rw [hb]; exact hdg)
    (fun vm₁ hW₁ => ⟨hf.1, hf.2, hPc (T.setVm vm₁) hT hW₁⟩) with ⟨v, vm₁, ⟨U', l2, c2, s2⟩, hW₁, X', ⟨g', mk, t, L, e1, e2, hq, h1, hL, h2, h3⟩, st⟩ | ⟨q, vm₁, ⟨U', l2, c2, s2⟩, hW₁, X', ⟨g', mk, t, L, E, ce, e1, e2, hq, hce, hcv, hcl, h1, hL, h2, h3⟩, st⟩
  · dsimp only [Pt.U, Pt.locs, Pt.cells, Pt.slots] at X' e1 e2 h1 h2 h3 st
    subst h1; subst h2; subst h3
    exact Or.inl ⟨v, (T.setVm vm₁).calling g' mk (Value.ref b :: As).toArray, t, U', L, hT, X', hL, e1, e2, hq, st⟩
  · dsimp only [Pt.U, Pt.locs, Pt.cells, Pt.slots] at X' e1 e2 h1 h2 h3 st hcl
    subst h1; subst h2; subst h3
    exact Or.inr ⟨q, (T.setVm vm₁).calling g' mk (Value.ref b :: As).toArray, t, U', L, E, ce, hT, X', hL, e1, e2, hq, hce, hcv, vx_cls hW₁ hcl, st⟩
theorem vx_runSX {hh : List (Nat × Nat × Nat × Nat)} (S : CallFix p m c cc nL s args Ts own) (hM : vx_Met l y ws rm Pc Qc XC mc ms free) (cw : vx_CSW R s args own index y bytes maxL ret hh ws rm mc ms n) (hp : PreS s H Pc As)
    (hg : g.method = m) (hn : As.length = n) (hsize : g.locals.size = nL) (hstack : g.stack = As.reverse ++ rest) (hW : 2 * g.monitorRoom + (rest.map fun v => v.category).sum ≤ 8) (hdg : decode cc g.pc = .ok (.invokestatic index, 3)) (hf : cells + mc ≤ R.cells ∧ slots + ms ≤ R.slots) :
    vx_Run p l e R s m args below meth c H locs cells slots mc ms g rest (Qc As.toArray) XC free := by
  obtain ⟨⟨hrc, hrs, hfr, hlo, hws, hcw⟩, hcode, hini, hy, hlen, hl, hstt⟩ := cw
  have hK : vx_Back l R p e below s args y 3 8 (PreOf R mc ms Pc) (PostOf Qc mc ms free) (vx_Post XC mc ms free) := vx_backW (hh := hh) (bytes := bytes) (maxL := maxL) (ret := ret) hM hp.1 hrc hrs hfr hlo hws hcw (fun a' U hW => word_at hW (Or.inl (by first | rfl | simp [Cond.onTables, Cond.keeps, Cond.steady])) hini)
  obtain ⟨hx, hb, hml, ho, -⟩ := S
  intro T hT X
  rcases vx_callSX X hx (hh := hh) (bytes := bytes) (maxL := maxL) (ret := ret) ho hl hstt hini hcode hy hK hg (hsize.trans hml.symm) (argsL := As) (rest := rest) (fun sig h => hn.trans (hlen sig h)) hstack hW (by rw [hb]; exact hdg)
    (fun vm₁ hW₁ => ⟨hf.1, hf.2, hp.2 (T.setVm vm₁) hT hW₁⟩) with ⟨v, vm₁, ⟨U', l2, c2, s2⟩, hW₁, X', ⟨g', mk, t, L, e1, e2, hq, h1, hL, h2, h3⟩, st⟩ | ⟨q, vm₁, ⟨U', l2, c2, s2⟩, hW₁, X', ⟨g', mk, t, L, E, ce, e1, e2, hq, hce, hcv, hcl, h1, hL, h2, h3⟩, st⟩
  · dsimp only [Pt.U, Pt.locs, Pt.cells, Pt.slots] at X' e1 e2 h1 h2 h3 st
    subst h1; subst h2; subst h3
    exact Or.inl ⟨v, (T.setVm vm₁).calling g' mk As.toArray, t, U', L, hT, X', hL, e1, e2, hq, st⟩
  · dsimp only [Pt.U, Pt.locs, Pt.cells, Pt.slots] at X' e1 e2 h1 h2 h3 st hcl
    subst h1; subst h2; subst h3
    exact Or.inr ⟨q, (T.setVm vm₁).calling g' mk As.toArray, t, U', L, E, ce, hT, X', hL, e1, e2, hq, hce, hcv, vx_cls hW₁ hcl, st⟩
end
end VXH
theorem vx_ofWH {l : Launch} {y : MethodName} {ws ws' : List Cond} {rm : Room} {Pc : Array Value → State → Prop} {Qc : Array Value → State → Outcome → State → Prop} {XC : String → State → State → Prop} {mc ms : Nat} {free : Addr → Prop} {cc : ByteArray} {maxL : Nat} {ret : Option FieldType} {hh : List (Nat × Nat × Nat × Nat)}
    (hy : plainName y.cls = true) (hw : ws = Cond.codeWith y cc maxL ret hh :: ws')
    (body : ∀ p e s m args below meth c s₁, BodyLoose p l y (headSpec ws rm) cc maxL ret e s m args below meth c s₁ → c.maxLocals = maxL → Pc args s →
      W p l e (headSpec ws rm).room s m args below meth c s.heap [] 0 0 (vx_MQ below Qc XC args s mc ms free) (entryFrame m args maxL)) : vx_Met l y ws rm Pc Qc XC mc ms free := by
  refine MetFree.of_bodyS (code := cc) (maxLocals := maxL) (ret := ret) hy ?_ ?_
  · intro args s m h hn
    obtain ⟨m9, meth, c, hn9, h1, h2, h3, h4, -, h5, h6, -⟩ := Cond.codeWith_spec (atoms_spec (ws := ws) h _ (by rw [hw]; exact List.mem_cons_self))
    cases hn.symm.trans hn9
    exact ⟨meth, c, h1, h2, h3, h4, h5, h6⟩
  · intro p e s m args below meth c s₁ B hml hP _
    have hh0 : s₁.heap = s.heap := by rw [B.state]; rfl
    obtain ⟨t, a1, o, b1, b2, b3⟩ := body p e s m args below meth c s₁ B hml hP s₁ hh0 (Stand.of_body B)
    exact ⟨t, o, a1, b1, b2, b3⟩
/-! ===== END ===== -/
end
section
/-! ===== BEGIN printed: names, fields, word lists, decode rows ===== -/
def RX0 : String := "Castdesk$Camera"
def TX0 : u_T := fun k => match k with
  | 0 => ("Castdesk$Camera", "stamina", "I", true)
  | 1 => ("Castdesk$Camera", "rest", "I", true)
  | 2 => ("Castdesk$Camera", "onAir", "I", false)
  | _ => ("Castdesk$Camera", "toBeOff", "I", false)
def tyX0 : Nat → FieldType := fun k => match k with
  | 0 => .int
  | 1 => .int
  | 2 => .int
  | _ => .int
abbrev wsX00 : List Cond := u_ws RX0 TX0 4
theorem nmX0 : ∀ a, a < 4 → ∀ b, b < 4 → a ≠ b → (TX0 a).2.1 ≠ (TX0 b).2.1 := by decide +kernel
theorem tyX0_ok : ∀ k, k < 4 → parseFieldDescriptor (TX0 k).2.2.1 = some (tyX0 k) := by decide +kernel
abbrev cX0_init : ByteArray := prog_2_method_1_code
def yX0_init : MethodName := ⟨RX0, "<init>", "(II)V"⟩
abbrev cX0_passOnAir : ByteArray := prog_2_method_2_code
def yX0_passOnAir : MethodName := ⟨RX0, "passOnAir", "()V"⟩
abbrev cX0_passOff : ByteArray := prog_2_method_3_code
def yX0_passOff : MethodName := ⟨RX0, "passOff", "()V"⟩
def RX1 : String := "Castdesk$Entry"
def TX1 : u_T := fun k => match k with
  | 0 => ("Castdesk$Entry", "fight", "LCastdesk$Fight;", true)
  | 1 => ("Castdesk$Entry", "player", "I", true)
  | 2 => ("Castdesk$Entry", "frame", "I", true)
  | 3 => ("Castdesk$Entry", "points", "I", false)
  | _ => ("Castdesk$Entry", "struck", "Z", false)
def tyX1 : Nat → FieldType := fun k => match k with
  | 0 => .object "Castdesk$Fight"
  | 1 => .int
  | 2 => .int
  | 3 => .int
  | _ => .boolean
abbrev wsX10 : List Cond := u_ws RX1 TX1 5
theorem nmX1 : ∀ a, a < 5 → ∀ b, b < 5 → a ≠ b → (TX1 a).2.1 ≠ (TX1 b).2.1 := by decide +kernel
theorem tyX1_ok : ∀ k, k < 5 → parseFieldDescriptor (TX1 k).2.2.1 = some (tyX1 k) := by decide +kernel
abbrev cX1_init : ByteArray := prog_3_method_1_code
def yX1_init : MethodName := ⟨RX1, "<init>", "(LCastdesk$Fight;III)V"⟩
abbrev cX1_canBeCorrected : ByteArray := prog_3_method_2_code
def yX1_canBeCorrected : MethodName := ⟨RX1, "canBeCorrected", "()Z"⟩
def RX2 : String := "Castdesk$Fight"
def TX2 : u_T := fun k => match k with
  | 0 => ("Castdesk$Fight", "number", "I", true)
  | 1 => ("Castdesk$Fight", "first", "I", true)
  | 2 => ("Castdesk$Fight", "second", "I", true)
  | 3 => ("Castdesk$Fight", "state", "I", false)
  | 4 => ("Castdesk$Fight", "winner", "I", false)
  | 5 => ("Castdesk$Fight", "framesShown", "I", false)
  | _ => ("Castdesk$Fight", "blowFrames", "I", false)
def tyX2 : Nat → FieldType := fun k => match k with
  | 0 => .int
  | 1 => .int
  | 2 => .int
  | 3 => .int
  | 4 => .int
  | 5 => .int
  | _ => .int
abbrev wsX20 : List Cond := u_ws RX2 TX2 7
theorem nmX2 : ∀ a, a < 7 → ∀ b, b < 7 → a ≠ b → (TX2 a).2.1 ≠ (TX2 b).2.1 := by decide +kernel
theorem tyX2_ok : ∀ k, k < 7 → parseFieldDescriptor (TX2 k).2.2.1 = some (tyX2 k) := by decide +kernel
abbrev cX2_init : ByteArray := prog_4_method_1_code
def yX2_init : MethodName := ⟨RX2, "<init>", "(III)V"⟩
abbrev cX2_isOf : ByteArray := prog_4_method_2_code
def yX2_isOf : MethodName := ⟨RX2, "isOf", "(I)Z"⟩
abbrev cX2_heatUp : ByteArray := prog_4_method_3_code
def yX2_heatUp : MethodName := ⟨RX2, "heatUp", "()V"⟩
abbrev cX2_heatOfBlows : ByteArray := prog_4_method_4_code
def yX2_heatOfBlows : MethodName := ⟨RX2, "heatOfBlows", "()I"⟩
abbrev cX2_letFramePass : ByteArray := prog_4_method_5_code
def yX2_letFramePass : MethodName := ⟨RX2, "letFramePass", "()V"⟩
def RX3 : String := "Castdesk"
def TX3 : u_T := fun k => match k with
  | 0 => ("Castdesk", "ranks", "[I", true)
  | 1 => ("Castdesk", "wins", "[I", true)
  | 2 => ("Castdesk", "fights", "Ljava/util/ArrayList;", true)
  | 3 => ("Castdesk", "cameras", "Ljava/util/ArrayList;", true)
  | 4 => ("Castdesk", "entries", "Ljava/util/ArrayList;", true)
  | 5 => ("Castdesk", "promised", "[I", true)
  | 6 => ("Castdesk", "countedFrames", "[I", true)
  | 7 => ("Castdesk", "slotPlayers", "[I", true)
  | 8 => ("Castdesk", "slots", "I", false)
  | 9 => ("Castdesk", "now", "I", false)
  | 10 => ("Castdesk", "delayFrames", "I", false)
  | 11 => ("Castdesk", "seenUpTo", "I", false)
  | 12 => ("Castdesk", "shownFight", "[I", true)
  | 13 => ("Castdesk", "shownCamera", "[I", true)
  | _ => ("Castdesk", "shownSponsor", "[I", true)
def tyX3 : Nat → FieldType := fun k => match k with
  | 0 => .array .int
  | 1 => .array .int
  | 2 => .object "java/util/ArrayList"
  | 3 => .object "java/util/ArrayList"
  | 4 => .object "java/util/ArrayList"
  | 5 => .array .int
  | 6 => .array .int
  | 7 => .array .int
  | 8 => .int
  | 9 => .int
  | 10 => .int
  | 11 => .int
  | 12 => .array .int
  | 13 => .array .int
  | _ => .array .int
abbrev wsX30 : List Cond := u_ws RX3 TX3 15
theorem nmX3 : ∀ a, a < 15 → ∀ b, b < 15 → a ≠ b → (TX3 a).2.1 ≠ (TX3 b).2.1 := by decide +kernel
theorem tyX3_ok : ∀ k, k < 15 → parseFieldDescriptor (TX3 k).2.2.1 = some (tyX3 k) := by decide +kernel
abbrev cX3_init : ByteArray := prog_1_method_1_code
def yX3_init : MethodName := ⟨RX3, "<init>", "()V"⟩
abbrev cX3_rank : ByteArray := prog_1_method_2_code
def yX3_rank : MethodName := ⟨RX3, "rank", "(II)I"⟩
abbrev cX3_fight : ByteArray := prog_1_method_3_code
def yX3_fight : MethodName := ⟨RX3, "fight", "(II)I"⟩
abbrev cX3_end : ByteArray := prog_1_method_4_code
def yX3_end : MethodName := ⟨RX3, "end", "(I)I"⟩
abbrev cX3_replay : ByteArray := prog_1_method_5_code
def yX3_replay : MethodName := ⟨RX3, "replay", "(I)I"⟩
abbrev cX3_camera : ByteArray := prog_1_method_6_code
def yX3_camera : MethodName := ⟨RX3, "camera", "(II)I"⟩
abbrev cX3_delay : ByteArray := prog_1_method_7_code
def yX3_delay : MethodName := ⟨RX3, "delay", "(I)I"⟩
abbrev cX3_pass : ByteArray := prog_1_method_8_code
def yX3_pass : MethodName := ⟨RX3, "pass", "(I)I"⟩
abbrev cX3_blow : ByteArray := prog_1_method_9_code
def yX3_blow : MethodName := ⟨RX3, "blow", "(III)I"⟩
abbrev cX3_strike : ByteArray := prog_1_method_10_code
def yX3_strike : MethodName := ⟨RX3, "strike", "(I)I"⟩
abbrev cX3_mend : ByteArray := prog_1_method_11_code
def yX3_mend : MethodName := ⟨RX3, "mend", "(II)I"⟩
abbrev cX3_promise : ByteArray := prog_1_method_12_code
def yX3_promise : MethodName := ⟨RX3, "promise", "(II)I"⟩
abbrev cX3_slot : ByteArray := prog_1_method_13_code
def yX3_slot : MethodName := ⟨RX3, "slot", "(II)I"⟩
abbrev cX3_frame : ByteArray := prog_1_method_14_code
def yX3_frame : MethodName := ⟨RX3, "frame", "()I"⟩
abbrev cX3_shown : ByteArray := prog_1_method_15_code
def yX3_shown : MethodName := ⟨RX3, "shown", "(II)I"⟩
abbrev cX3_seen : ByteArray := prog_1_method_16_code
def yX3_seen : MethodName := ⟨RX3, "seen", "()I"⟩
abbrev cX3_points : ByteArray := prog_1_method_17_code
def yX3_points : MethodName := ⟨RX3, "points", "(II)I"⟩
abbrev cX3_overlay : ByteArray := prog_1_method_18_code
def yX3_overlay : MethodName := ⟨RX3, "overlay", "(II)I"⟩
abbrev cX3_fightOf : ByteArray := prog_1_method_19_code
def yX3_fightOf : MethodName := ⟨RX3, "fightOf", "(II)I"⟩
abbrev cX3_cameraOf : ByteArray := prog_1_method_20_code
def yX3_cameraOf : MethodName := ⟨RX3, "cameraOf", "(II)I"⟩
abbrev cX3_counted : ByteArray := prog_1_method_21_code
def yX3_counted : MethodName := ⟨RX3, "counted", "(I)I"⟩
abbrev cX3_countedAnew : ByteArray := prog_1_method_22_code
def yX3_countedAnew : MethodName := ⟨RX3, "countedAnew", "(I)I"⟩
abbrev cX3_owed : ByteArray := prog_1_method_23_code
def yX3_owed : MethodName := ⟨RX3, "owed", "(I)I"⟩
abbrev cX3_leader : ByteArray := prog_1_method_24_code
def yX3_leader : MethodName := ⟨RX3, "leader", "(I)I"⟩
abbrev cX3_checkPlayer : ByteArray := prog_1_method_25_code
def yX3_checkPlayer : MethodName := ⟨RX3, "checkPlayer", "(I)V"⟩
abbrev cX3_checkSponsor : ByteArray := prog_1_method_26_code
def yX3_checkSponsor : MethodName := ⟨RX3, "checkSponsor", "(I)V"⟩
abbrev cX3_checkRange : ByteArray := prog_1_method_27_code
def yX3_checkRange : MethodName := ⟨RX3, "checkRange", "(III)V"⟩
abbrev cX3_checkGoesOn : ByteArray := prog_1_method_28_code
def yX3_checkGoesOn : MethodName := ⟨RX3, "checkGoesOn", "(LCastdesk$Fight;)V"⟩
abbrev cX3_checkCanBeCorrected : ByteArray := prog_1_method_29_code
def yX3_checkCanBeCorrected : MethodName := ⟨RX3, "checkCanBeCorrected", "(LCastdesk$Entry;)V"⟩
abbrev cX3_checkCanBegin : ByteArray := prog_1_method_30_code
def yX3_checkCanBegin : MethodName := ⟨RX3, "checkCanBegin", "(II)V"⟩
abbrev cX3_fightNumbered : ByteArray := prog_1_method_31_code
def yX3_fightNumbered : MethodName := ⟨RX3, "fightNumbered", "(I)LCastdesk$Fight;"⟩
abbrev cX3_entryNumbered : ByteArray := prog_1_method_32_code
def yX3_entryNumbered : MethodName := ⟨RX3, "entryNumbered", "(I)LCastdesk$Entry;"⟩
abbrev cX3_begin : ByteArray := prog_1_method_33_code
def yX3_begin : MethodName := ⟨RX3, "begin", "(II)I"⟩
abbrev cX3_pointsUpTo : ByteArray := prog_1_method_34_code
def yX3_pointsUpTo : MethodName := ⟨RX3, "pointsUpTo", "(ILCastdesk$Fight;I)I"⟩
abbrev cX3_strikeAllOf : ByteArray := prog_1_method_35_code
def yX3_strikeAllOf : MethodName := ⟨RX3, "strikeAllOf", "(LCastdesk$Fight;)V"⟩
abbrev cX3_uncountFramesOf : ByteArray := prog_1_method_36_code
def yX3_uncountFramesOf : MethodName := ⟨RX3, "uncountFramesOf", "(LCastdesk$Fight;)V"⟩
abbrev cX3_placeOf : ByteArray := prog_1_method_37_code
def yX3_placeOf : MethodName := ⟨RX3, "placeOf", "(I)I"⟩
abbrev cX3_passOne : ByteArray := prog_1_method_38_code
def yX3_passOne : MethodName := ⟨RX3, "passOne", "()V"⟩
abbrev cX3_hottestFight : ByteArray := prog_1_method_39_code
def yX3_hottestFight : MethodName := ⟨RX3, "hottestFight", "()LCastdesk$Fight;"⟩
abbrev cX3_heatOf : ByteArray := prog_1_method_40_code
def yX3_heatOf : MethodName := ⟨RX3, "heatOf", "(LCastdesk$Fight;)I"⟩
abbrev cX3_cameraForAir : ByteArray := prog_1_method_41_code
def yX3_cameraForAir : MethodName := ⟨RX3, "cameraForAir", "()I"⟩
abbrev cX3_canBeOnAir : ByteArray := prog_1_method_42_code
def yX3_canBeOnAir : MethodName := ⟨RX3, "canBeOnAir", "(I)Z"⟩
abbrev cX3_ofFrameAhead : ByteArray := prog_1_method_43_code
def yX3_ofFrameAhead : MethodName := ⟨RX3, "ofFrameAhead", "([I)I"⟩
abbrev cX3_showFight : ByteArray := prog_1_method_44_code
def yX3_showFight : MethodName := ⟨RX3, "showFight", "(LCastdesk$Fight;)V"⟩
abbrev cX3_sponsorOwedMost : ByteArray := prog_1_method_45_code
def yX3_sponsorOwedMost : MethodName := ⟨RX3, "sponsorOwedMost", "(LCastdesk$Fight;)I"⟩
abbrev cX3_owedTo : ByteArray := prog_1_method_46_code
def yX3_owedTo : MethodName := ⟨RX3, "owedTo", "(I)I"⟩
abbrev cX3_letCamerasPass : ByteArray := prog_1_method_47_code
def yX3_letCamerasPass : MethodName := ⟨RX3, "letCamerasPass", "(I)V"⟩
abbrev cX3_letViewersSee : ByteArray := prog_1_method_48_code
def yX3_letViewersSee : MethodName := ⟨RX3, "letViewersSee", "()V"⟩
def RX4 : String := "CastdeskModel"
def TX4 : u_T := fun k => match k with
  | 0 => ("CastdeskModel", "thrown", "I", false)
  | 1 => ("CastdeskModel", "now", "I", false)
  | 2 => ("CastdeskModel", "delay", "I", false)
  | 3 => ("CastdeskModel", "seen", "I", false)
  | 4 => ("CastdeskModel", "ranks", "[I", true)
  | 5 => ("CastdeskModel", "fights", "I", false)
  | 6 => ("CastdeskModel", "state", "[I", true)
  | 7 => ("CastdeskModel", "first", "[I", true)
  | 8 => ("CastdeskModel", "second", "[I", true)
  | 9 => ("CastdeskModel", "winner", "[I", true)
  | 10 => ("CastdeskModel", "cameras", "I", false)
  | 11 => ("CastdeskModel", "stamina", "[I", true)
  | 12 => ("CastdeskModel", "rest", "[I", true)
  | 13 => ("CastdeskModel", "inRow", "[I", true)
  | 14 => ("CastdeskModel", "off", "[I", true)
  | 15 => ("CastdeskModel", "onAir", "I", false)
  | 16 => ("CastdeskModel", "before", "I", false)
  | 17 => ("CastdeskModel", "fightIn", "[I", true)
  | 18 => ("CastdeskModel", "cameraIn", "[I", true)
  | 19 => ("CastdeskModel", "sponsorIn", "[I", true)
  | 20 => ("CastdeskModel", "entries", "I", false)
  | 21 => ("CastdeskModel", "of", "[I", true)
  | 22 => ("CastdeskModel", "by", "[I", true)
  | 23 => ("CastdeskModel", "points", "[I", true)
  | 24 => ("CastdeskModel", "at", "[I", true)
  | 25 => ("CastdeskModel", "isStruck", "[Z", true)
  | 26 => ("CastdeskModel", "promises", "[I", true)
  | 27 => ("CastdeskModel", "hasSlot", "[Z", true)
  | _ => ("CastdeskModel", "slots", "I", false)
def tyX4 : Nat → FieldType := fun k => match k with
  | 0 => .int
  | 1 => .int
  | 2 => .int
  | 3 => .int
  | 4 => .array .int
  | 5 => .int
  | 6 => .array .int
  | 7 => .array .int
  | 8 => .array .int
  | 9 => .array .int
  | 10 => .int
  | 11 => .array .int
  | 12 => .array .int
  | 13 => .array .int
  | 14 => .array .int
  | 15 => .int
  | 16 => .int
  | 17 => .array .int
  | 18 => .array .int
  | 19 => .array .int
  | 20 => .int
  | 21 => .array .int
  | 22 => .array .int
  | 23 => .array .int
  | 24 => .array .int
  | 25 => .array .boolean
  | 26 => .array .int
  | 27 => .array .boolean
  | _ => .int
abbrev wsX40 : List Cond := u_ws RX4 TX4 29
theorem nmX4 : ∀ a, a < 29 → ∀ b, b < 29 → a ≠ b → (TX4 a).2.1 ≠ (TX4 b).2.1 := by decide +kernel
theorem tyX4_ok : ∀ k, k < 29 → parseFieldDescriptor (TX4 k).2.2.1 = some (tyX4 k) := by decide +kernel
abbrev cX4_init : ByteArray := prog_6_method_1_code
def yX4_init : MethodName := ⟨RX4, "<init>", "()V"⟩
abbrev cX4_thrown : ByteArray := prog_6_method_2_code
def yX4_thrown : MethodName := ⟨RX4, "thrown", "()I"⟩
abbrev cX4_in : ByteArray := prog_6_method_3_code
def yX4_in : MethodName := ⟨RX4, "in", "(III)Z"⟩
abbrev cX4_refused : ByteArray := prog_6_method_4_code
def yX4_refused : MethodName := ⟨RX4, "refused", "(I)Z"⟩
abbrev cX4_isPlayer : ByteArray := prog_6_method_5_code
def yX4_isPlayer : MethodName := ⟨RX4, "isPlayer", "(I)Z"⟩
abbrev cX4_isFight : ByteArray := prog_6_method_6_code
def yX4_isFight : MethodName := ⟨RX4, "isFight", "(I)Z"⟩
abbrev cX4_isSponsor : ByteArray := prog_6_method_7_code
def yX4_isSponsor : MethodName := ⟨RX4, "isSponsor", "(I)Z"⟩
abbrev cX4_rank : ByteArray := prog_6_method_8_code
def yX4_rank : MethodName := ⟨RX4, "rank", "(II)I"⟩
abbrev cX4_isBusy : ByteArray := prog_6_method_9_code
def yX4_isBusy : MethodName := ⟨RX4, "isBusy", "(I)Z"⟩
abbrev cX4_begin : ByteArray := prog_6_method_10_code
def yX4_begin : MethodName := ⟨RX4, "begin", "(II)I"⟩
abbrev cX4_fight : ByteArray := prog_6_method_11_code
def yX4_fight : MethodName := ⟨RX4, "fight", "(II)I"⟩
abbrev cX4_end : ByteArray := prog_6_method_12_code
def yX4_end : MethodName := ⟨RX4, "end", "(I)I"⟩
abbrev cX4_replay : ByteArray := prog_6_method_13_code
def yX4_replay : MethodName := ⟨RX4, "replay", "(I)I"⟩
abbrev cX4_camera : ByteArray := prog_6_method_14_code
def yX4_camera : MethodName := ⟨RX4, "camera", "(II)I"⟩
abbrev cX4_see : ByteArray := prog_6_method_15_code
def yX4_see : MethodName := ⟨RX4, "see", "()V"⟩
abbrev cX4_delay : ByteArray := prog_6_method_16_code
def yX4_delay : MethodName := ⟨RX4, "delay", "(I)I"⟩
abbrev cX4_heat : ByteArray := prog_6_method_17_code
def yX4_heat : MethodName := ⟨RX4, "heat", "(I)I"⟩
abbrev cX4_hottest : ByteArray := prog_6_method_18_code
def yX4_hottest : MethodName := ⟨RX4, "hottest", "()I"⟩
abbrev cX4_chosen : ByteArray := prog_6_method_19_code
def yX4_chosen : MethodName := ⟨RX4, "chosen", "()I"⟩
abbrev cX4_sponsorFor : ByteArray := prog_6_method_20_code
def yX4_sponsorFor : MethodName := ⟨RX4, "sponsorFor", "(I)I"⟩
abbrev cX4_passes : ByteArray := prog_6_method_21_code
def yX4_passes : MethodName := ⟨RX4, "passes", "()V"⟩
abbrev cX4_pass : ByteArray := prog_6_method_22_code
def yX4_pass : MethodName := ⟨RX4, "pass", "(I)I"⟩
abbrev cX4_blow : ByteArray := prog_6_method_23_code
def yX4_blow : MethodName := ⟨RX4, "blow", "(III)I"⟩
abbrev cX4_isEntry : ByteArray := prog_6_method_24_code
def yX4_isEntry : MethodName := ⟨RX4, "isEntry", "(I)Z"⟩
abbrev cX4_isFixed : ByteArray := prog_6_method_25_code
def yX4_isFixed : MethodName := ⟨RX4, "isFixed", "(I)Z"⟩
abbrev cX4_strike : ByteArray := prog_6_method_26_code
def yX4_strike : MethodName := ⟨RX4, "strike", "(I)I"⟩
abbrev cX4_mend : ByteArray := prog_6_method_27_code
def yX4_mend : MethodName := ⟨RX4, "mend", "(II)I"⟩
abbrev cX4_promise : ByteArray := prog_6_method_28_code
def yX4_promise : MethodName := ⟨RX4, "promise", "(II)I"⟩
abbrev cX4_slot : ByteArray := prog_6_method_29_code
def yX4_slot : MethodName := ⟨RX4, "slot", "(II)I"⟩
abbrev cX4_frame : ByteArray := prog_6_method_30_code
def yX4_frame : MethodName := ⟨RX4, "frame", "()I"⟩
abbrev cX4_shown : ByteArray := prog_6_method_31_code
def yX4_shown : MethodName := ⟨RX4, "shown", "(II)I"⟩
abbrev cX4_seen : ByteArray := prog_6_method_32_code
def yX4_seen : MethodName := ⟨RX4, "seen", "()I"⟩
abbrev cX4_pointsOf : ByteArray := prog_6_method_33_code
def yX4_pointsOf : MethodName := ⟨RX4, "pointsOf", "(III)I"⟩
abbrev cX4_points : ByteArray := prog_6_method_34_code
def yX4_points : MethodName := ⟨RX4, "points", "(II)I"⟩
abbrev cX4_overlay : ByteArray := prog_6_method_35_code
def yX4_overlay : MethodName := ⟨RX4, "overlay", "(II)I"⟩
abbrev cX4_fightOf : ByteArray := prog_6_method_36_code
def yX4_fightOf : MethodName := ⟨RX4, "fightOf", "(II)I"⟩
abbrev cX4_cameraOf : ByteArray := prog_6_method_37_code
def yX4_cameraOf : MethodName := ⟨RX4, "cameraOf", "(II)I"⟩
abbrev cX4_countedFor : ByteArray := prog_6_method_38_code
def yX4_countedFor : MethodName := ⟨RX4, "countedFor", "(I)I"⟩
abbrev cX4_owedTo : ByteArray := prog_6_method_39_code
def yX4_owedTo : MethodName := ⟨RX4, "owedTo", "(I)I"⟩
abbrev cX4_counted : ByteArray := prog_6_method_40_code
def yX4_counted : MethodName := ⟨RX4, "counted", "(I)I"⟩
abbrev cX4_countedAnew : ByteArray := prog_6_method_41_code
def yX4_countedAnew : MethodName := ⟨RX4, "countedAnew", "(I)I"⟩
abbrev cX4_owed : ByteArray := prog_6_method_42_code
def yX4_owed : MethodName := ⟨RX4, "owed", "(I)I"⟩
abbrev cX4_wins : ByteArray := prog_6_method_43_code
def yX4_wins : MethodName := ⟨RX4, "wins", "(I)I"⟩
abbrev cX4_leader : ByteArray := prog_6_method_44_code
def yX4_leader : MethodName := ⟨RX4, "leader", "(I)I"⟩
def RJx145de : String := "java/io/Serializable"
def TJx145de : u_T := fun k => match k with
  | _ => ("", "", "", false)
def tyJx145de : Nat → FieldType := fun k => match k with
  | _ => .int
abbrev wsJx145de0 : List Cond := u_ws RJx145de TJx145de 0
theorem nmJx145de : ∀ a, a < 0 → ∀ b, b < 0 → a ≠ b → (TJx145de a).2.1 ≠ (TJx145de b).2.1 := by decide +kernel
theorem tyJx145de_ok : ∀ k, k < 0 → parseFieldDescriptor (TJx145de k).2.2.1 = some (tyJx145de k) := by decide +kernel
def RJx8e188 : String := "java/lang/Cloneable"
def TJx8e188 : u_T := fun k => match k with
  | _ => ("", "", "", false)
def tyJx8e188 : Nat → FieldType := fun k => match k with
  | _ => .int
abbrev wsJx8e1880 : List Cond := u_ws RJx8e188 TJx8e188 0
theorem nmJx8e188 : ∀ a, a < 0 → ∀ b, b < 0 → a ≠ b → (TJx8e188 a).2.1 ≠ (TJx8e188 b).2.1 := by decide +kernel
theorem tyJx8e188_ok : ∀ k, k < 0 → parseFieldDescriptor (TJx8e188 k).2.2.1 = some (tyJx8e188 k) := by decide +kernel
def RJ6 : String := "java/lang/Integer"
def TJ6 : u_T := fun k => match k with
  | _ => ("", "", "", false)
def tyJ6 : Nat → FieldType := fun k => match k with
  | _ => .int
abbrev wsJ60 : List Cond := u_ws RJ6 TJ6 0
theorem nmJ6 : ∀ a, a < 0 → ∀ b, b < 0 → a ≠ b → (TJ6 a).2.1 ≠ (TJ6 b).2.1 := by decide +kernel
theorem tyJ6_ok : ∀ k, k < 0 → parseFieldDescriptor (TJ6 k).2.2.1 = some (tyJ6 k) := by decide +kernel
abbrev cJ6_bitCount_0f7a4 : ByteArray := prog_13_method_49_code
def yJ6_bitCount_0f7a4 : MethodName := ⟨RJ6, "bitCount", "(I)I"⟩
def RJxab1ab : String := "java/lang/Iterable"
def TJxab1ab : u_T := fun k => match k with
  | _ => ("", "", "", false)
def tyJxab1ab : Nat → FieldType := fun k => match k with
  | _ => .int
abbrev wsJxab1ab0 : List Cond := u_ws RJxab1ab TJxab1ab 0
theorem nmJxab1ab : ∀ a, a < 0 → ∀ b, b < 0 → a ≠ b → (TJxab1ab a).2.1 ≠ (TJxab1ab b).2.1 := by decide +kernel
theorem tyJxab1ab_ok : ∀ k, k < 0 → parseFieldDescriptor (TJxab1ab k).2.2.1 = some (tyJxab1ab k) := by decide +kernel
def RJ9 : String := "java/lang/Math"
def TJ9 : u_T := fun k => match k with
  | _ => ("", "", "", false)
def tyJ9 : Nat → FieldType := fun k => match k with
  | _ => .int
abbrev wsJ90 : List Cond := u_ws RJ9 TJ9 0
theorem nmJ9 : ∀ a, a < 0 → ∀ b, b < 0 → a ≠ b → (TJ9 a).2.1 ≠ (TJ9 b).2.1 := by decide +kernel
theorem tyJ9_ok : ∀ k, k < 0 → parseFieldDescriptor (TJ9 k).2.2.1 = some (tyJ9 k) := by decide +kernel
abbrev cJ9_max_7cf53 : ByteArray := prog_15_method_65_code
def yJ9_max_7cf53 : MethodName := ⟨RJ9, "max", "(II)I"⟩
abbrev cJ9_min_7cf53 : ByteArray := prog_15_method_69_code
def yJ9_min_7cf53 : MethodName := ⟨RJ9, "min", "(II)I"⟩
def RJ0 : String := "java/lang/String"
def TJ0 : u_T := fun k => match k with
  | _ => ("", "", "", false)
def tyJ0 : Nat → FieldType := fun k => match k with
  | _ => .int
abbrev wsJ00 : List Cond := u_ws RJ0 TJ0 0
theorem nmJ0 : ∀ a, a < 0 → ∀ b, b < 0 → a ≠ b → (TJ0 a).2.1 ≠ (TJ0 b).2.1 := by decide +kernel
theorem tyJ0_ok : ∀ k, k < 0 → parseFieldDescriptor (TJ0 k).2.2.1 = some (tyJ0 k) := by decide +kernel
def RJ10 : String := "java/lang/System"
def TJ10 : u_T := fun k => match k with
  | _ => ("", "", "", false)
def tyJ10 : Nat → FieldType := fun k => match k with
  | _ => .int
abbrev wsJ100 : List Cond := u_ws RJ10 TJ10 0
theorem nmJ10 : ∀ a, a < 0 → ∀ b, b < 0 → a ≠ b → (TJ10 a).2.1 ≠ (TJ10 b).2.1 := by decide +kernel
theorem tyJ10_ok : ∀ k, k < 0 → parseFieldDescriptor (TJ10 k).2.2.1 = some (tyJ10 k) := by decide +kernel
def RJxa1e45 : String := "java/util/AbstractCollection"
def TJxa1e45 : u_T := fun k => match k with
  | _ => ("", "", "", false)
def tyJxa1e45 : Nat → FieldType := fun k => match k with
  | _ => .int
abbrev wsJxa1e450 : List Cond := u_ws RJxa1e45 TJxa1e45 0
theorem nmJxa1e45 : ∀ a, a < 0 → ∀ b, b < 0 → a ≠ b → (TJxa1e45 a).2.1 ≠ (TJxa1e45 b).2.1 := by decide +kernel
theorem tyJxa1e45_ok : ∀ k, k < 0 → parseFieldDescriptor (TJxa1e45 k).2.2.1 = some (tyJxa1e45 k) := by decide +kernel
abbrev cJxa1e45_init_da8c8 : ByteArray := prog_20_method_1_code
def yJxa1e45_init_da8c8 : MethodName := ⟨RJxa1e45, "<init>", "()V"⟩
def RJxc12de : String := "java/util/AbstractList"
def TJxc12de : u_T := fun k => match k with
  | _ => ("", "", "", false)
def tyJxc12de : Nat → FieldType := fun k => match k with
  | _ => .int
abbrev wsJxc12de0 : List Cond := u_ws RJxc12de TJxc12de 0
theorem nmJxc12de : ∀ a, a < 0 → ∀ b, b < 0 → a ≠ b → (TJxc12de a).2.1 ≠ (TJxc12de b).2.1 := by decide +kernel
theorem tyJxc12de_ok : ∀ k, k < 0 → parseFieldDescriptor (TJxc12de k).2.2.1 = some (tyJxc12de k) := by decide +kernel
abbrev cJxc12de_init_da8c8 : ByteArray := prog_21_method_1_code
def yJxc12de_init_da8c8 : MethodName := ⟨RJxc12de, "<init>", "()V"⟩
def RJx4a65c : String := "java/util/ArrayList"
def TJx4a65c : u_T := fun k => match k with
  | 0 => ("java/util/AbstractList", "modCount", "I", false)
  | 1 => ("java/util/ArrayList", "elementData", "[Ljava/lang/Object;", false)
  | _ => ("java/util/ArrayList", "size", "I", false)
def tyJx4a65c : Nat → FieldType := fun k => match k with
  | 0 => .int
  | 1 => .array (.object "java/lang/Object")
  | _ => .int
abbrev wsJx4a65c0 : List Cond := u_ws RJx4a65c TJx4a65c 3
theorem nmJx4a65c : ∀ a, a < 3 → ∀ b, b < 3 → a ≠ b → (TJx4a65c a).2.1 ≠ (TJx4a65c b).2.1 := by decide +kernel
theorem tyJx4a65c_ok : ∀ k, k < 3 → parseFieldDescriptor (TJx4a65c k).2.2.1 = some (tyJx4a65c k) := by decide +kernel
abbrev cJx4a65c_init_da8c8 : ByteArray := prog_22_method_2_code
def yJx4a65c_init_da8c8 : MethodName := ⟨RJx4a65c, "<init>", "()V"⟩
abbrev cJx4a65c_grow_92f84 : ByteArray := prog_22_method_6_code
def yJx4a65c_grow_92f84 : MethodName := ⟨RJx4a65c, "grow", "(I)[Ljava/lang/Object;"⟩
abbrev cJx4a65c_grow_d5877 : ByteArray := prog_22_method_7_code
def yJx4a65c_grow_d5877 : MethodName := ⟨RJx4a65c, "grow", "()[Ljava/lang/Object;"⟩
abbrev cJx4a65c_size_8abf5 : ByteArray := prog_22_method_8_code
def yJx4a65c_size_8abf5 : MethodName := ⟨RJx4a65c, "size", "()I"⟩
abbrev cJx4a65c_elementData_915e3 : ByteArray := prog_22_method_18_code
def yJx4a65c_elementData_915e3 : MethodName := ⟨RJx4a65c, "elementData", "(I)Ljava/lang/Object;"⟩
abbrev cJx4a65c_get_915e3 : ByteArray := prog_22_method_20_code
def yJx4a65c_get_915e3 : MethodName := ⟨RJx4a65c, "get", "(I)Ljava/lang/Object;"⟩
abbrev cJx4a65c_add_72be8 : ByteArray := prog_22_method_24_code
def yJx4a65c_add_72be8 : MethodName := ⟨RJx4a65c, "add", "(Ljava/lang/Object;[Ljava/lang/Object;I)V"⟩
abbrev cJx4a65c_add_9ea2d : ByteArray := prog_22_method_25_code
def yJx4a65c_add_9ea2d : MethodName := ⟨RJx4a65c, "add", "(Ljava/lang/Object;)Z"⟩
def RJ7 : String := "java/util/Arrays"
def TJ7 : u_T := fun k => match k with
  | _ => ("", "", "", false)
def tyJ7 : Nat → FieldType := fun k => match k with
  | _ => .int
abbrev wsJ70 : List Cond := u_ws RJ7 TJ7 0
theorem nmJ7 : ∀ a, a < 0 → ∀ b, b < 0 → a ≠ b → (TJ7 a).2.1 ≠ (TJ7 b).2.1 := by decide +kernel
theorem tyJ7_ok : ∀ k, k < 0 → parseFieldDescriptor (TJ7 k).2.2.1 = some (tyJ7 k) := by decide +kernel
abbrev cJ7_copyOf_1904c : ByteArray := prog_23_method_119_code
def yJ7_copyOf_1904c : MethodName := ⟨RJ7, "copyOf", "([Ljava/lang/Object;I)[Ljava/lang/Object;"⟩
abbrev cJ7_copyOf_6403c : ByteArray := prog_23_method_120_code
def yJ7_copyOf_6403c : MethodName := ⟨RJ7, "copyOf", "([Ljava/lang/Object;ILjava/lang/Class;)[Ljava/lang/Object;"⟩
def RJx5ef63 : String := "java/util/Collection"
def TJx5ef63 : u_T := fun k => match k with
  | _ => ("", "", "", false)
def tyJx5ef63 : Nat → FieldType := fun k => match k with
  | _ => .int
abbrev wsJx5ef630 : List Cond := u_ws RJx5ef63 TJx5ef63 0
theorem nmJx5ef63 : ∀ a, a < 0 → ∀ b, b < 0 → a ≠ b → (TJx5ef63 a).2.1 ≠ (TJx5ef63 b).2.1 := by decide +kernel
theorem tyJx5ef63_ok : ∀ k, k < 0 → parseFieldDescriptor (TJx5ef63 k).2.2.1 = some (tyJx5ef63 k) := by decide +kernel
def RJxbd725 : String := "java/util/List"
def TJxbd725 : u_T := fun k => match k with
  | _ => ("", "", "", false)
def tyJxbd725 : Nat → FieldType := fun k => match k with
  | _ => .int
abbrev wsJxbd7250 : List Cond := u_ws RJxbd725 TJxbd725 0
theorem nmJxbd725 : ∀ a, a < 0 → ∀ b, b < 0 → a ≠ b → (TJxbd725 a).2.1 ≠ (TJxbd725 b).2.1 := by decide +kernel
theorem tyJxbd725_ok : ∀ k, k < 0 → parseFieldDescriptor (TJxbd725 k).2.2.1 = some (tyJxbd725 k) := by decide +kernel
def RJ15 : String := "java/util/Objects"
def TJ15 : u_T := fun k => match k with
  | _ => ("", "", "", false)
def tyJ15 : Nat → FieldType := fun k => match k with
  | _ => .int
abbrev wsJ150 : List Cond := u_ws RJ15 TJ15 0
theorem nmJ15 : ∀ a, a < 0 → ∀ b, b < 0 → a ≠ b → (TJ15 a).2.1 ≠ (TJ15 b).2.1 := by decide +kernel
theorem tyJ15_ok : ∀ k, k < 0 → parseFieldDescriptor (TJ15 k).2.2.1 = some (tyJ15 k) := by decide +kernel
abbrev cJ15_checkIndex_7cf53 : ByteArray := prog_26_method_17_code
def yJ15_checkIndex_7cf53 : MethodName := ⟨RJ15, "checkIndex", "(II)I"⟩
def RJxf0a74 : String := "java/util/RandomAccess"
def TJxf0a74 : u_T := fun k => match k with
  | _ => ("", "", "", false)
def tyJxf0a74 : Nat → FieldType := fun k => match k with
  | _ => .int
abbrev wsJxf0a740 : List Cond := u_ws RJxf0a74 TJxf0a74 0
theorem nmJxf0a74 : ∀ a, a < 0 → ∀ b, b < 0 → a ≠ b → (TJxf0a74 a).2.1 ≠ (TJxf0a74 b).2.1 := by decide +kernel
theorem tyJxf0a74_ok : ∀ k, k < 0 → parseFieldDescriptor (TJxf0a74 k).2.2.1 = some (tyJxf0a74 k) := by decide +kernel
def RJxa66e6 : String := "java/util/SequencedCollection"
def TJxa66e6 : u_T := fun k => match k with
  | _ => ("", "", "", false)
def tyJxa66e6 : Nat → FieldType := fun k => match k with
  | _ => .int
abbrev wsJxa66e60 : List Cond := u_ws RJxa66e6 TJxa66e6 0
theorem nmJxa66e6 : ∀ a, a < 0 → ∀ b, b < 0 → a ≠ b → (TJxa66e6 a).2.1 ≠ (TJxa66e6 b).2.1 := by decide +kernel
theorem tyJxa66e6_ok : ∀ k, k < 0 → parseFieldDescriptor (TJxa66e6 k).2.2.1 = some (tyJxa66e6 k) := by decide +kernel
def RJ8 : String := "jdk/internal/util/ArraysSupport"
def TJ8 : u_T := fun k => match k with
  | _ => ("", "", "", false)
def tyJ8 : Nat → FieldType := fun k => match k with
  | _ => .int
abbrev wsJ80 : List Cond := u_ws RJ8 TJ8 0
theorem nmJ8 : ∀ a, a < 0 → ∀ b, b < 0 → a ≠ b → (TJ8 a).2.1 ≠ (TJ8 b).2.1 := by decide +kernel
theorem tyJ8_ok : ∀ k, k < 0 → parseFieldDescriptor (TJ8 k).2.2.1 = some (tyJ8 k) := by decide +kernel
abbrev cJ8_newLength_cabcc : ByteArray := prog_29_method_27_code
def yJ8_newLength_cabcc : MethodName := ⟨RJ8, "newLength", "(III)I"⟩
abbrev cJ8_hugeLength_7cf53 : ByteArray := prog_29_method_28_code
def yJ8_hugeLength_7cf53 : MethodName := ⟨RJ8, "hugeLength", "(II)I"⟩
def RJ3 : String := "jdk/internal/util/Preconditions"
def TJ3 : u_T := fun k => match k with
  | _ => ("", "", "", false)
def tyJ3 : Nat → FieldType := fun k => match k with
  | _ => .int
abbrev wsJ30 : List Cond := u_ws RJ3 TJ3 0
theorem nmJ3 : ∀ a, a < 0 → ∀ b, b < 0 → a ≠ b → (TJ3 a).2.1 ≠ (TJ3 b).2.1 := by decide +kernel
theorem tyJ3_ok : ∀ k, k < 0 → parseFieldDescriptor (TJ3 k).2.2.1 = some (tyJ3 k) := by decide +kernel
abbrev cJ3_checkIndex_8e157 : ByteArray := prog_30_method_11_code
def yJ3_checkIndex_8e157 : MethodName := ⟨RJ3, "checkIndex", "(IILjava/util/function/BiFunction;)I"⟩
def RL : String := "CastdeskLaw"
abbrev cL_rank : ByteArray := method_3_code
def yL_rank : MethodName := ⟨RL, "rank", "(LCastdesk;II[J)I"⟩
abbrev cL_fight : ByteArray := method_4_code
def yL_fight : MethodName := ⟨RL, "fight", "(LCastdesk;II[J)I"⟩
abbrev cL_end : ByteArray := method_5_code
def yL_end : MethodName := ⟨RL, "end", "(LCastdesk;I[J)I"⟩
abbrev cL_replay : ByteArray := method_6_code
def yL_replay : MethodName := ⟨RL, "replay", "(LCastdesk;I[J)I"⟩
abbrev cL_camera : ByteArray := method_7_code
def yL_camera : MethodName := ⟨RL, "camera", "(LCastdesk;II[J)I"⟩
abbrev cL_delay : ByteArray := method_8_code
def yL_delay : MethodName := ⟨RL, "delay", "(LCastdesk;I[J)I"⟩
abbrev cL_pass : ByteArray := method_9_code
def yL_pass : MethodName := ⟨RL, "pass", "(LCastdesk;I[J)I"⟩
abbrev cL_blow : ByteArray := method_10_code
def yL_blow : MethodName := ⟨RL, "blow", "(LCastdesk;III[J)I"⟩
abbrev cL_strike : ByteArray := method_11_code
def yL_strike : MethodName := ⟨RL, "strike", "(LCastdesk;I[J)I"⟩
abbrev cL_mend : ByteArray := method_12_code
def yL_mend : MethodName := ⟨RL, "mend", "(LCastdesk;II[J)I"⟩
abbrev cL_promise : ByteArray := method_13_code
def yL_promise : MethodName := ⟨RL, "promise", "(LCastdesk;II[J)I"⟩
abbrev cL_slot : ByteArray := method_14_code
def yL_slot : MethodName := ⟨RL, "slot", "(LCastdesk;II[J)I"⟩
abbrev cL_shown : ByteArray := method_15_code
def yL_shown : MethodName := ⟨RL, "shown", "(LCastdesk;II[J)I"⟩
abbrev cL_points : ByteArray := method_16_code
def yL_points : MethodName := ⟨RL, "points", "(LCastdesk;II[J)I"⟩
abbrev cL_overlay : ByteArray := method_17_code
def yL_overlay : MethodName := ⟨RL, "overlay", "(LCastdesk;II[J)I"⟩
abbrev cL_fightOf : ByteArray := method_18_code
def yL_fightOf : MethodName := ⟨RL, "fightOf", "(LCastdesk;II[J)I"⟩
abbrev cL_cameraOf : ByteArray := method_19_code
def yL_cameraOf : MethodName := ⟨RL, "cameraOf", "(LCastdesk;II[J)I"⟩
abbrev cL_counted : ByteArray := method_20_code
def yL_counted : MethodName := ⟨RL, "counted", "(LCastdesk;I[J)I"⟩
abbrev cL_countedAnew : ByteArray := method_21_code
def yL_countedAnew : MethodName := ⟨RL, "countedAnew", "(LCastdesk;I[J)I"⟩
abbrev cL_owed : ByteArray := method_22_code
def yL_owed : MethodName := ⟨RL, "owed", "(LCastdesk;I[J)I"⟩
abbrev cL_leader : ByteArray := method_23_code
def yL_leader : MethodName := ⟨RL, "leader", "(LCastdesk;I[J)I"⟩
abbrev cL_law : ByteArray := code
def yL_law : MethodName := ⟨RL, "law", "([I)Z"⟩
def wsX0_init : List Cond := .code yX0_init cX0_init 3 none :: ([.methodLink RX0 1 objectInit, .instanceMethod objectInit, .code objectInit ⟨#[0xb1]⟩ 1 none, .fieldLink RX0 7 "Castdesk$Camera" "stamina" "I", .fieldLink RX0 13 "Castdesk$Camera" "rest" "I"] ++ wsX00)
def wsX0_passOnAir : List Cond := .code yX0_passOnAir cX0_passOnAir 1 none :: ([.fieldLink RX0 16 "Castdesk$Camera" "onAir" "I", .fieldLink RX0 7 "Castdesk$Camera" "stamina" "I", .fieldLink RX0 13 "Castdesk$Camera" "rest" "I", .methodLink RX0 19 Lib.Math.max.name, .static Lib.Math.max.name, .initialized "java/lang/Math", .code Lib.Math.max.name Lib.Math.max.code 2 (some .int), .fieldLink RX0 25 "Castdesk$Camera" "toBeOff" "I"] ++ wsX00)
def wsX0_passOff : List Cond := .code yX0_passOff cX0_passOff 1 none :: ([.fieldLink RX0 16 "Castdesk$Camera" "onAir" "I", .fieldLink RX0 25 "Castdesk$Camera" "toBeOff" "I", .methodLink RX0 19 Lib.Math.max.name, .static Lib.Math.max.name, .initialized "java/lang/Math", .code Lib.Math.max.name Lib.Math.max.code 2 (some .int)] ++ wsX00)
def wsX1_init : List Cond := .code yX1_init cX1_init 5 none :: ([.methodLink RX1 3 objectInit, .instanceMethod objectInit, .code objectInit ⟨#[0xb1]⟩ 1 none, .fieldLink RX1 9 "Castdesk$Entry" "fight" "LCastdesk$Fight;", .fieldLink RX1 15 "Castdesk$Entry" "player" "I", .fieldLink RX1 19 "Castdesk$Entry" "frame" "I", .fieldLink RX1 22 "Castdesk$Entry" "points" "I"] ++ wsX10)
def wsX1_canBeCorrected : List Cond := .code yX1_canBeCorrected cX1_canBeCorrected 1 (some .boolean) :: ([.fieldLink RX1 25 "Castdesk$Entry" "struck" "Z", .fieldLink RX1 9 "Castdesk$Entry" "fight" "LCastdesk$Fight;", .fieldLink RX1 29 "Castdesk$Fight" "state" "I"] ++ wsX10 ++ wsX20)
def wsX2_init : List Cond := .code yX2_init cX2_init 4 none :: ([.methodLink RX2 3 objectInit, .instanceMethod objectInit, .code objectInit ⟨#[0xb1]⟩ 1 none, .fieldLink RX2 9 "Castdesk$Fight" "number" "I", .fieldLink RX2 15 "Castdesk$Fight" "first" "I", .fieldLink RX2 18 "Castdesk$Fight" "second" "I", .fieldLink RX2 21 "Castdesk$Fight" "state" "I", .fieldLink RX2 24 "Castdesk$Fight" "winner" "I"] ++ wsX20)
def wsX2_isOf : List Cond := .code yX2_isOf cX2_isOf 2 (some .boolean) :: ([.fieldLink RX2 15 "Castdesk$Fight" "first" "I", .fieldLink RX2 18 "Castdesk$Fight" "second" "I"] ++ wsX20)
def wsX2_heatUp : List Cond := .code yX2_heatUp cX2_heatUp 1 none :: ([.fieldLink RX2 27 "Castdesk$Fight" "blowFrames" "I"] ++ wsX20)
def wsJ6_bitCount_0f7a4 : List Cond := .code yJ6_bitCount_0f7a4 cJ6_bitCount_0f7a4 1 (some .int) :: ([.constant RJ6 265 (1431655765), .constant RJ6 266 (858993459), .constant RJ6 267 (252645135)])
def wsX2_heatOfBlows : List Cond := .code yX2_heatOfBlows cX2_heatOfBlows 1 (some .int) :: ([.fieldLink RX2 27 "Castdesk$Fight" "blowFrames" "I", .methodLink RX2 30 yJ6_bitCount_0f7a4, .static yJ6_bitCount_0f7a4, .initialized RJ6, .code yJ6_bitCount_0f7a4 cJ6_bitCount_0f7a4 1 (some .int), .constant RJ6 265 (1431655765), .constant RJ6 266 (858993459), .constant RJ6 267 (252645135)] ++ wsX20)
def wsX2_letFramePass : List Cond := .code yX2_letFramePass cX2_letFramePass 1 none :: ([.fieldLink RX2 27 "Castdesk$Fight" "blowFrames" "I"] ++ wsX20)
def wsJxa1e45_init_da8c8 : List Cond := .code yJxa1e45_init_da8c8 cJxa1e45_init_da8c8 1 none :: ([.methodLink RJxa1e45 1 objectInit, .instanceMethod objectInit, .code objectInit ⟨#[0xb1]⟩ 1 none])
def wsJxc12de_init_da8c8 : List Cond := .code yJxc12de_init_da8c8 cJxc12de_init_da8c8 1 none :: ([.fieldLink RJxc12de 7 "java/util/AbstractList" "modCount" "I", .methodLink RJxc12de 1 yJxa1e45_init_da8c8, .instanceMethod yJxa1e45_init_da8c8, .initialized RJxa1e45, .code yJxa1e45_init_da8c8 cJxa1e45_init_da8c8 1 none, .methodLink RJxa1e45 1 objectInit, .instanceMethod objectInit, .code objectInit ⟨#[0xb1]⟩ 1 none] ++ wsJx4a65c0)
def wsJx4a65c_init_da8c8 : List Cond := .code yJx4a65c_init_da8c8 cJx4a65c_init_da8c8 1 none :: ([.fieldLink RJx4a65c 39 "java/util/ArrayList" "DEFAULTCAPACITY_EMPTY_ELEMENTDATA" "[Ljava/lang/Object;", .fieldLink RJx4a65c 9 "java/util/ArrayList" "elementData" "[Ljava/lang/Object;", .methodLink RJx4a65c 1 yJxc12de_init_da8c8, .instanceMethod yJxc12de_init_da8c8, .initialized RJxc12de, .code yJxc12de_init_da8c8 cJxc12de_init_da8c8 1 none, .fieldLink RJxc12de 7 "java/util/AbstractList" "modCount" "I", .methodLink RJxc12de 1 yJxa1e45_init_da8c8, .instanceMethod yJxa1e45_init_da8c8, .initialized RJxa1e45, .code yJxa1e45_init_da8c8 cJxa1e45_init_da8c8 1 none, .methodLink RJxa1e45 1 objectInit, .instanceMethod objectInit, .code objectInit ⟨#[0xb1]⟩ 1 none] ++ wsJx4a65c0)
def wsX3_init_r1 : List Cond := [Cond.methodLink RX3 1 objectInit, Cond.instanceMethod objectInit, Cond.code objectInit ⟨#[0xb1]⟩ 1 none, Cond.arrayClass .int, Cond.fieldLink RX3 9 "Castdesk" "ranks" "[I", Cond.fieldLink RX3 13 "Castdesk" "wins" "[I", Cond.classLink RX3 16 RJx4a65c, Cond.instantiable RJx4a65c 3, Cond.initialized RJx4a65c, Cond.fieldLink RX3 19 "Castdesk" "fights" "Ljava/util/ArrayList;", Cond.fieldLink RX3 23 "Castdesk" "cameras" "Ljava/util/ArrayList;", Cond.fieldLink RX3 26 "Castdesk" "entries" "Ljava/util/ArrayList;", Cond.fieldLink RX3 29 "Castdesk" "promised" "[I", Cond.fieldLink RX3 32 "Castdesk" "countedFrames" "[I", Cond.fieldLink RX3 35 "Castdesk" "slotPlayers" "[I", Cond.fieldLink RX3 38 "Castdesk" "delayFrames" "I", Cond.fieldLink RX3 42 "Castdesk" "seenUpTo" "I", Cond.fieldLink RX3 45 "Castdesk" "shownFight" "[I", Cond.fieldLink RX3 48 "Castdesk" "shownCamera" "[I", Cond.fieldLink RX3 51 "Castdesk" "shownSponsor" "[I", Cond.methodLink RX3 18 yJx4a65c_init_da8c8, Cond.instanceMethod yJx4a65c_init_da8c8, Cond.code yJx4a65c_init_da8c8 cJx4a65c_init_da8c8 1 none, Cond.fieldLink RJx4a65c 39 "java/util/ArrayList" "DEFAULTCAPACITY_EMPTY_ELEMENTDATA" "[Ljava/lang/Object;"]
def wsX3_init_r2 : List Cond := [Cond.fieldLink RJx4a65c 9 "java/util/ArrayList" "elementData" "[Ljava/lang/Object;", Cond.methodLink RJx4a65c 1 yJxc12de_init_da8c8, Cond.instanceMethod yJxc12de_init_da8c8, Cond.initialized RJxc12de, Cond.code yJxc12de_init_da8c8 cJxc12de_init_da8c8 1 none, Cond.fieldLink RJxc12de 7 "java/util/AbstractList" "modCount" "I", Cond.methodLink RJxc12de 1 yJxa1e45_init_da8c8, Cond.instanceMethod yJxa1e45_init_da8c8, Cond.initialized RJxa1e45, Cond.code yJxa1e45_init_da8c8 cJxa1e45_init_da8c8 1 none, Cond.methodLink RJxa1e45 1 objectInit]
def wsX3_init : List Cond := .code yX3_init cX3_init 1 none :: ((wsX3_init_r1 ++ wsX3_init_r2) ++ wsX30 ++ wsJx4a65c0)
def wsX3_checkPlayer : List Cond := .code yX3_checkPlayer cX3_checkPlayer 1 none :: ([.classLink RX3 180 "java/lang/IndexOutOfBoundsException", .initialized "java/lang/IndexOutOfBoundsException"] ++ (vx_atS RX3 184 "java/lang/IndexOutOfBoundsException" ["java/lang/RuntimeException", "java/lang/Exception"]).filter goodWord)
def wsX3_checkRange : List Cond := .code yX3_checkRange cX3_checkRange 3 none :: ([.classLink RX3 62 "java/lang/IllegalArgumentException", .initialized "java/lang/IllegalArgumentException"] ++ (vx_atS RX3 66 "java/lang/IllegalArgumentException" ["java/lang/RuntimeException", "java/lang/Exception"]).filter goodWord)
def wsX3_rank : List Cond := .code yX3_rank cX3_rank 4 (some .int) :: ([.fieldLink RX3 9 "Castdesk" "ranks" "[I", .methodLink RX3 54 yX3_checkPlayer, .static yX3_checkPlayer, .initialized RX3, .code yX3_checkPlayer cX3_checkPlayer 1 none, .classLink RX3 180 "java/lang/IndexOutOfBoundsException", .initialized "java/lang/IndexOutOfBoundsException", .methodLink RX3 58 yX3_checkRange, .static yX3_checkRange, .code yX3_checkRange cX3_checkRange 3 none, .classLink RX3 62 "java/lang/IllegalArgumentException", .initialized "java/lang/IllegalArgumentException"] ++ wsX30 ++ (vx_atS RX3 184 "java/lang/IndexOutOfBoundsException" ["java/lang/RuntimeException", "java/lang/Exception"]).filter goodWord ++ (vx_atS RX3 66 "java/lang/IllegalArgumentException" ["java/lang/RuntimeException", "java/lang/Exception"]).filter goodWord)
def wsJx4a65c_size_8abf5 : List Cond := .code yJx4a65c_size_8abf5 cJx4a65c_size_8abf5 1 (some .int) :: ([.fieldLink RJx4a65c 48 "java/util/ArrayList" "size" "I"] ++ wsJx4a65c0)
def wsJ3_checkIndex_8e157 : List Cond := .code yJ3_checkIndex_8e157 cJ3_checkIndex_8e157 3 (some .int) :: ([])
def wsJ15_checkIndex_7cf53 : List Cond := .code yJ15_checkIndex_7cf53 cJ15_checkIndex_7cf53 2 (some .int) :: ([.methodLink RJ15 105 yJ3_checkIndex_8e157, .static yJ3_checkIndex_8e157, .initialized RJ3, .code yJ3_checkIndex_8e157 cJ3_checkIndex_8e157 3 (some .int)])
def wsJx4a65c_elementData_915e3 : List Cond := .code yJx4a65c_elementData_915e3 cJx4a65c_elementData_915e3 2 (some (.object "java/lang/Object")) :: ([.fieldLink RJx4a65c 9 "java/util/ArrayList" "elementData" "[Ljava/lang/Object;"] ++ wsJx4a65c0)
def wsJx4a65c_get_915e3 : List Cond := .code yJx4a65c_get_915e3 cJx4a65c_get_915e3 2 (some (.object "java/lang/Object")) :: ([.fieldLink RJx4a65c 48 "java/util/ArrayList" "size" "I", .methodLink RJx4a65c 118 yJ15_checkIndex_7cf53, .static yJ15_checkIndex_7cf53, .initialized RJ15, .code yJ15_checkIndex_7cf53 cJ15_checkIndex_7cf53 2 (some .int), .methodLink RJ15 105 yJ3_checkIndex_8e157, .static yJ3_checkIndex_8e157, .initialized RJ3, .code yJ3_checkIndex_8e157 cJ3_checkIndex_8e157 3 (some .int), .methodLink RJx4a65c 123 yJx4a65c_elementData_915e3, .instanceMethod yJx4a65c_elementData_915e3, .selects RJx4a65c yJx4a65c_elementData_915e3 yJx4a65c_elementData_915e3, .initialized RJx4a65c, .code yJx4a65c_elementData_915e3 cJx4a65c_elementData_915e3 2 (some (.object "java/lang/Object")), .fieldLink RJx4a65c 9 "java/util/ArrayList" "elementData" "[Ljava/lang/Object;"] ++ wsJx4a65c0)
def wsX3_checkCanBegin_r1 : List Cond := [Cond.classLink RX3 106 "java/lang/IllegalStateException", Cond.initialized "java/lang/IllegalStateException", Cond.fieldLink RX3 19 "Castdesk" "fights" "Ljava/util/ArrayList;", Cond.classLink RX3 89 "Castdesk$Fight", Cond.fieldLink RX3 100 "Castdesk$Fight" "state" "I", Cond.methodLink RX3 117 yJx4a65c_size_8abf5, Cond.instanceMethod yJx4a65c_size_8abf5, Cond.selects RJx4a65c yJx4a65c_size_8abf5 yJx4a65c_size_8abf5, Cond.initialized RJx4a65c, Cond.code yJx4a65c_size_8abf5 cJx4a65c_size_8abf5 1 (some .int), Cond.fieldLink RJx4a65c 48 "java/util/ArrayList" "size" "I", Cond.methodLink RX3 194 yJx4a65c_get_915e3, Cond.instanceMethod yJx4a65c_get_915e3, Cond.selects RJx4a65c yJx4a65c_get_915e3 yJx4a65c_get_915e3, Cond.code yJx4a65c_get_915e3 cJx4a65c_get_915e3 2 (some (.object "java/lang/Object")), Cond.methodLink RJx4a65c 118 yJ15_checkIndex_7cf53, Cond.static yJ15_checkIndex_7cf53, Cond.initialized RJ15, Cond.code yJ15_checkIndex_7cf53 cJ15_checkIndex_7cf53 2 (some .int), Cond.methodLink RJ15 105 yJ3_checkIndex_8e157, Cond.static yJ3_checkIndex_8e157, Cond.initialized RJ3, Cond.code yJ3_checkIndex_8e157 cJ3_checkIndex_8e157 3 (some .int), Cond.methodLink RJx4a65c 123 yJx4a65c_elementData_915e3]
def wsX3_checkCanBegin_r2 : List Cond := [Cond.instanceMethod yJx4a65c_elementData_915e3, Cond.selects RJx4a65c yJx4a65c_elementData_915e3 yJx4a65c_elementData_915e3, Cond.code yJx4a65c_elementData_915e3 cJx4a65c_elementData_915e3 2 (some (.object "java/lang/Object")), Cond.fieldLink RJx4a65c 9 "java/util/ArrayList" "elementData" "[Ljava/lang/Object;", Cond.methodLink RX3 139 yX2_isOf, Cond.instanceMethod yX2_isOf, Cond.selects RX2 yX2_isOf yX2_isOf, Cond.initialized RX2, Cond.code yX2_isOf cX2_isOf 2 (some .boolean), Cond.fieldLink RX2 15 "Castdesk$Fight" "first" "I", Cond.fieldLink RX2 18 "Castdesk$Fight" "second" "I"]
def wsX3_checkCanBegin : List Cond := .code yX3_checkCanBegin cX3_checkCanBegin 5 none :: ((wsX3_checkCanBegin_r1 ++ wsX3_checkCanBegin_r2) ++ wsX30 ++ wsX20 ++ wsJx4a65c0 ++ (vx_atS RX3 110 "java/lang/IllegalStateException" ["java/lang/RuntimeException", "java/lang/Exception"]).filter goodWord)
def wsJ8_hugeLength_7cf53 : List Cond := .code yJ8_hugeLength_7cf53 cJ8_hugeLength_7cf53 3 (some .int) :: ([.constant RJ8 200 (2147483639)])
def wsJ8_newLength_cabcc : List Cond := .code yJ8_newLength_cabcc cJ8_newLength_cabcc 4 (some .int) :: ([.methodLink RJ8 194 Lib.Math.max.name, .static Lib.Math.max.name, .initialized "java/lang/Math", .code Lib.Math.max.name Lib.Math.max.code 2 (some .int), .constant RJ8 200 (2147483639), .methodLink RJ8 201 yJ8_hugeLength_7cf53, .static yJ8_hugeLength_7cf53, .initialized RJ8, .code yJ8_hugeLength_7cf53 cJ8_hugeLength_7cf53 3 (some .int)])
def wsJ7_copyOf_6403c : List Cond := .code yJ7_copyOf_6403c cJ7_copyOf_6403c 4 (some (.array (.object "java/lang/Object"))) :: ([.classLink RJ7 110 "[Ljava/lang/Object;", .classLink RJ7 2 "java/lang/Object", .methodLink RJ7 304 Lib.Math.min.name, .static Lib.Math.min.name, .initialized "java/lang/Math", .code Lib.Math.min.name Lib.Math.min.code 2 (some .int), .methodLink RJ7 150 arraycopyName, .native arraycopyName, .static arraycopyName, .initialized "java/lang/System"])
def wsJ7_copyOf_1904c : List Cond := .code yJ7_copyOf_1904c cJ7_copyOf_1904c 2 (some (.array (.object "java/lang/Object"))) :: ([.methodLink RJ7 86 ⟨"java/lang/Object", "getClass", "()Ljava/lang/Class;"⟩, .selects "[Ljava/lang/Object;" ⟨"java/lang/Object", "getClass", "()Ljava/lang/Class;"⟩ ⟨"java/lang/Object", "getClass", "()Ljava/lang/Class;"⟩, .instanceMethod ⟨"java/lang/Object", "getClass", "()Ljava/lang/Class;"⟩, .native ⟨"java/lang/Object", "getClass", "()Ljava/lang/Class;"⟩, .methodLink RJ7 300 yJ7_copyOf_6403c, .static yJ7_copyOf_6403c, .initialized RJ7, .code yJ7_copyOf_6403c cJ7_copyOf_6403c 4 (some (.array (.object "java/lang/Object"))), .classLink RJ7 110 "[Ljava/lang/Object;", .classLink RJ7 2 "java/lang/Object", .methodLink RJ7 304 Lib.Math.min.name, .static Lib.Math.min.name, .initialized "java/lang/Math", .code Lib.Math.min.name Lib.Math.min.code 2 (some .int), .methodLink RJ7 150 arraycopyName, .native arraycopyName, .static arraycopyName, .initialized "java/lang/System"])
def wsJx4a65c_grow_92f84_r1 : List Cond := [Cond.fieldLink RJx4a65c 9 "java/util/ArrayList" "elementData" "[Ljava/lang/Object;", Cond.fieldLink RJx4a65c 39 "java/util/ArrayList" "DEFAULTCAPACITY_EMPTY_ELEMENTDATA" "[Ljava/lang/Object;", Cond.methodLink RJx4a65c 79 Lib.Math.max.name, Cond.static Lib.Math.max.name, Cond.initialized "java/lang/Math", Cond.code Lib.Math.max.name Lib.Math.max.code 2 (some .int), Cond.classLink RJx4a65c 7 "java/lang/Object", Cond.methodLink RJx4a65c 73 yJ8_newLength_cabcc, Cond.static yJ8_newLength_cabcc, Cond.initialized RJ8, Cond.code yJ8_newLength_cabcc cJ8_newLength_cabcc 4 (some .int), Cond.methodLink RJ8 194 Lib.Math.max.name, Cond.constant RJ8 200 (2147483639), Cond.methodLink RJ8 201 yJ8_hugeLength_7cf53, Cond.static yJ8_hugeLength_7cf53, Cond.code yJ8_hugeLength_7cf53 cJ8_hugeLength_7cf53 3 (some .int), Cond.methodLink RJx4a65c 66 yJ7_copyOf_1904c, Cond.static yJ7_copyOf_1904c, Cond.initialized RJ7, Cond.code yJ7_copyOf_1904c cJ7_copyOf_1904c 2 (some (.array (.object "java/lang/Object"))), Cond.methodLink RJ7 86 ⟨"java/lang/Object", "getClass", "()Ljava/lang/Class;"⟩, Cond.selects "[Ljava/lang/Object;" ⟨"java/lang/Object", "getClass", "()Ljava/lang/Class;"⟩ ⟨"java/lang/Object", "getClass", "()Ljava/lang/Class;"⟩, Cond.instanceMethod ⟨"java/lang/Object", "getClass", "()Ljava/lang/Class;"⟩, Cond.native ⟨"java/lang/Object", "getClass", "()Ljava/lang/Class;"⟩]
def wsJx4a65c_grow_92f84_r2 : List Cond := [Cond.methodLink RJ7 300 yJ7_copyOf_6403c, Cond.static yJ7_copyOf_6403c, Cond.code yJ7_copyOf_6403c cJ7_copyOf_6403c 4 (some (.array (.object "java/lang/Object"))), Cond.classLink RJ7 110 "[Ljava/lang/Object;", Cond.classLink RJ7 2 "java/lang/Object", Cond.methodLink RJ7 304 Lib.Math.min.name, Cond.static Lib.Math.min.name, Cond.code Lib.Math.min.name Lib.Math.min.code 2 (some .int), Cond.methodLink RJ7 150 arraycopyName, Cond.native arraycopyName, Cond.static arraycopyName, Cond.initialized "java/lang/System"]
def wsJx4a65c_grow_92f84 : List Cond := .code yJx4a65c_grow_92f84 cJx4a65c_grow_92f84 4 (some (.array (.object "java/lang/Object"))) :: ((wsJx4a65c_grow_92f84_r1 ++ wsJx4a65c_grow_92f84_r2) ++ wsJx4a65c0)
def wsJx4a65c_grow_d5877_r1 : List Cond := [Cond.fieldLink RJx4a65c 48 "java/util/ArrayList" "size" "I", Cond.methodLink RJx4a65c 69 yJx4a65c_grow_92f84, Cond.instanceMethod yJx4a65c_grow_92f84, Cond.selects RJx4a65c yJx4a65c_grow_92f84 yJx4a65c_grow_92f84, Cond.initialized RJx4a65c, Cond.code yJx4a65c_grow_92f84 cJx4a65c_grow_92f84 4 (some (.array (.object "java/lang/Object"))), Cond.fieldLink RJx4a65c 9 "java/util/ArrayList" "elementData" "[Ljava/lang/Object;", Cond.fieldLink RJx4a65c 39 "java/util/ArrayList" "DEFAULTCAPACITY_EMPTY_ELEMENTDATA" "[Ljava/lang/Object;", Cond.methodLink RJx4a65c 79 Lib.Math.max.name, Cond.static Lib.Math.max.name, Cond.initialized "java/lang/Math", Cond.code Lib.Math.max.name Lib.Math.max.code 2 (some .int), Cond.classLink RJx4a65c 7 "java/lang/Object", Cond.methodLink RJx4a65c 73 yJ8_newLength_cabcc, Cond.static yJ8_newLength_cabcc, Cond.initialized RJ8, Cond.code yJ8_newLength_cabcc cJ8_newLength_cabcc 4 (some .int), Cond.methodLink RJ8 194 Lib.Math.max.name, Cond.constant RJ8 200 (2147483639), Cond.methodLink RJ8 201 yJ8_hugeLength_7cf53, Cond.static yJ8_hugeLength_7cf53, Cond.code yJ8_hugeLength_7cf53 cJ8_hugeLength_7cf53 3 (some .int), Cond.methodLink RJx4a65c 66 yJ7_copyOf_1904c, Cond.static yJ7_copyOf_1904c]
def wsJx4a65c_grow_d5877_r2 : List Cond := [Cond.initialized RJ7, Cond.code yJ7_copyOf_1904c cJ7_copyOf_1904c 2 (some (.array (.object "java/lang/Object"))), Cond.methodLink RJ7 86 ⟨"java/lang/Object", "getClass", "()Ljava/lang/Class;"⟩, Cond.selects "[Ljava/lang/Object;" ⟨"java/lang/Object", "getClass", "()Ljava/lang/Class;"⟩ ⟨"java/lang/Object", "getClass", "()Ljava/lang/Class;"⟩, Cond.instanceMethod ⟨"java/lang/Object", "getClass", "()Ljava/lang/Class;"⟩, Cond.native ⟨"java/lang/Object", "getClass", "()Ljava/lang/Class;"⟩, Cond.methodLink RJ7 300 yJ7_copyOf_6403c, Cond.static yJ7_copyOf_6403c, Cond.code yJ7_copyOf_6403c cJ7_copyOf_6403c 4 (some (.array (.object "java/lang/Object"))), Cond.classLink RJ7 110 "[Ljava/lang/Object;", Cond.classLink RJ7 2 "java/lang/Object", Cond.methodLink RJ7 304 Lib.Math.min.name, Cond.static Lib.Math.min.name, Cond.code Lib.Math.min.name Lib.Math.min.code 2 (some .int), Cond.methodLink RJ7 150 arraycopyName, Cond.native arraycopyName, Cond.static arraycopyName, Cond.initialized "java/lang/System"]
def wsJx4a65c_grow_d5877 : List Cond := .code yJx4a65c_grow_d5877 cJx4a65c_grow_d5877 1 (some (.array (.object "java/lang/Object"))) :: ((wsJx4a65c_grow_d5877_r1 ++ wsJx4a65c_grow_d5877_r2) ++ wsJx4a65c0)
def wsJx4a65c_add_72be8_r1 : List Cond := [Cond.fieldLink RJx4a65c 48 "java/util/ArrayList" "size" "I", Cond.methodLink RJx4a65c 129 yJx4a65c_grow_d5877, Cond.instanceMethod yJx4a65c_grow_d5877, Cond.selects RJx4a65c yJx4a65c_grow_d5877 yJx4a65c_grow_d5877, Cond.initialized RJx4a65c, Cond.code yJx4a65c_grow_d5877 cJx4a65c_grow_d5877 1 (some (.array (.object "java/lang/Object"))), Cond.methodLink RJx4a65c 69 yJx4a65c_grow_92f84, Cond.instanceMethod yJx4a65c_grow_92f84, Cond.selects RJx4a65c yJx4a65c_grow_92f84 yJx4a65c_grow_92f84, Cond.code yJx4a65c_grow_92f84 cJx4a65c_grow_92f84 4 (some (.array (.object "java/lang/Object"))), Cond.fieldLink RJx4a65c 9 "java/util/ArrayList" "elementData" "[Ljava/lang/Object;", Cond.fieldLink RJx4a65c 39 "java/util/ArrayList" "DEFAULTCAPACITY_EMPTY_ELEMENTDATA" "[Ljava/lang/Object;", Cond.methodLink RJx4a65c 79 Lib.Math.max.name, Cond.static Lib.Math.max.name, Cond.initialized "java/lang/Math", Cond.code Lib.Math.max.name Lib.Math.max.code 2 (some .int), Cond.classLink RJx4a65c 7 "java/lang/Object", Cond.methodLink RJx4a65c 73 yJ8_newLength_cabcc, Cond.static yJ8_newLength_cabcc, Cond.initialized RJ8, Cond.code yJ8_newLength_cabcc cJ8_newLength_cabcc 4 (some .int), Cond.methodLink RJ8 194 Lib.Math.max.name, Cond.constant RJ8 200 (2147483639), Cond.methodLink RJ8 201 yJ8_hugeLength_7cf53]
def wsJx4a65c_add_72be8_r2 : List Cond := [Cond.static yJ8_hugeLength_7cf53, Cond.code yJ8_hugeLength_7cf53 cJ8_hugeLength_7cf53 3 (some .int), Cond.methodLink RJx4a65c 66 yJ7_copyOf_1904c, Cond.static yJ7_copyOf_1904c, Cond.initialized RJ7, Cond.code yJ7_copyOf_1904c cJ7_copyOf_1904c 2 (some (.array (.object "java/lang/Object"))), Cond.methodLink RJ7 86 ⟨"java/lang/Object", "getClass", "()Ljava/lang/Class;"⟩, Cond.selects "[Ljava/lang/Object;" ⟨"java/lang/Object", "getClass", "()Ljava/lang/Class;"⟩ ⟨"java/lang/Object", "getClass", "()Ljava/lang/Class;"⟩, Cond.instanceMethod ⟨"java/lang/Object", "getClass", "()Ljava/lang/Class;"⟩, Cond.native ⟨"java/lang/Object", "getClass", "()Ljava/lang/Class;"⟩, Cond.methodLink RJ7 300 yJ7_copyOf_6403c, Cond.static yJ7_copyOf_6403c, Cond.code yJ7_copyOf_6403c cJ7_copyOf_6403c 4 (some (.array (.object "java/lang/Object"))), Cond.classLink RJ7 110 "[Ljava/lang/Object;", Cond.classLink RJ7 2 "java/lang/Object", Cond.methodLink RJ7 304 Lib.Math.min.name, Cond.static Lib.Math.min.name, Cond.code Lib.Math.min.name Lib.Math.min.code 2 (some .int), Cond.methodLink RJ7 150 arraycopyName, Cond.native arraycopyName, Cond.static arraycopyName, Cond.initialized "java/lang/System"]
def wsJx4a65c_add_72be8 : List Cond := .code yJx4a65c_add_72be8 cJx4a65c_add_72be8 4 none :: ((wsJx4a65c_add_72be8_r1 ++ wsJx4a65c_add_72be8_r2) ++ wsJx4a65c0)
def wsJx4a65c_add_9ea2d_r1 : List Cond := [Cond.fieldLink RJx4a65c 63 "java/util/ArrayList" "modCount" "I", Cond.sameField "java/util/ArrayList" "java/util/AbstractList" "modCount" "I", Cond.fieldLink RJx4a65c 9 "java/util/ArrayList" "elementData" "[Ljava/lang/Object;", Cond.fieldLink RJx4a65c 48 "java/util/ArrayList" "size" "I", Cond.methodLink RJx4a65c 131 yJx4a65c_add_72be8, Cond.instanceMethod yJx4a65c_add_72be8, Cond.selects RJx4a65c yJx4a65c_add_72be8 yJx4a65c_add_72be8, Cond.initialized RJx4a65c, Cond.code yJx4a65c_add_72be8 cJx4a65c_add_72be8 4 none, Cond.methodLink RJx4a65c 129 yJx4a65c_grow_d5877, Cond.instanceMethod yJx4a65c_grow_d5877, Cond.selects RJx4a65c yJx4a65c_grow_d5877 yJx4a65c_grow_d5877, Cond.code yJx4a65c_grow_d5877 cJx4a65c_grow_d5877 1 (some (.array (.object "java/lang/Object"))), Cond.methodLink RJx4a65c 69 yJx4a65c_grow_92f84, Cond.instanceMethod yJx4a65c_grow_92f84, Cond.selects RJx4a65c yJx4a65c_grow_92f84 yJx4a65c_grow_92f84, Cond.code yJx4a65c_grow_92f84 cJx4a65c_grow_92f84 4 (some (.array (.object "java/lang/Object"))), Cond.fieldLink RJx4a65c 39 "java/util/ArrayList" "DEFAULTCAPACITY_EMPTY_ELEMENTDATA" "[Ljava/lang/Object;", Cond.methodLink RJx4a65c 79 Lib.Math.max.name, Cond.static Lib.Math.max.name, Cond.initialized "java/lang/Math", Cond.code Lib.Math.max.name Lib.Math.max.code 2 (some .int), Cond.classLink RJx4a65c 7 "java/lang/Object", Cond.methodLink RJx4a65c 73 yJ8_newLength_cabcc]
def wsJx4a65c_add_9ea2d_r2 : List Cond := [Cond.static yJ8_newLength_cabcc, Cond.initialized RJ8, Cond.code yJ8_newLength_cabcc cJ8_newLength_cabcc 4 (some .int), Cond.methodLink RJ8 194 Lib.Math.max.name, Cond.constant RJ8 200 (2147483639), Cond.methodLink RJ8 201 yJ8_hugeLength_7cf53, Cond.static yJ8_hugeLength_7cf53, Cond.code yJ8_hugeLength_7cf53 cJ8_hugeLength_7cf53 3 (some .int), Cond.methodLink RJx4a65c 66 yJ7_copyOf_1904c, Cond.static yJ7_copyOf_1904c, Cond.initialized RJ7, Cond.code yJ7_copyOf_1904c cJ7_copyOf_1904c 2 (some (.array (.object "java/lang/Object"))), Cond.methodLink RJ7 86 ⟨"java/lang/Object", "getClass", "()Ljava/lang/Class;"⟩, Cond.selects "[Ljava/lang/Object;" ⟨"java/lang/Object", "getClass", "()Ljava/lang/Class;"⟩ ⟨"java/lang/Object", "getClass", "()Ljava/lang/Class;"⟩, Cond.instanceMethod ⟨"java/lang/Object", "getClass", "()Ljava/lang/Class;"⟩, Cond.native ⟨"java/lang/Object", "getClass", "()Ljava/lang/Class;"⟩, Cond.methodLink RJ7 300 yJ7_copyOf_6403c, Cond.static yJ7_copyOf_6403c, Cond.code yJ7_copyOf_6403c cJ7_copyOf_6403c 4 (some (.array (.object "java/lang/Object"))), Cond.classLink RJ7 110 "[Ljava/lang/Object;", Cond.classLink RJ7 2 "java/lang/Object", Cond.methodLink RJ7 304 Lib.Math.min.name, Cond.static Lib.Math.min.name, Cond.code Lib.Math.min.name Lib.Math.min.code 2 (some .int)]
def wsJx4a65c_add_9ea2d_r3 : List Cond := [Cond.methodLink RJ7 150 arraycopyName, Cond.native arraycopyName, Cond.static arraycopyName, Cond.initialized "java/lang/System"]
def wsJx4a65c_add_9ea2d : List Cond := .code yJx4a65c_add_9ea2d cJx4a65c_add_9ea2d 2 (some .boolean) :: ((wsJx4a65c_add_9ea2d_r1 ++ (wsJx4a65c_add_9ea2d_r2 ++ wsJx4a65c_add_9ea2d_r3)) ++ wsJx4a65c0)
def wsX3_begin_r1 : List Cond := [Cond.fieldLink RX3 19 "Castdesk" "fights" "Ljava/util/ArrayList;", Cond.classLink RX3 89 RX2, Cond.instantiable RX2 7, Cond.initialized RX2, Cond.methodLink RX3 117 yJx4a65c_size_8abf5, Cond.instanceMethod yJx4a65c_size_8abf5, Cond.selects RJx4a65c yJx4a65c_size_8abf5 yJx4a65c_size_8abf5, Cond.initialized RJx4a65c, Cond.code yJx4a65c_size_8abf5 cJx4a65c_size_8abf5 1 (some .int), Cond.fieldLink RJx4a65c 48 "java/util/ArrayList" "size" "I", Cond.methodLink RX3 237 yX2_init, Cond.instanceMethod yX2_init, Cond.code yX2_init cX2_init 4 none, Cond.methodLink RX2 3 objectInit, Cond.instanceMethod objectInit, Cond.code objectInit ⟨#[0xb1]⟩ 1 none, Cond.fieldLink RX2 9 "Castdesk$Fight" "number" "I", Cond.fieldLink RX2 15 "Castdesk$Fight" "first" "I", Cond.fieldLink RX2 18 "Castdesk$Fight" "second" "I", Cond.fieldLink RX2 21 "Castdesk$Fight" "state" "I", Cond.fieldLink RX2 24 "Castdesk$Fight" "winner" "I", Cond.methodLink RX3 127 yJx4a65c_add_9ea2d, Cond.instanceMethod yJx4a65c_add_9ea2d, Cond.selects RJx4a65c yJx4a65c_add_9ea2d yJx4a65c_add_9ea2d]
def wsX3_begin_r2 : List Cond := [Cond.code yJx4a65c_add_9ea2d cJx4a65c_add_9ea2d 2 (some .boolean), Cond.fieldLink RJx4a65c 63 "java/util/ArrayList" "modCount" "I", Cond.sameField "java/util/ArrayList" "java/util/AbstractList" "modCount" "I", Cond.fieldLink RJx4a65c 9 "java/util/ArrayList" "elementData" "[Ljava/lang/Object;", Cond.methodLink RJx4a65c 131 yJx4a65c_add_72be8, Cond.instanceMethod yJx4a65c_add_72be8, Cond.selects RJx4a65c yJx4a65c_add_72be8 yJx4a65c_add_72be8, Cond.code yJx4a65c_add_72be8 cJx4a65c_add_72be8 4 none, Cond.methodLink RJx4a65c 129 yJx4a65c_grow_d5877, Cond.instanceMethod yJx4a65c_grow_d5877, Cond.selects RJx4a65c yJx4a65c_grow_d5877 yJx4a65c_grow_d5877, Cond.code yJx4a65c_grow_d5877 cJx4a65c_grow_d5877 1 (some (.array (.object "java/lang/Object"))), Cond.methodLink RJx4a65c 69 yJx4a65c_grow_92f84, Cond.instanceMethod yJx4a65c_grow_92f84, Cond.selects RJx4a65c yJx4a65c_grow_92f84 yJx4a65c_grow_92f84, Cond.code yJx4a65c_grow_92f84 cJx4a65c_grow_92f84 4 (some (.array (.object "java/lang/Object"))), Cond.fieldLink RJx4a65c 39 "java/util/ArrayList" "DEFAULTCAPACITY_EMPTY_ELEMENTDATA" "[Ljava/lang/Object;", Cond.methodLink RJx4a65c 79 Lib.Math.max.name, Cond.static Lib.Math.max.name, Cond.initialized "java/lang/Math", Cond.code Lib.Math.max.name Lib.Math.max.code 2 (some .int), Cond.classLink RJx4a65c 7 "java/lang/Object", Cond.methodLink RJx4a65c 73 yJ8_newLength_cabcc, Cond.static yJ8_newLength_cabcc]
def wsX3_begin_r3 : List Cond := [Cond.initialized RJ8, Cond.code yJ8_newLength_cabcc cJ8_newLength_cabcc 4 (some .int), Cond.methodLink RJ8 194 Lib.Math.max.name, Cond.constant RJ8 200 (2147483639), Cond.methodLink RJ8 201 yJ8_hugeLength_7cf53, Cond.static yJ8_hugeLength_7cf53, Cond.code yJ8_hugeLength_7cf53 cJ8_hugeLength_7cf53 3 (some .int), Cond.methodLink RJx4a65c 66 yJ7_copyOf_1904c, Cond.static yJ7_copyOf_1904c, Cond.initialized RJ7, Cond.code yJ7_copyOf_1904c cJ7_copyOf_1904c 2 (some (.array (.object "java/lang/Object"))), Cond.methodLink RJ7 86 ⟨"java/lang/Object", "getClass", "()Ljava/lang/Class;"⟩, Cond.selects "[Ljava/lang/Object;" ⟨"java/lang/Object", "getClass", "()Ljava/lang/Class;"⟩ ⟨"java/lang/Object", "getClass", "()Ljava/lang/Class;"⟩, Cond.instanceMethod ⟨"java/lang/Object", "getClass", "()Ljava/lang/Class;"⟩, Cond.native ⟨"java/lang/Object", "getClass", "()Ljava/lang/Class;"⟩, Cond.methodLink RJ7 300 yJ7_copyOf_6403c, Cond.static yJ7_copyOf_6403c, Cond.code yJ7_copyOf_6403c cJ7_copyOf_6403c 4 (some (.array (.object "java/lang/Object"))), Cond.classLink RJ7 110 "[Ljava/lang/Object;", Cond.classLink RJ7 2 "java/lang/Object", Cond.methodLink RJ7 304 Lib.Math.min.name, Cond.static Lib.Math.min.name, Cond.code Lib.Math.min.name Lib.Math.min.code 2 (some .int), Cond.methodLink RJ7 150 arraycopyName]
def wsX3_begin_r4 : List Cond := [Cond.native arraycopyName, Cond.static arraycopyName, Cond.initialized "java/lang/System"]
def wsX3_begin : List Cond := .code yX3_begin cX3_begin 4 (some .int) :: ((wsX3_begin_r1 ++ (wsX3_begin_r2 ++ (wsX3_begin_r3 ++ wsX3_begin_r4))) ++ wsX30 ++ wsX20 ++ wsJx4a65c0)
def wsX3_fight_r1 : List Cond := [Cond.classLink RX3 62 "java/lang/IllegalArgumentException", Cond.initialized "java/lang/IllegalArgumentException", Cond.methodLink RX3 54 yX3_checkPlayer, Cond.static yX3_checkPlayer, Cond.initialized RX3, Cond.code yX3_checkPlayer cX3_checkPlayer 1 none, Cond.classLink RX3 180 "java/lang/IndexOutOfBoundsException", Cond.initialized "java/lang/IndexOutOfBoundsException", Cond.methodLink RX3 69 yX3_checkCanBegin, Cond.instanceMethod yX3_checkCanBegin, Cond.selects RX3 yX3_checkCanBegin yX3_checkCanBegin, Cond.code yX3_checkCanBegin cX3_checkCanBegin 5 none, Cond.classLink RX3 106 "java/lang/IllegalStateException", Cond.initialized "java/lang/IllegalStateException", Cond.fieldLink RX3 19 "Castdesk" "fights" "Ljava/util/ArrayList;", Cond.classLink RX3 89 "Castdesk$Fight", Cond.fieldLink RX3 100 "Castdesk$Fight" "state" "I", Cond.methodLink RX3 117 yJx4a65c_size_8abf5, Cond.instanceMethod yJx4a65c_size_8abf5, Cond.selects RJx4a65c yJx4a65c_size_8abf5 yJx4a65c_size_8abf5, Cond.initialized RJx4a65c, Cond.code yJx4a65c_size_8abf5 cJx4a65c_size_8abf5 1 (some .int), Cond.fieldLink RJx4a65c 48 "java/util/ArrayList" "size" "I", Cond.methodLink RX3 194 yJx4a65c_get_915e3]
def wsX3_fight_r2 : List Cond := [Cond.instanceMethod yJx4a65c_get_915e3, Cond.selects RJx4a65c yJx4a65c_get_915e3 yJx4a65c_get_915e3, Cond.code yJx4a65c_get_915e3 cJx4a65c_get_915e3 2 (some (.object "java/lang/Object")), Cond.methodLink RJx4a65c 118 yJ15_checkIndex_7cf53, Cond.static yJ15_checkIndex_7cf53, Cond.initialized RJ15, Cond.code yJ15_checkIndex_7cf53 cJ15_checkIndex_7cf53 2 (some .int), Cond.methodLink RJ15 105 yJ3_checkIndex_8e157, Cond.static yJ3_checkIndex_8e157, Cond.initialized RJ3, Cond.code yJ3_checkIndex_8e157 cJ3_checkIndex_8e157 3 (some .int), Cond.methodLink RJx4a65c 123 yJx4a65c_elementData_915e3, Cond.instanceMethod yJx4a65c_elementData_915e3, Cond.selects RJx4a65c yJx4a65c_elementData_915e3 yJx4a65c_elementData_915e3, Cond.code yJx4a65c_elementData_915e3 cJx4a65c_elementData_915e3 2 (some (.object "java/lang/Object")), Cond.fieldLink RJx4a65c 9 "java/util/ArrayList" "elementData" "[Ljava/lang/Object;", Cond.methodLink RX3 139 yX2_isOf, Cond.instanceMethod yX2_isOf, Cond.selects RX2 yX2_isOf yX2_isOf, Cond.initialized RX2, Cond.code yX2_isOf cX2_isOf 2 (some .boolean), Cond.fieldLink RX2 15 "Castdesk$Fight" "first" "I", Cond.fieldLink RX2 18 "Castdesk$Fight" "second" "I", Cond.methodLink RX3 73 yX3_begin]
def wsX3_fight_r3 : List Cond := [Cond.instanceMethod yX3_begin, Cond.selects RX3 yX3_begin yX3_begin, Cond.code yX3_begin cX3_begin 4 (some .int), Cond.classLink RX3 89 RX2, Cond.instantiable RX2 7, Cond.methodLink RX3 237 yX2_init, Cond.instanceMethod yX2_init, Cond.code yX2_init cX2_init 4 none, Cond.methodLink RX2 3 objectInit, Cond.instanceMethod objectInit, Cond.code objectInit ⟨#[0xb1]⟩ 1 none, Cond.fieldLink RX2 9 "Castdesk$Fight" "number" "I", Cond.fieldLink RX2 21 "Castdesk$Fight" "state" "I", Cond.fieldLink RX2 24 "Castdesk$Fight" "winner" "I", Cond.methodLink RX3 127 yJx4a65c_add_9ea2d, Cond.instanceMethod yJx4a65c_add_9ea2d, Cond.selects RJx4a65c yJx4a65c_add_9ea2d yJx4a65c_add_9ea2d, Cond.code yJx4a65c_add_9ea2d cJx4a65c_add_9ea2d 2 (some .boolean), Cond.fieldLink RJx4a65c 63 "java/util/ArrayList" "modCount" "I", Cond.sameField "java/util/ArrayList" "java/util/AbstractList" "modCount" "I", Cond.methodLink RJx4a65c 131 yJx4a65c_add_72be8, Cond.instanceMethod yJx4a65c_add_72be8, Cond.selects RJx4a65c yJx4a65c_add_72be8 yJx4a65c_add_72be8, Cond.code yJx4a65c_add_72be8 cJx4a65c_add_72be8 4 none]
def wsX3_fight_r4 : List Cond := [Cond.methodLink RJx4a65c 129 yJx4a65c_grow_d5877, Cond.instanceMethod yJx4a65c_grow_d5877, Cond.selects RJx4a65c yJx4a65c_grow_d5877 yJx4a65c_grow_d5877, Cond.code yJx4a65c_grow_d5877 cJx4a65c_grow_d5877 1 (some (.array (.object "java/lang/Object"))), Cond.methodLink RJx4a65c 69 yJx4a65c_grow_92f84, Cond.instanceMethod yJx4a65c_grow_92f84, Cond.selects RJx4a65c yJx4a65c_grow_92f84 yJx4a65c_grow_92f84, Cond.code yJx4a65c_grow_92f84 cJx4a65c_grow_92f84 4 (some (.array (.object "java/lang/Object"))), Cond.fieldLink RJx4a65c 39 "java/util/ArrayList" "DEFAULTCAPACITY_EMPTY_ELEMENTDATA" "[Ljava/lang/Object;", Cond.methodLink RJx4a65c 79 Lib.Math.max.name, Cond.static Lib.Math.max.name, Cond.initialized "java/lang/Math", Cond.code Lib.Math.max.name Lib.Math.max.code 2 (some .int), Cond.classLink RJx4a65c 7 "java/lang/Object", Cond.methodLink RJx4a65c 73 yJ8_newLength_cabcc, Cond.static yJ8_newLength_cabcc, Cond.initialized RJ8, Cond.code yJ8_newLength_cabcc cJ8_newLength_cabcc 4 (some .int), Cond.methodLink RJ8 194 Lib.Math.max.name, Cond.constant RJ8 200 (2147483639), Cond.methodLink RJ8 201 yJ8_hugeLength_7cf53, Cond.static yJ8_hugeLength_7cf53, Cond.code yJ8_hugeLength_7cf53 cJ8_hugeLength_7cf53 3 (some .int), Cond.methodLink RJx4a65c 66 yJ7_copyOf_1904c]
def wsX3_fight_r5 : List Cond := [Cond.static yJ7_copyOf_1904c, Cond.initialized RJ7, Cond.code yJ7_copyOf_1904c cJ7_copyOf_1904c 2 (some (.array (.object "java/lang/Object"))), Cond.methodLink RJ7 86 ⟨"java/lang/Object", "getClass", "()Ljava/lang/Class;"⟩, Cond.selects "[Ljava/lang/Object;" ⟨"java/lang/Object", "getClass", "()Ljava/lang/Class;"⟩ ⟨"java/lang/Object", "getClass", "()Ljava/lang/Class;"⟩, Cond.instanceMethod ⟨"java/lang/Object", "getClass", "()Ljava/lang/Class;"⟩, Cond.native ⟨"java/lang/Object", "getClass", "()Ljava/lang/Class;"⟩, Cond.methodLink RJ7 300 yJ7_copyOf_6403c, Cond.static yJ7_copyOf_6403c, Cond.code yJ7_copyOf_6403c cJ7_copyOf_6403c 4 (some (.array (.object "java/lang/Object"))), Cond.classLink RJ7 110 "[Ljava/lang/Object;", Cond.classLink RJ7 2 "java/lang/Object", Cond.methodLink RJ7 304 Lib.Math.min.name, Cond.static Lib.Math.min.name, Cond.code Lib.Math.min.name Lib.Math.min.code 2 (some .int), Cond.methodLink RJ7 150 arraycopyName, Cond.native arraycopyName, Cond.static arraycopyName, Cond.initialized "java/lang/System"]
def wsX3_fight : List Cond := .code yX3_fight cX3_fight 3 (some .int) :: ((wsX3_fight_r1 ++ (wsX3_fight_r2 ++ (wsX3_fight_r3 ++ (wsX3_fight_r4 ++ wsX3_fight_r5)))) ++ wsX30 ++ wsX20 ++ wsJx4a65c0 ++ (vx_atS RX3 66 "java/lang/IllegalArgumentException" ["java/lang/RuntimeException", "java/lang/Exception"]).filter goodWord ++ (vx_atS RX3 184 "java/lang/IndexOutOfBoundsException" ["java/lang/RuntimeException", "java/lang/Exception"]).filter goodWord ++ (vx_atS RX3 110 "java/lang/IllegalStateException" ["java/lang/RuntimeException", "java/lang/Exception"]).filter goodWord)
def wsX3_fightNumbered_r1 : List Cond := [Cond.classLink RX3 180 "java/lang/IndexOutOfBoundsException", Cond.initialized "java/lang/IndexOutOfBoundsException", Cond.fieldLink RX3 19 "Castdesk" "fights" "Ljava/util/ArrayList;", Cond.classLink RX3 89 "Castdesk$Fight", Cond.methodLink RX3 117 yJx4a65c_size_8abf5, Cond.instanceMethod yJx4a65c_size_8abf5, Cond.selects RJx4a65c yJx4a65c_size_8abf5 yJx4a65c_size_8abf5, Cond.initialized RJx4a65c, Cond.code yJx4a65c_size_8abf5 cJx4a65c_size_8abf5 1 (some .int), Cond.fieldLink RJx4a65c 48 "java/util/ArrayList" "size" "I", Cond.methodLink RX3 194 yJx4a65c_get_915e3, Cond.instanceMethod yJx4a65c_get_915e3, Cond.selects RJx4a65c yJx4a65c_get_915e3 yJx4a65c_get_915e3, Cond.code yJx4a65c_get_915e3 cJx4a65c_get_915e3 2 (some (.object "java/lang/Object")), Cond.methodLink RJx4a65c 118 yJ15_checkIndex_7cf53, Cond.static yJ15_checkIndex_7cf53, Cond.initialized RJ15, Cond.code yJ15_checkIndex_7cf53 cJ15_checkIndex_7cf53 2 (some .int), Cond.methodLink RJ15 105 yJ3_checkIndex_8e157, Cond.static yJ3_checkIndex_8e157, Cond.initialized RJ3, Cond.code yJ3_checkIndex_8e157 cJ3_checkIndex_8e157 3 (some .int), Cond.methodLink RJx4a65c 123 yJx4a65c_elementData_915e3, Cond.instanceMethod yJx4a65c_elementData_915e3]
def wsX3_fightNumbered_r2 : List Cond := [Cond.selects RJx4a65c yJx4a65c_elementData_915e3 yJx4a65c_elementData_915e3, Cond.code yJx4a65c_elementData_915e3 cJx4a65c_elementData_915e3 2 (some (.object "java/lang/Object")), Cond.fieldLink RJx4a65c 9 "java/util/ArrayList" "elementData" "[Ljava/lang/Object;"]
def wsX3_fightNumbered : List Cond := .code yX3_fightNumbered cX3_fightNumbered 2 (some (.object "Castdesk$Fight")) :: ((wsX3_fightNumbered_r1 ++ wsX3_fightNumbered_r2) ++ wsX30 ++ wsJx4a65c0 ++ (vx_atS RX3 184 "java/lang/IndexOutOfBoundsException" ["java/lang/RuntimeException", "java/lang/Exception"]).filter goodWord)
def wsX3_checkGoesOn : List Cond := .code yX3_checkGoesOn cX3_checkGoesOn 1 none :: ([.classLink RX3 106 "java/lang/IllegalStateException", .initialized "java/lang/IllegalStateException", .fieldLink RX3 100 "Castdesk$Fight" "state" "I"] ++ wsX20 ++ (vx_atS RX3 110 "java/lang/IllegalStateException" ["java/lang/RuntimeException", "java/lang/Exception"]).filter goodWord)
def wsX3_pointsUpTo_r1 : List Cond := [Cond.fieldLink RX3 26 "Castdesk" "entries" "Ljava/util/ArrayList;", Cond.classLink RX3 150 "Castdesk$Entry", Cond.fieldLink RX3 239 "Castdesk$Entry" "fight" "LCastdesk$Fight;", Cond.fieldLink RX3 243 "Castdesk$Entry" "player" "I", Cond.fieldLink RX3 246 "Castdesk$Entry" "frame" "I", Cond.fieldLink RX3 163 "Castdesk$Entry" "struck" "Z", Cond.fieldLink RX3 167 "Castdesk$Entry" "points" "I", Cond.methodLink RX3 117 yJx4a65c_size_8abf5, Cond.instanceMethod yJx4a65c_size_8abf5, Cond.selects RJx4a65c yJx4a65c_size_8abf5 yJx4a65c_size_8abf5, Cond.initialized RJx4a65c, Cond.code yJx4a65c_size_8abf5 cJx4a65c_size_8abf5 1 (some .int), Cond.fieldLink RJx4a65c 48 "java/util/ArrayList" "size" "I", Cond.methodLink RX3 194 yJx4a65c_get_915e3, Cond.instanceMethod yJx4a65c_get_915e3, Cond.selects RJx4a65c yJx4a65c_get_915e3 yJx4a65c_get_915e3, Cond.code yJx4a65c_get_915e3 cJx4a65c_get_915e3 2 (some (.object "java/lang/Object")), Cond.methodLink RJx4a65c 118 yJ15_checkIndex_7cf53, Cond.static yJ15_checkIndex_7cf53, Cond.initialized RJ15, Cond.code yJ15_checkIndex_7cf53 cJ15_checkIndex_7cf53 2 (some .int), Cond.methodLink RJ15 105 yJ3_checkIndex_8e157, Cond.static yJ3_checkIndex_8e157, Cond.initialized RJ3]
def wsX3_pointsUpTo_r2 : List Cond := [Cond.code yJ3_checkIndex_8e157 cJ3_checkIndex_8e157 3 (some .int), Cond.methodLink RJx4a65c 123 yJx4a65c_elementData_915e3, Cond.instanceMethod yJx4a65c_elementData_915e3, Cond.selects RJx4a65c yJx4a65c_elementData_915e3 yJx4a65c_elementData_915e3, Cond.code yJx4a65c_elementData_915e3 cJx4a65c_elementData_915e3 2 (some (.object "java/lang/Object")), Cond.fieldLink RJx4a65c 9 "java/util/ArrayList" "elementData" "[Ljava/lang/Object;"]
def wsX3_pointsUpTo : List Cond := .code yX3_pointsUpTo cX3_pointsUpTo 7 (some .int) :: ((wsX3_pointsUpTo_r1 ++ wsX3_pointsUpTo_r2) ++ wsX30 ++ wsX10 ++ wsJx4a65c0)
def wsX3_end_r1 : List Cond := [Cond.fieldLink RX3 85 "Castdesk" "now" "I", Cond.fieldLink RX3 88 "Castdesk$Fight" "first" "I", Cond.fieldLink RX3 97 "Castdesk$Fight" "second" "I", Cond.fieldLink RX3 100 "Castdesk$Fight" "state" "I", Cond.fieldLink RX3 103 "Castdesk$Fight" "winner" "I", Cond.fieldLink RX3 13 "Castdesk" "wins" "[I", Cond.methodLink RX3 77 yX3_fightNumbered, Cond.instanceMethod yX3_fightNumbered, Cond.selects RX3 yX3_fightNumbered yX3_fightNumbered, Cond.initialized RX3, Cond.code yX3_fightNumbered cX3_fightNumbered 2 (some (.object "Castdesk$Fight")), Cond.classLink RX3 180 "java/lang/IndexOutOfBoundsException", Cond.initialized "java/lang/IndexOutOfBoundsException", Cond.fieldLink RX3 19 "Castdesk" "fights" "Ljava/util/ArrayList;", Cond.classLink RX3 89 "Castdesk$Fight", Cond.methodLink RX3 117 yJx4a65c_size_8abf5, Cond.instanceMethod yJx4a65c_size_8abf5, Cond.selects RJx4a65c yJx4a65c_size_8abf5 yJx4a65c_size_8abf5, Cond.initialized RJx4a65c, Cond.code yJx4a65c_size_8abf5 cJx4a65c_size_8abf5 1 (some .int), Cond.fieldLink RJx4a65c 48 "java/util/ArrayList" "size" "I", Cond.methodLink RX3 194 yJx4a65c_get_915e3, Cond.instanceMethod yJx4a65c_get_915e3, Cond.selects RJx4a65c yJx4a65c_get_915e3 yJx4a65c_get_915e3]
def wsX3_end_r2 : List Cond := [Cond.code yJx4a65c_get_915e3 cJx4a65c_get_915e3 2 (some (.object "java/lang/Object")), Cond.methodLink RJx4a65c 118 yJ15_checkIndex_7cf53, Cond.static yJ15_checkIndex_7cf53, Cond.initialized RJ15, Cond.code yJ15_checkIndex_7cf53 cJ15_checkIndex_7cf53 2 (some .int), Cond.methodLink RJ15 105 yJ3_checkIndex_8e157, Cond.static yJ3_checkIndex_8e157, Cond.initialized RJ3, Cond.code yJ3_checkIndex_8e157 cJ3_checkIndex_8e157 3 (some .int), Cond.methodLink RJx4a65c 123 yJx4a65c_elementData_915e3, Cond.instanceMethod yJx4a65c_elementData_915e3, Cond.selects RJx4a65c yJx4a65c_elementData_915e3 yJx4a65c_elementData_915e3, Cond.code yJx4a65c_elementData_915e3 cJx4a65c_elementData_915e3 2 (some (.object "java/lang/Object")), Cond.fieldLink RJx4a65c 9 "java/util/ArrayList" "elementData" "[Ljava/lang/Object;", Cond.methodLink RX3 81 yX3_checkGoesOn, Cond.static yX3_checkGoesOn, Cond.code yX3_checkGoesOn cX3_checkGoesOn 1 none, Cond.classLink RX3 106 "java/lang/IllegalStateException", Cond.initialized "java/lang/IllegalStateException", Cond.methodLink RX3 93 yX3_pointsUpTo, Cond.instanceMethod yX3_pointsUpTo, Cond.selects RX3 yX3_pointsUpTo yX3_pointsUpTo, Cond.code yX3_pointsUpTo cX3_pointsUpTo 7 (some .int), Cond.fieldLink RX3 26 "Castdesk" "entries" "Ljava/util/ArrayList;"]
def wsX3_end_r3 : List Cond := [Cond.classLink RX3 150 "Castdesk$Entry", Cond.fieldLink RX3 239 "Castdesk$Entry" "fight" "LCastdesk$Fight;", Cond.fieldLink RX3 243 "Castdesk$Entry" "player" "I", Cond.fieldLink RX3 246 "Castdesk$Entry" "frame" "I", Cond.fieldLink RX3 163 "Castdesk$Entry" "struck" "Z", Cond.fieldLink RX3 167 "Castdesk$Entry" "points" "I"]
def wsX3_end : List Cond := .code yX3_end cX3_end 5 (some .int) :: ((wsX3_end_r1 ++ (wsX3_end_r2 ++ wsX3_end_r3)) ++ wsX30 ++ wsX20 ++ wsJx4a65c0 ++ wsX10 ++ (vx_atS RX3 184 "java/lang/IndexOutOfBoundsException" ["java/lang/RuntimeException", "java/lang/Exception"]).filter goodWord ++ (vx_atS RX3 110 "java/lang/IllegalStateException" ["java/lang/RuntimeException", "java/lang/Exception"]).filter goodWord)
def wsX3_strikeAllOf_r1 : List Cond := [Cond.fieldLink RX3 26 "Castdesk" "entries" "Ljava/util/ArrayList;", Cond.classLink RX3 150 "Castdesk$Entry", Cond.fieldLink RX3 239 "Castdesk$Entry" "fight" "LCastdesk$Fight;", Cond.fieldLink RX3 163 "Castdesk$Entry" "struck" "Z", Cond.methodLink RX3 117 yJx4a65c_size_8abf5, Cond.instanceMethod yJx4a65c_size_8abf5, Cond.selects RJx4a65c yJx4a65c_size_8abf5 yJx4a65c_size_8abf5, Cond.initialized RJx4a65c, Cond.code yJx4a65c_size_8abf5 cJx4a65c_size_8abf5 1 (some .int), Cond.fieldLink RJx4a65c 48 "java/util/ArrayList" "size" "I", Cond.methodLink RX3 194 yJx4a65c_get_915e3, Cond.instanceMethod yJx4a65c_get_915e3, Cond.selects RJx4a65c yJx4a65c_get_915e3 yJx4a65c_get_915e3, Cond.code yJx4a65c_get_915e3 cJx4a65c_get_915e3 2 (some (.object "java/lang/Object")), Cond.methodLink RJx4a65c 118 yJ15_checkIndex_7cf53, Cond.static yJ15_checkIndex_7cf53, Cond.initialized RJ15, Cond.code yJ15_checkIndex_7cf53 cJ15_checkIndex_7cf53 2 (some .int), Cond.methodLink RJ15 105 yJ3_checkIndex_8e157, Cond.static yJ3_checkIndex_8e157, Cond.initialized RJ3, Cond.code yJ3_checkIndex_8e157 cJ3_checkIndex_8e157 3 (some .int), Cond.methodLink RJx4a65c 123 yJx4a65c_elementData_915e3, Cond.instanceMethod yJx4a65c_elementData_915e3]
def wsX3_strikeAllOf_r2 : List Cond := [Cond.selects RJx4a65c yJx4a65c_elementData_915e3 yJx4a65c_elementData_915e3, Cond.code yJx4a65c_elementData_915e3 cJx4a65c_elementData_915e3 2 (some (.object "java/lang/Object")), Cond.fieldLink RJx4a65c 9 "java/util/ArrayList" "elementData" "[Ljava/lang/Object;"]
def wsX3_strikeAllOf : List Cond := .code yX3_strikeAllOf cX3_strikeAllOf 4 none :: ((wsX3_strikeAllOf_r1 ++ wsX3_strikeAllOf_r2) ++ wsX30 ++ wsX10 ++ wsJx4a65c0)
def wsX3_uncountFramesOf : List Cond := .code yX3_uncountFramesOf cX3_uncountFramesOf 4 none :: ([.fieldLink RX3 85 "Castdesk" "now" "I", .fieldLink RX3 51 "Castdesk" "shownSponsor" "[I", .fieldLink RX3 45 "Castdesk" "shownFight" "[I", .fieldLink RX3 249 "Castdesk$Fight" "number" "I", .fieldLink RX3 32 "Castdesk" "countedFrames" "[I"] ++ wsX30 ++ wsX20)
def wsX3_replay_r1 : List Cond := [Cond.classLink RX3 106 "java/lang/IllegalStateException", Cond.initialized "java/lang/IllegalStateException", Cond.fieldLink RX3 100 "Castdesk$Fight" "state" "I", Cond.fieldLink RX3 88 "Castdesk$Fight" "first" "I", Cond.fieldLink RX3 97 "Castdesk$Fight" "second" "I", Cond.fieldLink RX3 103 "Castdesk$Fight" "winner" "I", Cond.fieldLink RX3 13 "Castdesk" "wins" "[I", Cond.methodLink RX3 77 yX3_fightNumbered, Cond.instanceMethod yX3_fightNumbered, Cond.selects RX3 yX3_fightNumbered yX3_fightNumbered, Cond.initialized RX3, Cond.code yX3_fightNumbered cX3_fightNumbered 2 (some (.object "Castdesk$Fight")), Cond.classLink RX3 180 "java/lang/IndexOutOfBoundsException", Cond.initialized "java/lang/IndexOutOfBoundsException", Cond.fieldLink RX3 19 "Castdesk" "fights" "Ljava/util/ArrayList;", Cond.classLink RX3 89 "Castdesk$Fight", Cond.methodLink RX3 117 yJx4a65c_size_8abf5, Cond.instanceMethod yJx4a65c_size_8abf5, Cond.selects RJx4a65c yJx4a65c_size_8abf5 yJx4a65c_size_8abf5, Cond.initialized RJx4a65c, Cond.code yJx4a65c_size_8abf5 cJx4a65c_size_8abf5 1 (some .int), Cond.fieldLink RJx4a65c 48 "java/util/ArrayList" "size" "I", Cond.methodLink RX3 194 yJx4a65c_get_915e3, Cond.instanceMethod yJx4a65c_get_915e3]
def wsX3_replay_r2 : List Cond := [Cond.selects RJx4a65c yJx4a65c_get_915e3 yJx4a65c_get_915e3, Cond.code yJx4a65c_get_915e3 cJx4a65c_get_915e3 2 (some (.object "java/lang/Object")), Cond.methodLink RJx4a65c 118 yJ15_checkIndex_7cf53, Cond.static yJ15_checkIndex_7cf53, Cond.initialized RJ15, Cond.code yJ15_checkIndex_7cf53 cJ15_checkIndex_7cf53 2 (some .int), Cond.methodLink RJ15 105 yJ3_checkIndex_8e157, Cond.static yJ3_checkIndex_8e157, Cond.initialized RJ3, Cond.code yJ3_checkIndex_8e157 cJ3_checkIndex_8e157 3 (some .int), Cond.methodLink RJx4a65c 123 yJx4a65c_elementData_915e3, Cond.instanceMethod yJx4a65c_elementData_915e3, Cond.selects RJx4a65c yJx4a65c_elementData_915e3 yJx4a65c_elementData_915e3, Cond.code yJx4a65c_elementData_915e3 cJx4a65c_elementData_915e3 2 (some (.object "java/lang/Object")), Cond.fieldLink RJx4a65c 9 "java/util/ArrayList" "elementData" "[Ljava/lang/Object;", Cond.methodLink RX3 69 yX3_checkCanBegin, Cond.instanceMethod yX3_checkCanBegin, Cond.selects RX3 yX3_checkCanBegin yX3_checkCanBegin, Cond.code yX3_checkCanBegin cX3_checkCanBegin 5 none, Cond.methodLink RX3 139 yX2_isOf, Cond.instanceMethod yX2_isOf, Cond.selects RX2 yX2_isOf yX2_isOf, Cond.initialized RX2, Cond.code yX2_isOf cX2_isOf 2 (some .boolean)]
def wsX3_replay_r3 : List Cond := [Cond.fieldLink RX2 15 "Castdesk$Fight" "first" "I", Cond.fieldLink RX2 18 "Castdesk$Fight" "second" "I", Cond.methodLink RX3 111 yX3_strikeAllOf, Cond.instanceMethod yX3_strikeAllOf, Cond.selects RX3 yX3_strikeAllOf yX3_strikeAllOf, Cond.code yX3_strikeAllOf cX3_strikeAllOf 4 none, Cond.fieldLink RX3 26 "Castdesk" "entries" "Ljava/util/ArrayList;", Cond.classLink RX3 150 "Castdesk$Entry", Cond.fieldLink RX3 239 "Castdesk$Entry" "fight" "LCastdesk$Fight;", Cond.fieldLink RX3 163 "Castdesk$Entry" "struck" "Z", Cond.methodLink RX3 114 yX3_uncountFramesOf, Cond.instanceMethod yX3_uncountFramesOf, Cond.selects RX3 yX3_uncountFramesOf yX3_uncountFramesOf, Cond.code yX3_uncountFramesOf cX3_uncountFramesOf 4 none, Cond.fieldLink RX3 85 "Castdesk" "now" "I", Cond.fieldLink RX3 51 "Castdesk" "shownSponsor" "[I", Cond.fieldLink RX3 45 "Castdesk" "shownFight" "[I", Cond.fieldLink RX3 249 "Castdesk$Fight" "number" "I", Cond.fieldLink RX3 32 "Castdesk" "countedFrames" "[I", Cond.methodLink RX3 73 yX3_begin, Cond.instanceMethod yX3_begin, Cond.selects RX3 yX3_begin yX3_begin, Cond.code yX3_begin cX3_begin 4 (some .int), Cond.classLink RX3 89 RX2]
def wsX3_replay_r4 : List Cond := [Cond.instantiable RX2 7, Cond.methodLink RX3 237 yX2_init, Cond.instanceMethod yX2_init, Cond.code yX2_init cX2_init 4 none, Cond.methodLink RX2 3 objectInit, Cond.instanceMethod objectInit, Cond.code objectInit ⟨#[0xb1]⟩ 1 none, Cond.fieldLink RX2 9 "Castdesk$Fight" "number" "I", Cond.fieldLink RX2 21 "Castdesk$Fight" "state" "I", Cond.fieldLink RX2 24 "Castdesk$Fight" "winner" "I", Cond.methodLink RX3 127 yJx4a65c_add_9ea2d, Cond.instanceMethod yJx4a65c_add_9ea2d, Cond.selects RJx4a65c yJx4a65c_add_9ea2d yJx4a65c_add_9ea2d, Cond.code yJx4a65c_add_9ea2d cJx4a65c_add_9ea2d 2 (some .boolean), Cond.fieldLink RJx4a65c 63 "java/util/ArrayList" "modCount" "I", Cond.sameField "java/util/ArrayList" "java/util/AbstractList" "modCount" "I", Cond.methodLink RJx4a65c 131 yJx4a65c_add_72be8, Cond.instanceMethod yJx4a65c_add_72be8, Cond.selects RJx4a65c yJx4a65c_add_72be8 yJx4a65c_add_72be8, Cond.code yJx4a65c_add_72be8 cJx4a65c_add_72be8 4 none, Cond.methodLink RJx4a65c 129 yJx4a65c_grow_d5877, Cond.instanceMethod yJx4a65c_grow_d5877, Cond.selects RJx4a65c yJx4a65c_grow_d5877 yJx4a65c_grow_d5877, Cond.code yJx4a65c_grow_d5877 cJx4a65c_grow_d5877 1 (some (.array (.object "java/lang/Object")))]
def wsX3_replay_r5 : List Cond := [Cond.methodLink RJx4a65c 69 yJx4a65c_grow_92f84, Cond.instanceMethod yJx4a65c_grow_92f84, Cond.selects RJx4a65c yJx4a65c_grow_92f84 yJx4a65c_grow_92f84, Cond.code yJx4a65c_grow_92f84 cJx4a65c_grow_92f84 4 (some (.array (.object "java/lang/Object"))), Cond.fieldLink RJx4a65c 39 "java/util/ArrayList" "DEFAULTCAPACITY_EMPTY_ELEMENTDATA" "[Ljava/lang/Object;", Cond.methodLink RJx4a65c 79 Lib.Math.max.name, Cond.static Lib.Math.max.name, Cond.initialized "java/lang/Math", Cond.code Lib.Math.max.name Lib.Math.max.code 2 (some .int), Cond.classLink RJx4a65c 7 "java/lang/Object", Cond.methodLink RJx4a65c 73 yJ8_newLength_cabcc, Cond.static yJ8_newLength_cabcc, Cond.initialized RJ8, Cond.code yJ8_newLength_cabcc cJ8_newLength_cabcc 4 (some .int), Cond.methodLink RJ8 194 Lib.Math.max.name, Cond.constant RJ8 200 (2147483639), Cond.methodLink RJ8 201 yJ8_hugeLength_7cf53, Cond.static yJ8_hugeLength_7cf53, Cond.code yJ8_hugeLength_7cf53 cJ8_hugeLength_7cf53 3 (some .int), Cond.methodLink RJx4a65c 66 yJ7_copyOf_1904c, Cond.static yJ7_copyOf_1904c, Cond.initialized RJ7, Cond.code yJ7_copyOf_1904c cJ7_copyOf_1904c 2 (some (.array (.object "java/lang/Object"))), Cond.methodLink RJ7 86 ⟨"java/lang/Object", "getClass", "()Ljava/lang/Class;"⟩]
def wsX3_replay_r6 : List Cond := [Cond.selects "[Ljava/lang/Object;" ⟨"java/lang/Object", "getClass", "()Ljava/lang/Class;"⟩ ⟨"java/lang/Object", "getClass", "()Ljava/lang/Class;"⟩, Cond.instanceMethod ⟨"java/lang/Object", "getClass", "()Ljava/lang/Class;"⟩, Cond.native ⟨"java/lang/Object", "getClass", "()Ljava/lang/Class;"⟩, Cond.methodLink RJ7 300 yJ7_copyOf_6403c, Cond.static yJ7_copyOf_6403c, Cond.code yJ7_copyOf_6403c cJ7_copyOf_6403c 4 (some (.array (.object "java/lang/Object"))), Cond.classLink RJ7 110 "[Ljava/lang/Object;", Cond.classLink RJ7 2 "java/lang/Object", Cond.methodLink RJ7 304 Lib.Math.min.name, Cond.static Lib.Math.min.name, Cond.code Lib.Math.min.name Lib.Math.min.code 2 (some .int), Cond.methodLink RJ7 150 arraycopyName, Cond.native arraycopyName, Cond.static arraycopyName, Cond.initialized "java/lang/System"]
def wsX3_replay : List Cond := .code yX3_replay cX3_replay 3 (some .int) :: ((wsX3_replay_r1 ++ (wsX3_replay_r2 ++ (wsX3_replay_r3 ++ (wsX3_replay_r4 ++ (wsX3_replay_r5 ++ wsX3_replay_r6))))) ++ wsX20 ++ wsX30 ++ wsJx4a65c0 ++ wsX10 ++ (vx_atS RX3 110 "java/lang/IllegalStateException" ["java/lang/RuntimeException", "java/lang/Exception"]).filter goodWord ++ (vx_atS RX3 184 "java/lang/IndexOutOfBoundsException" ["java/lang/RuntimeException", "java/lang/Exception"]).filter goodWord)
def wsX3_camera_r1 : List Cond := [Cond.classLink RX3 106 "java/lang/IllegalStateException", Cond.initialized "java/lang/IllegalStateException", Cond.fieldLink RX3 23 "Castdesk" "cameras" "Ljava/util/ArrayList;", Cond.classLink RX3 123 RX0, Cond.instantiable RX0 4, Cond.initialized RX0, Cond.methodLink RX3 58 yX3_checkRange, Cond.static yX3_checkRange, Cond.initialized RX3, Cond.code yX3_checkRange cX3_checkRange 3 none, Cond.classLink RX3 62 "java/lang/IllegalArgumentException", Cond.initialized "java/lang/IllegalArgumentException", Cond.methodLink RX3 117 yJx4a65c_size_8abf5, Cond.instanceMethod yJx4a65c_size_8abf5, Cond.selects RJx4a65c yJx4a65c_size_8abf5 yJx4a65c_size_8abf5, Cond.initialized RJx4a65c, Cond.code yJx4a65c_size_8abf5 cJx4a65c_size_8abf5 1 (some .int), Cond.fieldLink RJx4a65c 48 "java/util/ArrayList" "size" "I", Cond.methodLink RX3 125 yX0_init, Cond.instanceMethod yX0_init, Cond.code yX0_init cX0_init 3 none, Cond.methodLink RX0 1 objectInit, Cond.instanceMethod objectInit, Cond.code objectInit ⟨#[0xb1]⟩ 1 none]
def wsX3_camera_r2 : List Cond := [Cond.fieldLink RX0 7 "Castdesk$Camera" "stamina" "I", Cond.fieldLink RX0 13 "Castdesk$Camera" "rest" "I", Cond.methodLink RX3 127 yJx4a65c_add_9ea2d, Cond.instanceMethod yJx4a65c_add_9ea2d, Cond.selects RJx4a65c yJx4a65c_add_9ea2d yJx4a65c_add_9ea2d, Cond.code yJx4a65c_add_9ea2d cJx4a65c_add_9ea2d 2 (some .boolean), Cond.fieldLink RJx4a65c 63 "java/util/ArrayList" "modCount" "I", Cond.sameField "java/util/ArrayList" "java/util/AbstractList" "modCount" "I", Cond.fieldLink RJx4a65c 9 "java/util/ArrayList" "elementData" "[Ljava/lang/Object;", Cond.methodLink RJx4a65c 131 yJx4a65c_add_72be8, Cond.instanceMethod yJx4a65c_add_72be8, Cond.selects RJx4a65c yJx4a65c_add_72be8 yJx4a65c_add_72be8, Cond.code yJx4a65c_add_72be8 cJx4a65c_add_72be8 4 none, Cond.methodLink RJx4a65c 129 yJx4a65c_grow_d5877, Cond.instanceMethod yJx4a65c_grow_d5877, Cond.selects RJx4a65c yJx4a65c_grow_d5877 yJx4a65c_grow_d5877, Cond.code yJx4a65c_grow_d5877 cJx4a65c_grow_d5877 1 (some (.array (.object "java/lang/Object"))), Cond.methodLink RJx4a65c 69 yJx4a65c_grow_92f84, Cond.instanceMethod yJx4a65c_grow_92f84, Cond.selects RJx4a65c yJx4a65c_grow_92f84 yJx4a65c_grow_92f84, Cond.code yJx4a65c_grow_92f84 cJx4a65c_grow_92f84 4 (some (.array (.object "java/lang/Object"))), Cond.fieldLink RJx4a65c 39 "java/util/ArrayList" "DEFAULTCAPACITY_EMPTY_ELEMENTDATA" "[Ljava/lang/Object;", Cond.methodLink RJx4a65c 79 Lib.Math.max.name, Cond.static Lib.Math.max.name]
def wsX3_camera_r3 : List Cond := [Cond.initialized "java/lang/Math", Cond.code Lib.Math.max.name Lib.Math.max.code 2 (some .int), Cond.classLink RJx4a65c 7 "java/lang/Object", Cond.methodLink RJx4a65c 73 yJ8_newLength_cabcc, Cond.static yJ8_newLength_cabcc, Cond.initialized RJ8, Cond.code yJ8_newLength_cabcc cJ8_newLength_cabcc 4 (some .int), Cond.methodLink RJ8 194 Lib.Math.max.name, Cond.constant RJ8 200 (2147483639), Cond.methodLink RJ8 201 yJ8_hugeLength_7cf53, Cond.static yJ8_hugeLength_7cf53, Cond.code yJ8_hugeLength_7cf53 cJ8_hugeLength_7cf53 3 (some .int), Cond.methodLink RJx4a65c 66 yJ7_copyOf_1904c, Cond.static yJ7_copyOf_1904c, Cond.initialized RJ7, Cond.code yJ7_copyOf_1904c cJ7_copyOf_1904c 2 (some (.array (.object "java/lang/Object"))), Cond.methodLink RJ7 86 ⟨"java/lang/Object", "getClass", "()Ljava/lang/Class;"⟩, Cond.selects "[Ljava/lang/Object;" ⟨"java/lang/Object", "getClass", "()Ljava/lang/Class;"⟩ ⟨"java/lang/Object", "getClass", "()Ljava/lang/Class;"⟩, Cond.instanceMethod ⟨"java/lang/Object", "getClass", "()Ljava/lang/Class;"⟩, Cond.native ⟨"java/lang/Object", "getClass", "()Ljava/lang/Class;"⟩, Cond.methodLink RJ7 300 yJ7_copyOf_6403c, Cond.static yJ7_copyOf_6403c, Cond.code yJ7_copyOf_6403c cJ7_copyOf_6403c 4 (some (.array (.object "java/lang/Object"))), Cond.classLink RJ7 110 "[Ljava/lang/Object;"]
def wsX3_camera_r4 : List Cond := [Cond.classLink RJ7 2 "java/lang/Object", Cond.methodLink RJ7 304 Lib.Math.min.name, Cond.static Lib.Math.min.name, Cond.code Lib.Math.min.name Lib.Math.min.code 2 (some .int), Cond.methodLink RJ7 150 arraycopyName, Cond.native arraycopyName, Cond.static arraycopyName, Cond.initialized "java/lang/System"]
def wsX3_camera : List Cond := .code yX3_camera cX3_camera 3 (some .int) :: ((wsX3_camera_r1 ++ (wsX3_camera_r2 ++ (wsX3_camera_r3 ++ wsX3_camera_r4))) ++ wsX30 ++ wsX00 ++ wsJx4a65c0 ++ (vx_atS RX3 110 "java/lang/IllegalStateException" ["java/lang/RuntimeException", "java/lang/Exception"]).filter goodWord ++ (vx_atS RX3 66 "java/lang/IllegalArgumentException" ["java/lang/RuntimeException", "java/lang/Exception"]).filter goodWord)
def wsX3_letViewersSee : List Cond := .code yX3_letViewersSee cX3_letViewersSee 1 none :: ([.fieldLink RX3 42 "Castdesk" "seenUpTo" "I", .fieldLink RX3 85 "Castdesk" "now" "I", .fieldLink RX3 38 "Castdesk" "delayFrames" "I", .methodLink RX3 285 Lib.Math.max.name, .static Lib.Math.max.name, .initialized "java/lang/Math", .code Lib.Math.max.name Lib.Math.max.code 2 (some .int)] ++ wsX30)
def wsX3_delay : List Cond := .code yX3_delay cX3_delay 3 (some .int) :: ([.fieldLink RX3 38 "Castdesk" "delayFrames" "I", .methodLink RX3 58 yX3_checkRange, .static yX3_checkRange, .initialized RX3, .code yX3_checkRange cX3_checkRange 3 none, .classLink RX3 62 "java/lang/IllegalArgumentException", .initialized "java/lang/IllegalArgumentException", .methodLink RX3 131 yX3_letViewersSee, .instanceMethod yX3_letViewersSee, .selects RX3 yX3_letViewersSee yX3_letViewersSee, .code yX3_letViewersSee cX3_letViewersSee 1 none, .fieldLink RX3 42 "Castdesk" "seenUpTo" "I", .fieldLink RX3 85 "Castdesk" "now" "I", .methodLink RX3 285 Lib.Math.max.name, .static Lib.Math.max.name, .initialized "java/lang/Math", .code Lib.Math.max.name Lib.Math.max.code 2 (some .int)] ++ wsX30 ++ (vx_atS RX3 66 "java/lang/IllegalArgumentException" ["java/lang/RuntimeException", "java/lang/Exception"]).filter goodWord)
def wsX3_ofFrameAhead : List Cond := .code yX3_ofFrameAhead cX3_ofFrameAhead 2 (some .int) :: ([.fieldLink RX3 85 "Castdesk" "now" "I"] ++ wsX30)
def wsX3_heatOf : List Cond := .code yX3_heatOf cX3_heatOf 2 (some .int) :: ([.fieldLink RX3 9 "Castdesk" "ranks" "[I", .fieldLink RX3 88 "Castdesk$Fight" "first" "I", .fieldLink RX3 97 "Castdesk$Fight" "second" "I", .methodLink RX3 276 yX2_heatOfBlows, .instanceMethod yX2_heatOfBlows, .selects RX2 yX2_heatOfBlows yX2_heatOfBlows, .initialized RX2, .code yX2_heatOfBlows cX2_heatOfBlows 1 (some .int), .fieldLink RX2 27 "Castdesk$Fight" "blowFrames" "I", .methodLink RX2 30 yJ6_bitCount_0f7a4, .static yJ6_bitCount_0f7a4, .initialized RJ6, .code yJ6_bitCount_0f7a4 cJ6_bitCount_0f7a4 1 (some .int), .constant RJ6 265 (1431655765), .constant RJ6 266 (858993459), .constant RJ6 267 (252645135)] ++ wsX30 ++ wsX20)
def wsX3_hottestFight_r1 : List Cond := [Cond.fieldLink RX3 45 "Castdesk" "shownFight" "[I", Cond.fieldLink RX3 19 "Castdesk" "fights" "Ljava/util/ArrayList;", Cond.classLink RX3 89 "Castdesk$Fight", Cond.fieldLink RX3 100 "Castdesk$Fight" "state" "I", Cond.methodLink RX3 268 yX3_ofFrameAhead, Cond.instanceMethod yX3_ofFrameAhead, Cond.selects RX3 yX3_ofFrameAhead yX3_ofFrameAhead, Cond.initialized RX3, Cond.code yX3_ofFrameAhead cX3_ofFrameAhead 2 (some .int), Cond.fieldLink RX3 85 "Castdesk" "now" "I", Cond.methodLink RX3 117 yJx4a65c_size_8abf5, Cond.instanceMethod yJx4a65c_size_8abf5, Cond.selects RJx4a65c yJx4a65c_size_8abf5 yJx4a65c_size_8abf5, Cond.initialized RJx4a65c, Cond.code yJx4a65c_size_8abf5 cJx4a65c_size_8abf5 1 (some .int), Cond.fieldLink RJx4a65c 48 "java/util/ArrayList" "size" "I", Cond.methodLink RX3 194 yJx4a65c_get_915e3, Cond.instanceMethod yJx4a65c_get_915e3, Cond.selects RJx4a65c yJx4a65c_get_915e3 yJx4a65c_get_915e3, Cond.code yJx4a65c_get_915e3 cJx4a65c_get_915e3 2 (some (.object "java/lang/Object")), Cond.methodLink RJx4a65c 118 yJ15_checkIndex_7cf53, Cond.static yJ15_checkIndex_7cf53, Cond.initialized RJ15, Cond.code yJ15_checkIndex_7cf53 cJ15_checkIndex_7cf53 2 (some .int)]
def wsX3_hottestFight_r2 : List Cond := [Cond.methodLink RJ15 105 yJ3_checkIndex_8e157, Cond.static yJ3_checkIndex_8e157, Cond.initialized RJ3, Cond.code yJ3_checkIndex_8e157 cJ3_checkIndex_8e157 3 (some .int), Cond.methodLink RJx4a65c 123 yJx4a65c_elementData_915e3, Cond.instanceMethod yJx4a65c_elementData_915e3, Cond.selects RJx4a65c yJx4a65c_elementData_915e3 yJx4a65c_elementData_915e3, Cond.code yJx4a65c_elementData_915e3 cJx4a65c_elementData_915e3 2 (some (.object "java/lang/Object")), Cond.fieldLink RJx4a65c 9 "java/util/ArrayList" "elementData" "[Ljava/lang/Object;", Cond.methodLink RX3 272 yX3_heatOf, Cond.instanceMethod yX3_heatOf, Cond.selects RX3 yX3_heatOf yX3_heatOf, Cond.code yX3_heatOf cX3_heatOf 2 (some .int), Cond.fieldLink RX3 9 "Castdesk" "ranks" "[I", Cond.fieldLink RX3 88 "Castdesk$Fight" "first" "I", Cond.fieldLink RX3 97 "Castdesk$Fight" "second" "I", Cond.methodLink RX3 276 yX2_heatOfBlows, Cond.instanceMethod yX2_heatOfBlows, Cond.selects RX2 yX2_heatOfBlows yX2_heatOfBlows, Cond.initialized RX2, Cond.code yX2_heatOfBlows cX2_heatOfBlows 1 (some .int), Cond.fieldLink RX2 27 "Castdesk$Fight" "blowFrames" "I", Cond.methodLink RX2 30 yJ6_bitCount_0f7a4, Cond.static yJ6_bitCount_0f7a4]
def wsX3_hottestFight_r3 : List Cond := [Cond.initialized RJ6, Cond.code yJ6_bitCount_0f7a4 cJ6_bitCount_0f7a4 1 (some .int), Cond.constant RJ6 265 (1431655765), Cond.constant RJ6 266 (858993459), Cond.constant RJ6 267 (252645135)]
def wsX3_hottestFight : List Cond := .code yX3_hottestFight cX3_hottestFight 7 (some (.object "Castdesk$Fight")) :: ((wsX3_hottestFight_r1 ++ (wsX3_hottestFight_r2 ++ wsX3_hottestFight_r3)) ++ wsX30 ++ wsX20 ++ wsJx4a65c0)
def wsX3_canBeOnAir_r1 : List Cond := [Cond.fieldLink RX3 23 "Castdesk" "cameras" "Ljava/util/ArrayList;", Cond.classLink RX3 123 "Castdesk$Camera", Cond.fieldLink RX3 201 "Castdesk$Camera" "toBeOff" "I", Cond.methodLink RX3 117 yJx4a65c_size_8abf5, Cond.instanceMethod yJx4a65c_size_8abf5, Cond.selects RJx4a65c yJx4a65c_size_8abf5 yJx4a65c_size_8abf5, Cond.initialized RJx4a65c, Cond.code yJx4a65c_size_8abf5 cJx4a65c_size_8abf5 1 (some .int), Cond.fieldLink RJx4a65c 48 "java/util/ArrayList" "size" "I", Cond.methodLink RX3 194 yJx4a65c_get_915e3, Cond.instanceMethod yJx4a65c_get_915e3, Cond.selects RJx4a65c yJx4a65c_get_915e3 yJx4a65c_get_915e3, Cond.code yJx4a65c_get_915e3 cJx4a65c_get_915e3 2 (some (.object "java/lang/Object")), Cond.methodLink RJx4a65c 118 yJ15_checkIndex_7cf53, Cond.static yJ15_checkIndex_7cf53, Cond.initialized RJ15, Cond.code yJ15_checkIndex_7cf53 cJ15_checkIndex_7cf53 2 (some .int), Cond.methodLink RJ15 105 yJ3_checkIndex_8e157, Cond.static yJ3_checkIndex_8e157, Cond.initialized RJ3, Cond.code yJ3_checkIndex_8e157 cJ3_checkIndex_8e157 3 (some .int), Cond.methodLink RJx4a65c 123 yJx4a65c_elementData_915e3, Cond.instanceMethod yJx4a65c_elementData_915e3, Cond.selects RJx4a65c yJx4a65c_elementData_915e3 yJx4a65c_elementData_915e3]
def wsX3_canBeOnAir_r2 : List Cond := [Cond.code yJx4a65c_elementData_915e3 cJx4a65c_elementData_915e3 2 (some (.object "java/lang/Object")), Cond.fieldLink RJx4a65c 9 "java/util/ArrayList" "elementData" "[Ljava/lang/Object;"]
def wsX3_canBeOnAir : List Cond := .code yX3_canBeOnAir cX3_canBeOnAir 2 (some .boolean) :: ((wsX3_canBeOnAir_r1 ++ wsX3_canBeOnAir_r2) ++ wsX30 ++ wsX00 ++ wsJx4a65c0)
def wsX3_cameraForAir_r1 : List Cond := [Cond.fieldLink RX3 48 "Castdesk" "shownCamera" "[I", Cond.fieldLink RX3 23 "Castdesk" "cameras" "Ljava/util/ArrayList;", Cond.methodLink RX3 268 yX3_ofFrameAhead, Cond.instanceMethod yX3_ofFrameAhead, Cond.selects RX3 yX3_ofFrameAhead yX3_ofFrameAhead, Cond.initialized RX3, Cond.code yX3_ofFrameAhead cX3_ofFrameAhead 2 (some .int), Cond.fieldLink RX3 85 "Castdesk" "now" "I", Cond.methodLink RX3 279 yX3_canBeOnAir, Cond.instanceMethod yX3_canBeOnAir, Cond.selects RX3 yX3_canBeOnAir yX3_canBeOnAir, Cond.code yX3_canBeOnAir cX3_canBeOnAir 2 (some .boolean), Cond.classLink RX3 123 "Castdesk$Camera", Cond.fieldLink RX3 201 "Castdesk$Camera" "toBeOff" "I", Cond.methodLink RX3 117 yJx4a65c_size_8abf5, Cond.instanceMethod yJx4a65c_size_8abf5, Cond.selects RJx4a65c yJx4a65c_size_8abf5 yJx4a65c_size_8abf5, Cond.initialized RJx4a65c, Cond.code yJx4a65c_size_8abf5 cJx4a65c_size_8abf5 1 (some .int), Cond.fieldLink RJx4a65c 48 "java/util/ArrayList" "size" "I", Cond.methodLink RX3 194 yJx4a65c_get_915e3, Cond.instanceMethod yJx4a65c_get_915e3, Cond.selects RJx4a65c yJx4a65c_get_915e3 yJx4a65c_get_915e3, Cond.code yJx4a65c_get_915e3 cJx4a65c_get_915e3 2 (some (.object "java/lang/Object"))]
def wsX3_cameraForAir_r2 : List Cond := [Cond.methodLink RJx4a65c 118 yJ15_checkIndex_7cf53, Cond.static yJ15_checkIndex_7cf53, Cond.initialized RJ15, Cond.code yJ15_checkIndex_7cf53 cJ15_checkIndex_7cf53 2 (some .int), Cond.methodLink RJ15 105 yJ3_checkIndex_8e157, Cond.static yJ3_checkIndex_8e157, Cond.initialized RJ3, Cond.code yJ3_checkIndex_8e157 cJ3_checkIndex_8e157 3 (some .int), Cond.methodLink RJx4a65c 123 yJx4a65c_elementData_915e3, Cond.instanceMethod yJx4a65c_elementData_915e3, Cond.selects RJx4a65c yJx4a65c_elementData_915e3 yJx4a65c_elementData_915e3, Cond.code yJx4a65c_elementData_915e3 cJx4a65c_elementData_915e3 2 (some (.object "java/lang/Object")), Cond.fieldLink RJx4a65c 9 "java/util/ArrayList" "elementData" "[Ljava/lang/Object;"]
def wsX3_cameraForAir : List Cond := .code yX3_cameraForAir cX3_cameraForAir 3 (some .int) :: ((wsX3_cameraForAir_r1 ++ wsX3_cameraForAir_r2) ++ wsX30 ++ wsX00 ++ wsJx4a65c0)
def wsX3_owedTo : List Cond := .code yX3_owedTo cX3_owedTo 2 (some .int) :: ([.fieldLink RX3 29 "Castdesk" "promised" "[I", .fieldLink RX3 32 "Castdesk" "countedFrames" "[I", .methodLink RX3 285 Lib.Math.max.name, .static Lib.Math.max.name, .initialized "java/lang/Math", .code Lib.Math.max.name Lib.Math.max.code 2 (some .int)] ++ wsX30)
def wsX3_sponsorOwedMost : List Cond := .code yX3_sponsorOwedMost cX3_sponsorOwedMost 6 (some .int) :: ([.fieldLink RX3 88 "Castdesk$Fight" "first" "I", .fieldLink RX3 97 "Castdesk$Fight" "second" "I", .fieldLink RX3 35 "Castdesk" "slotPlayers" "[I", .methodLink RX3 206 yX3_owedTo, .instanceMethod yX3_owedTo, .selects RX3 yX3_owedTo yX3_owedTo, .initialized RX3, .code yX3_owedTo cX3_owedTo 2 (some .int), .fieldLink RX3 29 "Castdesk" "promised" "[I", .fieldLink RX3 32 "Castdesk" "countedFrames" "[I", .methodLink RX3 285 Lib.Math.max.name, .static Lib.Math.max.name, .initialized "java/lang/Math", .code Lib.Math.max.name Lib.Math.max.code 2 (some .int)] ++ wsX20 ++ wsX30)
def wsX3_showFight : List Cond := .code yX3_showFight cX3_showFight 3 none :: ([.fieldLink RX3 45 "Castdesk" "shownFight" "[I", .fieldLink RX3 85 "Castdesk" "now" "I", .fieldLink RX3 249 "Castdesk$Fight" "number" "I", .fieldLink RX3 187 "Castdesk$Fight" "framesShown" "I", .fieldLink RX3 51 "Castdesk" "shownSponsor" "[I", .fieldLink RX3 32 "Castdesk" "countedFrames" "[I", .methodLink RX3 282 yX3_sponsorOwedMost, .instanceMethod yX3_sponsorOwedMost, .selects RX3 yX3_sponsorOwedMost yX3_sponsorOwedMost, .initialized RX3, .code yX3_sponsorOwedMost cX3_sponsorOwedMost 6 (some .int), .fieldLink RX3 88 "Castdesk$Fight" "first" "I", .fieldLink RX3 97 "Castdesk$Fight" "second" "I", .fieldLink RX3 35 "Castdesk" "slotPlayers" "[I", .methodLink RX3 206 yX3_owedTo, .instanceMethod yX3_owedTo, .selects RX3 yX3_owedTo yX3_owedTo, .code yX3_owedTo cX3_owedTo 2 (some .int), .fieldLink RX3 29 "Castdesk" "promised" "[I", .methodLink RX3 285 Lib.Math.max.name, .static Lib.Math.max.name, .initialized "java/lang/Math", .code Lib.Math.max.name Lib.Math.max.code 2 (some .int)] ++ wsX30 ++ wsX20)
def wsX3_letCamerasPass_r1 : List Cond := [Cond.fieldLink RX3 23 "Castdesk" "cameras" "Ljava/util/ArrayList;", Cond.classLink RX3 123 "Castdesk$Camera", Cond.methodLink RX3 117 yJx4a65c_size_8abf5, Cond.instanceMethod yJx4a65c_size_8abf5, Cond.selects RJx4a65c yJx4a65c_size_8abf5 yJx4a65c_size_8abf5, Cond.initialized RJx4a65c, Cond.code yJx4a65c_size_8abf5 cJx4a65c_size_8abf5 1 (some .int), Cond.fieldLink RJx4a65c 48 "java/util/ArrayList" "size" "I", Cond.methodLink RX3 194 yJx4a65c_get_915e3, Cond.instanceMethod yJx4a65c_get_915e3, Cond.selects RJx4a65c yJx4a65c_get_915e3 yJx4a65c_get_915e3, Cond.code yJx4a65c_get_915e3 cJx4a65c_get_915e3 2 (some (.object "java/lang/Object")), Cond.methodLink RJx4a65c 118 yJ15_checkIndex_7cf53, Cond.static yJ15_checkIndex_7cf53, Cond.initialized RJ15, Cond.code yJ15_checkIndex_7cf53 cJ15_checkIndex_7cf53 2 (some .int), Cond.methodLink RJ15 105 yJ3_checkIndex_8e157, Cond.static yJ3_checkIndex_8e157, Cond.initialized RJ3, Cond.code yJ3_checkIndex_8e157 cJ3_checkIndex_8e157 3 (some .int), Cond.methodLink RJx4a65c 123 yJx4a65c_elementData_915e3, Cond.instanceMethod yJx4a65c_elementData_915e3, Cond.selects RJx4a65c yJx4a65c_elementData_915e3 yJx4a65c_elementData_915e3, Cond.code yJx4a65c_elementData_915e3 cJx4a65c_elementData_915e3 2 (some (.object "java/lang/Object"))]
def wsX3_letCamerasPass_r2 : List Cond := [Cond.fieldLink RJx4a65c 9 "java/util/ArrayList" "elementData" "[Ljava/lang/Object;", Cond.methodLink RX3 290 yX0_passOnAir, Cond.instanceMethod yX0_passOnAir, Cond.selects RX0 yX0_passOnAir yX0_passOnAir, Cond.initialized RX0, Cond.code yX0_passOnAir cX0_passOnAir 1 none, Cond.fieldLink RX0 16 "Castdesk$Camera" "onAir" "I", Cond.fieldLink RX0 7 "Castdesk$Camera" "stamina" "I", Cond.fieldLink RX0 13 "Castdesk$Camera" "rest" "I", Cond.methodLink RX0 19 Lib.Math.max.name, Cond.static Lib.Math.max.name, Cond.initialized "java/lang/Math", Cond.code Lib.Math.max.name Lib.Math.max.code 2 (some .int), Cond.fieldLink RX0 25 "Castdesk$Camera" "toBeOff" "I", Cond.methodLink RX3 293 yX0_passOff, Cond.instanceMethod yX0_passOff, Cond.selects RX0 yX0_passOff yX0_passOff, Cond.code yX0_passOff cX0_passOff 1 none]
def wsX3_letCamerasPass : List Cond := .code yX3_letCamerasPass cX3_letCamerasPass 4 none :: ((wsX3_letCamerasPass_r1 ++ wsX3_letCamerasPass_r2) ++ wsX30 ++ wsJx4a65c0 ++ wsX00)
def wsX3_passOne_r1 : List Cond := [Cond.fieldLink RX3 45 "Castdesk" "shownFight" "[I", Cond.fieldLink RX3 85 "Castdesk" "now" "I", Cond.fieldLink RX3 48 "Castdesk" "shownCamera" "[I", Cond.fieldLink RX3 51 "Castdesk" "shownSponsor" "[I", Cond.fieldLink RX3 19 "Castdesk" "fights" "Ljava/util/ArrayList;", Cond.classLink RX3 89 "Castdesk$Fight", Cond.methodLink RX3 252 yX3_hottestFight, Cond.instanceMethod yX3_hottestFight, Cond.selects RX3 yX3_hottestFight yX3_hottestFight, Cond.initialized RX3, Cond.code yX3_hottestFight cX3_hottestFight 7 (some (.object "Castdesk$Fight")), Cond.fieldLink RX3 100 "Castdesk$Fight" "state" "I", Cond.methodLink RX3 268 yX3_ofFrameAhead, Cond.instanceMethod yX3_ofFrameAhead, Cond.selects RX3 yX3_ofFrameAhead yX3_ofFrameAhead, Cond.code yX3_ofFrameAhead cX3_ofFrameAhead 2 (some .int), Cond.methodLink RX3 117 yJx4a65c_size_8abf5, Cond.instanceMethod yJx4a65c_size_8abf5, Cond.selects RJx4a65c yJx4a65c_size_8abf5 yJx4a65c_size_8abf5, Cond.initialized RJx4a65c, Cond.code yJx4a65c_size_8abf5 cJx4a65c_size_8abf5 1 (some .int), Cond.fieldLink RJx4a65c 48 "java/util/ArrayList" "size" "I", Cond.methodLink RX3 194 yJx4a65c_get_915e3, Cond.instanceMethod yJx4a65c_get_915e3]
def wsX3_passOne_r2 : List Cond := [Cond.selects RJx4a65c yJx4a65c_get_915e3 yJx4a65c_get_915e3, Cond.code yJx4a65c_get_915e3 cJx4a65c_get_915e3 2 (some (.object "java/lang/Object")), Cond.methodLink RJx4a65c 118 yJ15_checkIndex_7cf53, Cond.static yJ15_checkIndex_7cf53, Cond.initialized RJ15, Cond.code yJ15_checkIndex_7cf53 cJ15_checkIndex_7cf53 2 (some .int), Cond.methodLink RJ15 105 yJ3_checkIndex_8e157, Cond.static yJ3_checkIndex_8e157, Cond.initialized RJ3, Cond.code yJ3_checkIndex_8e157 cJ3_checkIndex_8e157 3 (some .int), Cond.methodLink RJx4a65c 123 yJx4a65c_elementData_915e3, Cond.instanceMethod yJx4a65c_elementData_915e3, Cond.selects RJx4a65c yJx4a65c_elementData_915e3 yJx4a65c_elementData_915e3, Cond.code yJx4a65c_elementData_915e3 cJx4a65c_elementData_915e3 2 (some (.object "java/lang/Object")), Cond.fieldLink RJx4a65c 9 "java/util/ArrayList" "elementData" "[Ljava/lang/Object;", Cond.methodLink RX3 272 yX3_heatOf, Cond.instanceMethod yX3_heatOf, Cond.selects RX3 yX3_heatOf yX3_heatOf, Cond.code yX3_heatOf cX3_heatOf 2 (some .int), Cond.fieldLink RX3 9 "Castdesk" "ranks" "[I", Cond.fieldLink RX3 88 "Castdesk$Fight" "first" "I", Cond.fieldLink RX3 97 "Castdesk$Fight" "second" "I", Cond.methodLink RX3 276 yX2_heatOfBlows, Cond.instanceMethod yX2_heatOfBlows]
def wsX3_passOne_r3 : List Cond := [Cond.selects RX2 yX2_heatOfBlows yX2_heatOfBlows, Cond.initialized RX2, Cond.code yX2_heatOfBlows cX2_heatOfBlows 1 (some .int), Cond.fieldLink RX2 27 "Castdesk$Fight" "blowFrames" "I", Cond.methodLink RX2 30 yJ6_bitCount_0f7a4, Cond.static yJ6_bitCount_0f7a4, Cond.initialized RJ6, Cond.code yJ6_bitCount_0f7a4 cJ6_bitCount_0f7a4 1 (some .int), Cond.constant RJ6 265 (1431655765), Cond.constant RJ6 266 (858993459), Cond.constant RJ6 267 (252645135), Cond.methodLink RX3 256 yX3_cameraForAir, Cond.instanceMethod yX3_cameraForAir, Cond.selects RX3 yX3_cameraForAir yX3_cameraForAir, Cond.code yX3_cameraForAir cX3_cameraForAir 3 (some .int), Cond.fieldLink RX3 23 "Castdesk" "cameras" "Ljava/util/ArrayList;", Cond.methodLink RX3 279 yX3_canBeOnAir, Cond.instanceMethod yX3_canBeOnAir, Cond.selects RX3 yX3_canBeOnAir yX3_canBeOnAir, Cond.code yX3_canBeOnAir cX3_canBeOnAir 2 (some .boolean), Cond.classLink RX3 123 "Castdesk$Camera", Cond.fieldLink RX3 201 "Castdesk$Camera" "toBeOff" "I", Cond.methodLink RX3 259 yX3_showFight, Cond.instanceMethod yX3_showFight]
def wsX3_passOne_r4 : List Cond := [Cond.selects RX3 yX3_showFight yX3_showFight, Cond.code yX3_showFight cX3_showFight 3 none, Cond.fieldLink RX3 249 "Castdesk$Fight" "number" "I", Cond.fieldLink RX3 187 "Castdesk$Fight" "framesShown" "I", Cond.fieldLink RX3 32 "Castdesk" "countedFrames" "[I", Cond.methodLink RX3 282 yX3_sponsorOwedMost, Cond.instanceMethod yX3_sponsorOwedMost, Cond.selects RX3 yX3_sponsorOwedMost yX3_sponsorOwedMost, Cond.code yX3_sponsorOwedMost cX3_sponsorOwedMost 6 (some .int), Cond.fieldLink RX3 35 "Castdesk" "slotPlayers" "[I", Cond.methodLink RX3 206 yX3_owedTo, Cond.instanceMethod yX3_owedTo, Cond.selects RX3 yX3_owedTo yX3_owedTo, Cond.code yX3_owedTo cX3_owedTo 2 (some .int), Cond.fieldLink RX3 29 "Castdesk" "promised" "[I", Cond.methodLink RX3 285 Lib.Math.max.name, Cond.static Lib.Math.max.name, Cond.initialized "java/lang/Math", Cond.code Lib.Math.max.name Lib.Math.max.code 2 (some .int), Cond.methodLink RX3 262 yX3_letCamerasPass, Cond.instanceMethod yX3_letCamerasPass, Cond.selects RX3 yX3_letCamerasPass yX3_letCamerasPass, Cond.code yX3_letCamerasPass cX3_letCamerasPass 4 none, Cond.methodLink RX3 290 yX0_passOnAir]
def wsX3_passOne_r5 : List Cond := [Cond.instanceMethod yX0_passOnAir, Cond.selects RX0 yX0_passOnAir yX0_passOnAir, Cond.initialized RX0, Cond.code yX0_passOnAir cX0_passOnAir 1 none, Cond.fieldLink RX0 16 "Castdesk$Camera" "onAir" "I", Cond.fieldLink RX0 7 "Castdesk$Camera" "stamina" "I", Cond.fieldLink RX0 13 "Castdesk$Camera" "rest" "I", Cond.methodLink RX0 19 Lib.Math.max.name, Cond.fieldLink RX0 25 "Castdesk$Camera" "toBeOff" "I", Cond.methodLink RX3 293 yX0_passOff, Cond.instanceMethod yX0_passOff, Cond.selects RX0 yX0_passOff yX0_passOff, Cond.code yX0_passOff cX0_passOff 1 none, Cond.methodLink RX3 265 yX2_letFramePass, Cond.instanceMethod yX2_letFramePass, Cond.selects RX2 yX2_letFramePass yX2_letFramePass, Cond.code yX2_letFramePass cX2_letFramePass 1 none, Cond.methodLink RX3 131 yX3_letViewersSee, Cond.instanceMethod yX3_letViewersSee, Cond.selects RX3 yX3_letViewersSee yX3_letViewersSee, Cond.code yX3_letViewersSee cX3_letViewersSee 1 none, Cond.fieldLink RX3 42 "Castdesk" "seenUpTo" "I", Cond.fieldLink RX3 38 "Castdesk" "delayFrames" "I"]
def wsX3_passOne : List Cond := .code yX3_passOne cX3_passOne 4 none :: ((wsX3_passOne_r1 ++ (wsX3_passOne_r2 ++ (wsX3_passOne_r3 ++ (wsX3_passOne_r4 ++ wsX3_passOne_r5)))) ++ wsX30 ++ wsX20 ++ wsJx4a65c0 ++ wsX00)
def wsX3_pass_r1 : List Cond := [Cond.classLink RX3 106 "java/lang/IllegalStateException", Cond.initialized "java/lang/IllegalStateException", Cond.fieldLink RX3 85 "Castdesk" "now" "I", Cond.methodLink RX3 58 yX3_checkRange, Cond.static yX3_checkRange, Cond.initialized RX3, Cond.code yX3_checkRange cX3_checkRange 3 none, Cond.classLink RX3 62 "java/lang/IllegalArgumentException", Cond.initialized "java/lang/IllegalArgumentException", Cond.methodLink RX3 136 yX3_passOne, Cond.instanceMethod yX3_passOne, Cond.selects RX3 yX3_passOne yX3_passOne, Cond.code yX3_passOne cX3_passOne 4 none, Cond.fieldLink RX3 45 "Castdesk" "shownFight" "[I", Cond.fieldLink RX3 48 "Castdesk" "shownCamera" "[I", Cond.fieldLink RX3 51 "Castdesk" "shownSponsor" "[I", Cond.fieldLink RX3 19 "Castdesk" "fights" "Ljava/util/ArrayList;", Cond.classLink RX3 89 "Castdesk$Fight", Cond.methodLink RX3 252 yX3_hottestFight, Cond.instanceMethod yX3_hottestFight, Cond.selects RX3 yX3_hottestFight yX3_hottestFight, Cond.code yX3_hottestFight cX3_hottestFight 7 (some (.object "Castdesk$Fight")), Cond.fieldLink RX3 100 "Castdesk$Fight" "state" "I", Cond.methodLink RX3 268 yX3_ofFrameAhead]
def wsX3_pass_r2 : List Cond := [Cond.instanceMethod yX3_ofFrameAhead, Cond.selects RX3 yX3_ofFrameAhead yX3_ofFrameAhead, Cond.code yX3_ofFrameAhead cX3_ofFrameAhead 2 (some .int), Cond.methodLink RX3 117 yJx4a65c_size_8abf5, Cond.instanceMethod yJx4a65c_size_8abf5, Cond.selects RJx4a65c yJx4a65c_size_8abf5 yJx4a65c_size_8abf5, Cond.initialized RJx4a65c, Cond.code yJx4a65c_size_8abf5 cJx4a65c_size_8abf5 1 (some .int), Cond.fieldLink RJx4a65c 48 "java/util/ArrayList" "size" "I", Cond.methodLink RX3 194 yJx4a65c_get_915e3, Cond.instanceMethod yJx4a65c_get_915e3, Cond.selects RJx4a65c yJx4a65c_get_915e3 yJx4a65c_get_915e3, Cond.code yJx4a65c_get_915e3 cJx4a65c_get_915e3 2 (some (.object "java/lang/Object")), Cond.methodLink RJx4a65c 118 yJ15_checkIndex_7cf53, Cond.static yJ15_checkIndex_7cf53, Cond.initialized RJ15, Cond.code yJ15_checkIndex_7cf53 cJ15_checkIndex_7cf53 2 (some .int), Cond.methodLink RJ15 105 yJ3_checkIndex_8e157, Cond.static yJ3_checkIndex_8e157, Cond.initialized RJ3, Cond.code yJ3_checkIndex_8e157 cJ3_checkIndex_8e157 3 (some .int), Cond.methodLink RJx4a65c 123 yJx4a65c_elementData_915e3, Cond.instanceMethod yJx4a65c_elementData_915e3, Cond.selects RJx4a65c yJx4a65c_elementData_915e3 yJx4a65c_elementData_915e3]
def wsX3_pass_r3 : List Cond := [Cond.code yJx4a65c_elementData_915e3 cJx4a65c_elementData_915e3 2 (some (.object "java/lang/Object")), Cond.fieldLink RJx4a65c 9 "java/util/ArrayList" "elementData" "[Ljava/lang/Object;", Cond.methodLink RX3 272 yX3_heatOf, Cond.instanceMethod yX3_heatOf, Cond.selects RX3 yX3_heatOf yX3_heatOf, Cond.code yX3_heatOf cX3_heatOf 2 (some .int), Cond.fieldLink RX3 9 "Castdesk" "ranks" "[I", Cond.fieldLink RX3 88 "Castdesk$Fight" "first" "I", Cond.fieldLink RX3 97 "Castdesk$Fight" "second" "I", Cond.methodLink RX3 276 yX2_heatOfBlows, Cond.instanceMethod yX2_heatOfBlows, Cond.selects RX2 yX2_heatOfBlows yX2_heatOfBlows, Cond.initialized RX2, Cond.code yX2_heatOfBlows cX2_heatOfBlows 1 (some .int), Cond.fieldLink RX2 27 "Castdesk$Fight" "blowFrames" "I", Cond.methodLink RX2 30 yJ6_bitCount_0f7a4, Cond.static yJ6_bitCount_0f7a4, Cond.initialized RJ6, Cond.code yJ6_bitCount_0f7a4 cJ6_bitCount_0f7a4 1 (some .int), Cond.constant RJ6 265 (1431655765), Cond.constant RJ6 266 (858993459), Cond.constant RJ6 267 (252645135), Cond.methodLink RX3 256 yX3_cameraForAir, Cond.instanceMethod yX3_cameraForAir]
def wsX3_pass_r4 : List Cond := [Cond.selects RX3 yX3_cameraForAir yX3_cameraForAir, Cond.code yX3_cameraForAir cX3_cameraForAir 3 (some .int), Cond.fieldLink RX3 23 "Castdesk" "cameras" "Ljava/util/ArrayList;", Cond.methodLink RX3 279 yX3_canBeOnAir, Cond.instanceMethod yX3_canBeOnAir, Cond.selects RX3 yX3_canBeOnAir yX3_canBeOnAir, Cond.code yX3_canBeOnAir cX3_canBeOnAir 2 (some .boolean), Cond.classLink RX3 123 "Castdesk$Camera", Cond.fieldLink RX3 201 "Castdesk$Camera" "toBeOff" "I", Cond.methodLink RX3 259 yX3_showFight, Cond.instanceMethod yX3_showFight, Cond.selects RX3 yX3_showFight yX3_showFight, Cond.code yX3_showFight cX3_showFight 3 none, Cond.fieldLink RX3 249 "Castdesk$Fight" "number" "I", Cond.fieldLink RX3 187 "Castdesk$Fight" "framesShown" "I", Cond.fieldLink RX3 32 "Castdesk" "countedFrames" "[I", Cond.methodLink RX3 282 yX3_sponsorOwedMost, Cond.instanceMethod yX3_sponsorOwedMost, Cond.selects RX3 yX3_sponsorOwedMost yX3_sponsorOwedMost, Cond.code yX3_sponsorOwedMost cX3_sponsorOwedMost 6 (some .int), Cond.fieldLink RX3 35 "Castdesk" "slotPlayers" "[I", Cond.methodLink RX3 206 yX3_owedTo, Cond.instanceMethod yX3_owedTo, Cond.selects RX3 yX3_owedTo yX3_owedTo]
def wsX3_pass_r5 : List Cond := [Cond.code yX3_owedTo cX3_owedTo 2 (some .int), Cond.fieldLink RX3 29 "Castdesk" "promised" "[I", Cond.methodLink RX3 285 Lib.Math.max.name, Cond.static Lib.Math.max.name, Cond.initialized "java/lang/Math", Cond.code Lib.Math.max.name Lib.Math.max.code 2 (some .int), Cond.methodLink RX3 262 yX3_letCamerasPass, Cond.instanceMethod yX3_letCamerasPass, Cond.selects RX3 yX3_letCamerasPass yX3_letCamerasPass, Cond.code yX3_letCamerasPass cX3_letCamerasPass 4 none, Cond.methodLink RX3 290 yX0_passOnAir, Cond.instanceMethod yX0_passOnAir, Cond.selects RX0 yX0_passOnAir yX0_passOnAir, Cond.initialized RX0, Cond.code yX0_passOnAir cX0_passOnAir 1 none, Cond.fieldLink RX0 16 "Castdesk$Camera" "onAir" "I", Cond.fieldLink RX0 7 "Castdesk$Camera" "stamina" "I", Cond.fieldLink RX0 13 "Castdesk$Camera" "rest" "I", Cond.methodLink RX0 19 Lib.Math.max.name, Cond.fieldLink RX0 25 "Castdesk$Camera" "toBeOff" "I", Cond.methodLink RX3 293 yX0_passOff, Cond.instanceMethod yX0_passOff, Cond.selects RX0 yX0_passOff yX0_passOff, Cond.code yX0_passOff cX0_passOff 1 none]
def wsX3_pass_r6 : List Cond := [Cond.methodLink RX3 265 yX2_letFramePass, Cond.instanceMethod yX2_letFramePass, Cond.selects RX2 yX2_letFramePass yX2_letFramePass, Cond.code yX2_letFramePass cX2_letFramePass 1 none, Cond.methodLink RX3 131 yX3_letViewersSee, Cond.instanceMethod yX3_letViewersSee, Cond.selects RX3 yX3_letViewersSee yX3_letViewersSee, Cond.code yX3_letViewersSee cX3_letViewersSee 1 none, Cond.fieldLink RX3 42 "Castdesk" "seenUpTo" "I", Cond.fieldLink RX3 38 "Castdesk" "delayFrames" "I"]
def wsX3_pass : List Cond := .code yX3_pass cX3_pass 3 (some .int) :: ((wsX3_pass_r1 ++ (wsX3_pass_r2 ++ (wsX3_pass_r3 ++ (wsX3_pass_r4 ++ (wsX3_pass_r5 ++ wsX3_pass_r6))))) ++ wsX30 ++ wsX20 ++ wsJx4a65c0 ++ wsX00 ++ (vx_atS RX3 110 "java/lang/IllegalStateException" ["java/lang/RuntimeException", "java/lang/Exception"]).filter goodWord ++ (vx_atS RX3 66 "java/lang/IllegalArgumentException" ["java/lang/RuntimeException", "java/lang/Exception"]).filter goodWord)
def wsX3_blow_r1 : List Cond := [Cond.classLink RX3 62 "java/lang/IllegalArgumentException", Cond.initialized "java/lang/IllegalArgumentException", Cond.classLink RX3 106 "java/lang/IllegalStateException", Cond.initialized "java/lang/IllegalStateException", Cond.fieldLink RX3 26 "Castdesk" "entries" "Ljava/util/ArrayList;", Cond.classLink RX3 150 RX1, Cond.instantiable RX1 5, Cond.initialized RX1, Cond.fieldLink RX3 85 "Castdesk" "now" "I", Cond.methodLink RX3 77 yX3_fightNumbered, Cond.instanceMethod yX3_fightNumbered, Cond.selects RX3 yX3_fightNumbered yX3_fightNumbered, Cond.initialized RX3, Cond.code yX3_fightNumbered cX3_fightNumbered 2 (some (.object "Castdesk$Fight")), Cond.classLink RX3 180 "java/lang/IndexOutOfBoundsException", Cond.initialized "java/lang/IndexOutOfBoundsException", Cond.fieldLink RX3 19 "Castdesk" "fights" "Ljava/util/ArrayList;", Cond.classLink RX3 89 "Castdesk$Fight", Cond.methodLink RX3 117 yJx4a65c_size_8abf5, Cond.instanceMethod yJx4a65c_size_8abf5, Cond.selects RJx4a65c yJx4a65c_size_8abf5 yJx4a65c_size_8abf5, Cond.initialized RJx4a65c, Cond.code yJx4a65c_size_8abf5 cJx4a65c_size_8abf5 1 (some .int), Cond.fieldLink RJx4a65c 48 "java/util/ArrayList" "size" "I"]
def wsX3_blow_r2 : List Cond := [Cond.methodLink RX3 194 yJx4a65c_get_915e3, Cond.instanceMethod yJx4a65c_get_915e3, Cond.selects RJx4a65c yJx4a65c_get_915e3 yJx4a65c_get_915e3, Cond.code yJx4a65c_get_915e3 cJx4a65c_get_915e3 2 (some (.object "java/lang/Object")), Cond.methodLink RJx4a65c 118 yJ15_checkIndex_7cf53, Cond.static yJ15_checkIndex_7cf53, Cond.initialized RJ15, Cond.code yJ15_checkIndex_7cf53 cJ15_checkIndex_7cf53 2 (some .int), Cond.methodLink RJ15 105 yJ3_checkIndex_8e157, Cond.static yJ3_checkIndex_8e157, Cond.initialized RJ3, Cond.code yJ3_checkIndex_8e157 cJ3_checkIndex_8e157 3 (some .int), Cond.methodLink RJx4a65c 123 yJx4a65c_elementData_915e3, Cond.instanceMethod yJx4a65c_elementData_915e3, Cond.selects RJx4a65c yJx4a65c_elementData_915e3 yJx4a65c_elementData_915e3, Cond.code yJx4a65c_elementData_915e3 cJx4a65c_elementData_915e3 2 (some (.object "java/lang/Object")), Cond.fieldLink RJx4a65c 9 "java/util/ArrayList" "elementData" "[Ljava/lang/Object;", Cond.methodLink RX3 54 yX3_checkPlayer, Cond.static yX3_checkPlayer, Cond.code yX3_checkPlayer cX3_checkPlayer 1 none, Cond.methodLink RX3 58 yX3_checkRange, Cond.static yX3_checkRange, Cond.code yX3_checkRange cX3_checkRange 3 none, Cond.methodLink RX3 139 yX2_isOf]
def wsX3_blow_r3 : List Cond := [Cond.instanceMethod yX2_isOf, Cond.selects RX2 yX2_isOf yX2_isOf, Cond.initialized RX2, Cond.code yX2_isOf cX2_isOf 2 (some .boolean), Cond.fieldLink RX2 15 "Castdesk$Fight" "first" "I", Cond.fieldLink RX2 18 "Castdesk$Fight" "second" "I", Cond.methodLink RX3 81 yX3_checkGoesOn, Cond.static yX3_checkGoesOn, Cond.code yX3_checkGoesOn cX3_checkGoesOn 1 none, Cond.fieldLink RX3 100 "Castdesk$Fight" "state" "I", Cond.methodLink RX3 147 yX2_heatUp, Cond.instanceMethod yX2_heatUp, Cond.selects RX2 yX2_heatUp yX2_heatUp, Cond.code yX2_heatUp cX2_heatUp 1 none, Cond.fieldLink RX2 27 "Castdesk$Fight" "blowFrames" "I", Cond.methodLink RX3 152 yX1_init, Cond.instanceMethod yX1_init, Cond.code yX1_init cX1_init 5 none, Cond.methodLink RX1 3 objectInit, Cond.instanceMethod objectInit, Cond.code objectInit ⟨#[0xb1]⟩ 1 none, Cond.fieldLink RX1 9 "Castdesk$Entry" "fight" "LCastdesk$Fight;", Cond.fieldLink RX1 15 "Castdesk$Entry" "player" "I", Cond.fieldLink RX1 19 "Castdesk$Entry" "frame" "I"]
def wsX3_blow_r4 : List Cond := [Cond.fieldLink RX1 22 "Castdesk$Entry" "points" "I", Cond.methodLink RX3 127 yJx4a65c_add_9ea2d, Cond.instanceMethod yJx4a65c_add_9ea2d, Cond.selects RJx4a65c yJx4a65c_add_9ea2d yJx4a65c_add_9ea2d, Cond.code yJx4a65c_add_9ea2d cJx4a65c_add_9ea2d 2 (some .boolean), Cond.fieldLink RJx4a65c 63 "java/util/ArrayList" "modCount" "I", Cond.sameField "java/util/ArrayList" "java/util/AbstractList" "modCount" "I", Cond.methodLink RJx4a65c 131 yJx4a65c_add_72be8, Cond.instanceMethod yJx4a65c_add_72be8, Cond.selects RJx4a65c yJx4a65c_add_72be8 yJx4a65c_add_72be8, Cond.code yJx4a65c_add_72be8 cJx4a65c_add_72be8 4 none, Cond.methodLink RJx4a65c 129 yJx4a65c_grow_d5877, Cond.instanceMethod yJx4a65c_grow_d5877, Cond.selects RJx4a65c yJx4a65c_grow_d5877 yJx4a65c_grow_d5877, Cond.code yJx4a65c_grow_d5877 cJx4a65c_grow_d5877 1 (some (.array (.object "java/lang/Object"))), Cond.methodLink RJx4a65c 69 yJx4a65c_grow_92f84, Cond.instanceMethod yJx4a65c_grow_92f84, Cond.selects RJx4a65c yJx4a65c_grow_92f84 yJx4a65c_grow_92f84, Cond.code yJx4a65c_grow_92f84 cJx4a65c_grow_92f84 4 (some (.array (.object "java/lang/Object"))), Cond.fieldLink RJx4a65c 39 "java/util/ArrayList" "DEFAULTCAPACITY_EMPTY_ELEMENTDATA" "[Ljava/lang/Object;", Cond.methodLink RJx4a65c 79 Lib.Math.max.name, Cond.static Lib.Math.max.name, Cond.initialized "java/lang/Math", Cond.code Lib.Math.max.name Lib.Math.max.code 2 (some .int)]
def wsX3_blow_r5 : List Cond := [Cond.classLink RJx4a65c 7 "java/lang/Object", Cond.methodLink RJx4a65c 73 yJ8_newLength_cabcc, Cond.static yJ8_newLength_cabcc, Cond.initialized RJ8, Cond.code yJ8_newLength_cabcc cJ8_newLength_cabcc 4 (some .int), Cond.methodLink RJ8 194 Lib.Math.max.name, Cond.constant RJ8 200 (2147483639), Cond.methodLink RJ8 201 yJ8_hugeLength_7cf53, Cond.static yJ8_hugeLength_7cf53, Cond.code yJ8_hugeLength_7cf53 cJ8_hugeLength_7cf53 3 (some .int), Cond.methodLink RJx4a65c 66 yJ7_copyOf_1904c, Cond.static yJ7_copyOf_1904c, Cond.initialized RJ7, Cond.code yJ7_copyOf_1904c cJ7_copyOf_1904c 2 (some (.array (.object "java/lang/Object"))), Cond.methodLink RJ7 86 ⟨"java/lang/Object", "getClass", "()Ljava/lang/Class;"⟩, Cond.selects "[Ljava/lang/Object;" ⟨"java/lang/Object", "getClass", "()Ljava/lang/Class;"⟩ ⟨"java/lang/Object", "getClass", "()Ljava/lang/Class;"⟩, Cond.instanceMethod ⟨"java/lang/Object", "getClass", "()Ljava/lang/Class;"⟩, Cond.native ⟨"java/lang/Object", "getClass", "()Ljava/lang/Class;"⟩, Cond.methodLink RJ7 300 yJ7_copyOf_6403c, Cond.static yJ7_copyOf_6403c, Cond.code yJ7_copyOf_6403c cJ7_copyOf_6403c 4 (some (.array (.object "java/lang/Object"))), Cond.classLink RJ7 110 "[Ljava/lang/Object;", Cond.classLink RJ7 2 "java/lang/Object", Cond.methodLink RJ7 304 Lib.Math.min.name]
def wsX3_blow_r6 : List Cond := [Cond.static Lib.Math.min.name, Cond.code Lib.Math.min.name Lib.Math.min.code 2 (some .int), Cond.methodLink RJ7 150 arraycopyName, Cond.native arraycopyName, Cond.static arraycopyName, Cond.initialized "java/lang/System"]
def wsX3_blow : List Cond := .code yX3_blow cX3_blow 5 (some .int) :: ((wsX3_blow_r1 ++ (wsX3_blow_r2 ++ (wsX3_blow_r3 ++ (wsX3_blow_r4 ++ (wsX3_blow_r5 ++ wsX3_blow_r6))))) ++ wsX30 ++ wsX10 ++ wsJx4a65c0 ++ wsX20 ++ (vx_atS RX3 66 "java/lang/IllegalArgumentException" ["java/lang/RuntimeException", "java/lang/Exception"]).filter goodWord ++ (vx_atS RX3 110 "java/lang/IllegalStateException" ["java/lang/RuntimeException", "java/lang/Exception"]).filter goodWord ++ (vx_atS RX3 184 "java/lang/IndexOutOfBoundsException" ["java/lang/RuntimeException", "java/lang/Exception"]).filter goodWord)
def wsX3_entryNumbered_r1 : List Cond := [Cond.classLink RX3 180 "java/lang/IndexOutOfBoundsException", Cond.initialized "java/lang/IndexOutOfBoundsException", Cond.fieldLink RX3 26 "Castdesk" "entries" "Ljava/util/ArrayList;", Cond.classLink RX3 150 "Castdesk$Entry", Cond.methodLink RX3 117 yJx4a65c_size_8abf5, Cond.instanceMethod yJx4a65c_size_8abf5, Cond.selects RJx4a65c yJx4a65c_size_8abf5 yJx4a65c_size_8abf5, Cond.initialized RJx4a65c, Cond.code yJx4a65c_size_8abf5 cJx4a65c_size_8abf5 1 (some .int), Cond.fieldLink RJx4a65c 48 "java/util/ArrayList" "size" "I", Cond.methodLink RX3 194 yJx4a65c_get_915e3, Cond.instanceMethod yJx4a65c_get_915e3, Cond.selects RJx4a65c yJx4a65c_get_915e3 yJx4a65c_get_915e3, Cond.code yJx4a65c_get_915e3 cJx4a65c_get_915e3 2 (some (.object "java/lang/Object")), Cond.methodLink RJx4a65c 118 yJ15_checkIndex_7cf53, Cond.static yJ15_checkIndex_7cf53, Cond.initialized RJ15, Cond.code yJ15_checkIndex_7cf53 cJ15_checkIndex_7cf53 2 (some .int), Cond.methodLink RJ15 105 yJ3_checkIndex_8e157, Cond.static yJ3_checkIndex_8e157, Cond.initialized RJ3, Cond.code yJ3_checkIndex_8e157 cJ3_checkIndex_8e157 3 (some .int), Cond.methodLink RJx4a65c 123 yJx4a65c_elementData_915e3, Cond.instanceMethod yJx4a65c_elementData_915e3]
def wsX3_entryNumbered_r2 : List Cond := [Cond.selects RJx4a65c yJx4a65c_elementData_915e3 yJx4a65c_elementData_915e3, Cond.code yJx4a65c_elementData_915e3 cJx4a65c_elementData_915e3 2 (some (.object "java/lang/Object")), Cond.fieldLink RJx4a65c 9 "java/util/ArrayList" "elementData" "[Ljava/lang/Object;"]
def wsX3_entryNumbered : List Cond := .code yX3_entryNumbered cX3_entryNumbered 2 (some (.object "Castdesk$Entry")) :: ((wsX3_entryNumbered_r1 ++ wsX3_entryNumbered_r2) ++ wsX30 ++ wsJx4a65c0 ++ (vx_atS RX3 184 "java/lang/IndexOutOfBoundsException" ["java/lang/RuntimeException", "java/lang/Exception"]).filter goodWord)
def wsX3_checkCanBeCorrected : List Cond := .code yX3_checkCanBeCorrected cX3_checkCanBeCorrected 1 none :: ([.classLink RX3 106 "java/lang/IllegalStateException", .initialized "java/lang/IllegalStateException", .methodLink RX3 223 yX1_canBeCorrected, .instanceMethod yX1_canBeCorrected, .selects RX1 yX1_canBeCorrected yX1_canBeCorrected, .initialized RX1, .code yX1_canBeCorrected cX1_canBeCorrected 1 (some .boolean), .fieldLink RX1 25 "Castdesk$Entry" "struck" "Z", .fieldLink RX1 9 "Castdesk$Entry" "fight" "LCastdesk$Fight;", .fieldLink RX1 29 "Castdesk$Fight" "state" "I"] ++ wsX10 ++ wsX20 ++ (vx_atS RX3 110 "java/lang/IllegalStateException" ["java/lang/RuntimeException", "java/lang/Exception"]).filter goodWord)
def wsX3_strike_r1 : List Cond := [Cond.fieldLink RX3 163 "Castdesk$Entry" "struck" "Z", Cond.fieldLink RX3 167 "Castdesk$Entry" "points" "I", Cond.methodLink RX3 155 yX3_entryNumbered, Cond.instanceMethod yX3_entryNumbered, Cond.selects RX3 yX3_entryNumbered yX3_entryNumbered, Cond.initialized RX3, Cond.code yX3_entryNumbered cX3_entryNumbered 2 (some (.object "Castdesk$Entry")), Cond.classLink RX3 180 "java/lang/IndexOutOfBoundsException", Cond.initialized "java/lang/IndexOutOfBoundsException", Cond.fieldLink RX3 26 "Castdesk" "entries" "Ljava/util/ArrayList;", Cond.classLink RX3 150 "Castdesk$Entry", Cond.methodLink RX3 117 yJx4a65c_size_8abf5, Cond.instanceMethod yJx4a65c_size_8abf5, Cond.selects RJx4a65c yJx4a65c_size_8abf5 yJx4a65c_size_8abf5, Cond.initialized RJx4a65c, Cond.code yJx4a65c_size_8abf5 cJx4a65c_size_8abf5 1 (some .int), Cond.fieldLink RJx4a65c 48 "java/util/ArrayList" "size" "I", Cond.methodLink RX3 194 yJx4a65c_get_915e3, Cond.instanceMethod yJx4a65c_get_915e3, Cond.selects RJx4a65c yJx4a65c_get_915e3 yJx4a65c_get_915e3, Cond.code yJx4a65c_get_915e3 cJx4a65c_get_915e3 2 (some (.object "java/lang/Object")), Cond.methodLink RJx4a65c 118 yJ15_checkIndex_7cf53, Cond.static yJ15_checkIndex_7cf53, Cond.initialized RJ15]
def wsX3_strike_r2 : List Cond := [Cond.code yJ15_checkIndex_7cf53 cJ15_checkIndex_7cf53 2 (some .int), Cond.methodLink RJ15 105 yJ3_checkIndex_8e157, Cond.static yJ3_checkIndex_8e157, Cond.initialized RJ3, Cond.code yJ3_checkIndex_8e157 cJ3_checkIndex_8e157 3 (some .int), Cond.methodLink RJx4a65c 123 yJx4a65c_elementData_915e3, Cond.instanceMethod yJx4a65c_elementData_915e3, Cond.selects RJx4a65c yJx4a65c_elementData_915e3 yJx4a65c_elementData_915e3, Cond.code yJx4a65c_elementData_915e3 cJx4a65c_elementData_915e3 2 (some (.object "java/lang/Object")), Cond.fieldLink RJx4a65c 9 "java/util/ArrayList" "elementData" "[Ljava/lang/Object;", Cond.methodLink RX3 159 yX3_checkCanBeCorrected, Cond.static yX3_checkCanBeCorrected, Cond.code yX3_checkCanBeCorrected cX3_checkCanBeCorrected 1 none, Cond.classLink RX3 106 "java/lang/IllegalStateException", Cond.initialized "java/lang/IllegalStateException", Cond.methodLink RX3 223 yX1_canBeCorrected, Cond.instanceMethod yX1_canBeCorrected, Cond.selects RX1 yX1_canBeCorrected yX1_canBeCorrected, Cond.initialized RX1, Cond.code yX1_canBeCorrected cX1_canBeCorrected 1 (some .boolean), Cond.fieldLink RX1 25 "Castdesk$Entry" "struck" "Z", Cond.fieldLink RX1 9 "Castdesk$Entry" "fight" "LCastdesk$Fight;", Cond.fieldLink RX1 29 "Castdesk$Fight" "state" "I"]
def wsX3_strike : List Cond := .code yX3_strike cX3_strike 3 (some .int) :: ((wsX3_strike_r1 ++ wsX3_strike_r2) ++ wsX10 ++ wsX30 ++ wsJx4a65c0 ++ wsX20 ++ (vx_atS RX3 184 "java/lang/IndexOutOfBoundsException" ["java/lang/RuntimeException", "java/lang/Exception"]).filter goodWord ++ (vx_atS RX3 110 "java/lang/IllegalStateException" ["java/lang/RuntimeException", "java/lang/Exception"]).filter goodWord)
def wsX3_mend_r1 : List Cond := [Cond.fieldLink RX3 167 "Castdesk$Entry" "points" "I", Cond.methodLink RX3 155 yX3_entryNumbered, Cond.instanceMethod yX3_entryNumbered, Cond.selects RX3 yX3_entryNumbered yX3_entryNumbered, Cond.initialized RX3, Cond.code yX3_entryNumbered cX3_entryNumbered 2 (some (.object "Castdesk$Entry")), Cond.classLink RX3 180 "java/lang/IndexOutOfBoundsException", Cond.initialized "java/lang/IndexOutOfBoundsException", Cond.fieldLink RX3 26 "Castdesk" "entries" "Ljava/util/ArrayList;", Cond.classLink RX3 150 "Castdesk$Entry", Cond.methodLink RX3 117 yJx4a65c_size_8abf5, Cond.instanceMethod yJx4a65c_size_8abf5, Cond.selects RJx4a65c yJx4a65c_size_8abf5 yJx4a65c_size_8abf5, Cond.initialized RJx4a65c, Cond.code yJx4a65c_size_8abf5 cJx4a65c_size_8abf5 1 (some .int), Cond.fieldLink RJx4a65c 48 "java/util/ArrayList" "size" "I", Cond.methodLink RX3 194 yJx4a65c_get_915e3, Cond.instanceMethod yJx4a65c_get_915e3, Cond.selects RJx4a65c yJx4a65c_get_915e3 yJx4a65c_get_915e3, Cond.code yJx4a65c_get_915e3 cJx4a65c_get_915e3 2 (some (.object "java/lang/Object")), Cond.methodLink RJx4a65c 118 yJ15_checkIndex_7cf53, Cond.static yJ15_checkIndex_7cf53, Cond.initialized RJ15, Cond.code yJ15_checkIndex_7cf53 cJ15_checkIndex_7cf53 2 (some .int)]
def wsX3_mend_r2 : List Cond := [Cond.methodLink RJ15 105 yJ3_checkIndex_8e157, Cond.static yJ3_checkIndex_8e157, Cond.initialized RJ3, Cond.code yJ3_checkIndex_8e157 cJ3_checkIndex_8e157 3 (some .int), Cond.methodLink RJx4a65c 123 yJx4a65c_elementData_915e3, Cond.instanceMethod yJx4a65c_elementData_915e3, Cond.selects RJx4a65c yJx4a65c_elementData_915e3 yJx4a65c_elementData_915e3, Cond.code yJx4a65c_elementData_915e3 cJx4a65c_elementData_915e3 2 (some (.object "java/lang/Object")), Cond.fieldLink RJx4a65c 9 "java/util/ArrayList" "elementData" "[Ljava/lang/Object;", Cond.methodLink RX3 58 yX3_checkRange, Cond.static yX3_checkRange, Cond.code yX3_checkRange cX3_checkRange 3 none, Cond.classLink RX3 62 "java/lang/IllegalArgumentException", Cond.initialized "java/lang/IllegalArgumentException", Cond.methodLink RX3 159 yX3_checkCanBeCorrected, Cond.static yX3_checkCanBeCorrected, Cond.code yX3_checkCanBeCorrected cX3_checkCanBeCorrected 1 none, Cond.classLink RX3 106 "java/lang/IllegalStateException", Cond.initialized "java/lang/IllegalStateException", Cond.methodLink RX3 223 yX1_canBeCorrected, Cond.instanceMethod yX1_canBeCorrected, Cond.selects RX1 yX1_canBeCorrected yX1_canBeCorrected, Cond.initialized RX1, Cond.code yX1_canBeCorrected cX1_canBeCorrected 1 (some .boolean)]
def wsX3_mend_r3 : List Cond := [Cond.fieldLink RX1 25 "Castdesk$Entry" "struck" "Z", Cond.fieldLink RX1 9 "Castdesk$Entry" "fight" "LCastdesk$Fight;", Cond.fieldLink RX1 29 "Castdesk$Fight" "state" "I"]
def wsX3_mend : List Cond := .code yX3_mend cX3_mend 5 (some .int) :: ((wsX3_mend_r1 ++ (wsX3_mend_r2 ++ wsX3_mend_r3)) ++ wsX10 ++ wsX30 ++ wsJx4a65c0 ++ wsX20 ++ (vx_atS RX3 184 "java/lang/IndexOutOfBoundsException" ["java/lang/RuntimeException", "java/lang/Exception"]).filter goodWord ++ (vx_atS RX3 66 "java/lang/IllegalArgumentException" ["java/lang/RuntimeException", "java/lang/Exception"]).filter goodWord ++ (vx_atS RX3 110 "java/lang/IllegalStateException" ["java/lang/RuntimeException", "java/lang/Exception"]).filter goodWord)
def wsX3_checkSponsor : List Cond := .code yX3_checkSponsor cX3_checkSponsor 1 none :: ([.classLink RX3 180 "java/lang/IndexOutOfBoundsException", .initialized "java/lang/IndexOutOfBoundsException"] ++ (vx_atS RX3 184 "java/lang/IndexOutOfBoundsException" ["java/lang/RuntimeException", "java/lang/Exception"]).filter goodWord)
def wsX3_promise : List Cond := .code yX3_promise cX3_promise 4 (some .int) :: ([.fieldLink RX3 29 "Castdesk" "promised" "[I", .methodLink RX3 170 yX3_checkSponsor, .static yX3_checkSponsor, .initialized RX3, .code yX3_checkSponsor cX3_checkSponsor 1 none, .classLink RX3 180 "java/lang/IndexOutOfBoundsException", .initialized "java/lang/IndexOutOfBoundsException", .methodLink RX3 58 yX3_checkRange, .static yX3_checkRange, .code yX3_checkRange cX3_checkRange 3 none, .classLink RX3 62 "java/lang/IllegalArgumentException", .initialized "java/lang/IllegalArgumentException"] ++ wsX30 ++ (vx_atS RX3 184 "java/lang/IndexOutOfBoundsException" ["java/lang/RuntimeException", "java/lang/Exception"]).filter goodWord ++ (vx_atS RX3 66 "java/lang/IllegalArgumentException" ["java/lang/RuntimeException", "java/lang/Exception"]).filter goodWord)
def wsX3_slot : List Cond := .code yX3_slot cX3_slot 4 (some .int) :: ([.classLink RX3 106 "java/lang/IllegalStateException", .initialized "java/lang/IllegalStateException", .fieldLink RX3 35 "Castdesk" "slotPlayers" "[I", .fieldLink RX3 175 "Castdesk" "slots" "I", .methodLink RX3 170 yX3_checkSponsor, .static yX3_checkSponsor, .initialized RX3, .code yX3_checkSponsor cX3_checkSponsor 1 none, .classLink RX3 180 "java/lang/IndexOutOfBoundsException", .initialized "java/lang/IndexOutOfBoundsException", .methodLink RX3 54 yX3_checkPlayer, .static yX3_checkPlayer, .code yX3_checkPlayer cX3_checkPlayer 1 none] ++ wsX30 ++ (vx_atS RX3 110 "java/lang/IllegalStateException" ["java/lang/RuntimeException", "java/lang/Exception"]).filter goodWord ++ (vx_atS RX3 184 "java/lang/IndexOutOfBoundsException" ["java/lang/RuntimeException", "java/lang/Exception"]).filter goodWord)
def wsX3_frame : List Cond := .code yX3_frame cX3_frame 1 (some .int) :: ([.fieldLink RX3 85 "Castdesk" "now" "I"] ++ wsX30)
def wsX3_shown : List Cond := .code yX3_shown cX3_shown 3 (some .int) :: ([.classLink RX3 180 "java/lang/IndexOutOfBoundsException", .initialized "java/lang/IndexOutOfBoundsException", .classLink RX3 62 "java/lang/IllegalArgumentException", .initialized "java/lang/IllegalArgumentException", .fieldLink RX3 85 "Castdesk" "now" "I", .fieldLink RX3 45 "Castdesk" "shownFight" "[I", .fieldLink RX3 48 "Castdesk" "shownCamera" "[I", .fieldLink RX3 51 "Castdesk" "shownSponsor" "[I"] ++ wsX30 ++ (vx_atS RX3 184 "java/lang/IndexOutOfBoundsException" ["java/lang/RuntimeException", "java/lang/Exception"]).filter goodWord ++ (vx_atS RX3 66 "java/lang/IllegalArgumentException" ["java/lang/RuntimeException", "java/lang/Exception"]).filter goodWord)
def wsX3_seen : List Cond := .code yX3_seen cX3_seen 1 (some .int) :: ([.fieldLink RX3 42 "Castdesk" "seenUpTo" "I"] ++ wsX30)
def wsX3_points_r1 : List Cond := [Cond.fieldLink RX3 85 "Castdesk" "now" "I", Cond.methodLink RX3 77 yX3_fightNumbered, Cond.instanceMethod yX3_fightNumbered, Cond.selects RX3 yX3_fightNumbered yX3_fightNumbered, Cond.initialized RX3, Cond.code yX3_fightNumbered cX3_fightNumbered 2 (some (.object "Castdesk$Fight")), Cond.classLink RX3 180 "java/lang/IndexOutOfBoundsException", Cond.initialized "java/lang/IndexOutOfBoundsException", Cond.fieldLink RX3 19 "Castdesk" "fights" "Ljava/util/ArrayList;", Cond.classLink RX3 89 "Castdesk$Fight", Cond.methodLink RX3 117 yJx4a65c_size_8abf5, Cond.instanceMethod yJx4a65c_size_8abf5, Cond.selects RJx4a65c yJx4a65c_size_8abf5 yJx4a65c_size_8abf5, Cond.initialized RJx4a65c, Cond.code yJx4a65c_size_8abf5 cJx4a65c_size_8abf5 1 (some .int), Cond.fieldLink RJx4a65c 48 "java/util/ArrayList" "size" "I", Cond.methodLink RX3 194 yJx4a65c_get_915e3, Cond.instanceMethod yJx4a65c_get_915e3, Cond.selects RJx4a65c yJx4a65c_get_915e3 yJx4a65c_get_915e3, Cond.code yJx4a65c_get_915e3 cJx4a65c_get_915e3 2 (some (.object "java/lang/Object")), Cond.methodLink RJx4a65c 118 yJ15_checkIndex_7cf53, Cond.static yJ15_checkIndex_7cf53, Cond.initialized RJ15, Cond.code yJ15_checkIndex_7cf53 cJ15_checkIndex_7cf53 2 (some .int)]
def wsX3_points_r2 : List Cond := [Cond.methodLink RJ15 105 yJ3_checkIndex_8e157, Cond.static yJ3_checkIndex_8e157, Cond.initialized RJ3, Cond.code yJ3_checkIndex_8e157 cJ3_checkIndex_8e157 3 (some .int), Cond.methodLink RJx4a65c 123 yJx4a65c_elementData_915e3, Cond.instanceMethod yJx4a65c_elementData_915e3, Cond.selects RJx4a65c yJx4a65c_elementData_915e3 yJx4a65c_elementData_915e3, Cond.code yJx4a65c_elementData_915e3 cJx4a65c_elementData_915e3 2 (some (.object "java/lang/Object")), Cond.fieldLink RJx4a65c 9 "java/util/ArrayList" "elementData" "[Ljava/lang/Object;", Cond.methodLink RX3 54 yX3_checkPlayer, Cond.static yX3_checkPlayer, Cond.code yX3_checkPlayer cX3_checkPlayer 1 none, Cond.methodLink RX3 93 yX3_pointsUpTo, Cond.instanceMethod yX3_pointsUpTo, Cond.selects RX3 yX3_pointsUpTo yX3_pointsUpTo, Cond.code yX3_pointsUpTo cX3_pointsUpTo 7 (some .int), Cond.fieldLink RX3 26 "Castdesk" "entries" "Ljava/util/ArrayList;", Cond.classLink RX3 150 "Castdesk$Entry", Cond.fieldLink RX3 239 "Castdesk$Entry" "fight" "LCastdesk$Fight;", Cond.fieldLink RX3 243 "Castdesk$Entry" "player" "I", Cond.fieldLink RX3 246 "Castdesk$Entry" "frame" "I", Cond.fieldLink RX3 163 "Castdesk$Entry" "struck" "Z", Cond.fieldLink RX3 167 "Castdesk$Entry" "points" "I"]
def wsX3_points : List Cond := .code yX3_points cX3_points 4 (some .int) :: ((wsX3_points_r1 ++ wsX3_points_r2) ++ wsX30 ++ wsJx4a65c0 ++ wsX10 ++ (vx_atS RX3 184 "java/lang/IndexOutOfBoundsException" ["java/lang/RuntimeException", "java/lang/Exception"]).filter goodWord)
def wsX3_overlay_r1 : List Cond := [Cond.fieldLink RX3 42 "Castdesk" "seenUpTo" "I", Cond.methodLink RX3 77 yX3_fightNumbered, Cond.instanceMethod yX3_fightNumbered, Cond.selects RX3 yX3_fightNumbered yX3_fightNumbered, Cond.initialized RX3, Cond.code yX3_fightNumbered cX3_fightNumbered 2 (some (.object "Castdesk$Fight")), Cond.classLink RX3 180 "java/lang/IndexOutOfBoundsException", Cond.initialized "java/lang/IndexOutOfBoundsException", Cond.fieldLink RX3 19 "Castdesk" "fights" "Ljava/util/ArrayList;", Cond.classLink RX3 89 "Castdesk$Fight", Cond.methodLink RX3 117 yJx4a65c_size_8abf5, Cond.instanceMethod yJx4a65c_size_8abf5, Cond.selects RJx4a65c yJx4a65c_size_8abf5 yJx4a65c_size_8abf5, Cond.initialized RJx4a65c, Cond.code yJx4a65c_size_8abf5 cJx4a65c_size_8abf5 1 (some .int), Cond.fieldLink RJx4a65c 48 "java/util/ArrayList" "size" "I", Cond.methodLink RX3 194 yJx4a65c_get_915e3, Cond.instanceMethod yJx4a65c_get_915e3, Cond.selects RJx4a65c yJx4a65c_get_915e3 yJx4a65c_get_915e3, Cond.code yJx4a65c_get_915e3 cJx4a65c_get_915e3 2 (some (.object "java/lang/Object")), Cond.methodLink RJx4a65c 118 yJ15_checkIndex_7cf53, Cond.static yJ15_checkIndex_7cf53, Cond.initialized RJ15, Cond.code yJ15_checkIndex_7cf53 cJ15_checkIndex_7cf53 2 (some .int)]
def wsX3_overlay_r2 : List Cond := [Cond.methodLink RJ15 105 yJ3_checkIndex_8e157, Cond.static yJ3_checkIndex_8e157, Cond.initialized RJ3, Cond.code yJ3_checkIndex_8e157 cJ3_checkIndex_8e157 3 (some .int), Cond.methodLink RJx4a65c 123 yJx4a65c_elementData_915e3, Cond.instanceMethod yJx4a65c_elementData_915e3, Cond.selects RJx4a65c yJx4a65c_elementData_915e3 yJx4a65c_elementData_915e3, Cond.code yJx4a65c_elementData_915e3 cJx4a65c_elementData_915e3 2 (some (.object "java/lang/Object")), Cond.fieldLink RJx4a65c 9 "java/util/ArrayList" "elementData" "[Ljava/lang/Object;", Cond.methodLink RX3 54 yX3_checkPlayer, Cond.static yX3_checkPlayer, Cond.code yX3_checkPlayer cX3_checkPlayer 1 none, Cond.methodLink RX3 93 yX3_pointsUpTo, Cond.instanceMethod yX3_pointsUpTo, Cond.selects RX3 yX3_pointsUpTo yX3_pointsUpTo, Cond.code yX3_pointsUpTo cX3_pointsUpTo 7 (some .int), Cond.fieldLink RX3 26 "Castdesk" "entries" "Ljava/util/ArrayList;", Cond.classLink RX3 150 "Castdesk$Entry", Cond.fieldLink RX3 239 "Castdesk$Entry" "fight" "LCastdesk$Fight;", Cond.fieldLink RX3 243 "Castdesk$Entry" "player" "I", Cond.fieldLink RX3 246 "Castdesk$Entry" "frame" "I", Cond.fieldLink RX3 163 "Castdesk$Entry" "struck" "Z", Cond.fieldLink RX3 167 "Castdesk$Entry" "points" "I"]
def wsX3_overlay : List Cond := .code yX3_overlay cX3_overlay 4 (some .int) :: ((wsX3_overlay_r1 ++ wsX3_overlay_r2) ++ wsX30 ++ wsJx4a65c0 ++ wsX10 ++ (vx_atS RX3 184 "java/lang/IndexOutOfBoundsException" ["java/lang/RuntimeException", "java/lang/Exception"]).filter goodWord)
def wsX3_fightOf_r1 : List Cond := [Cond.classLink RX3 62 "java/lang/IllegalArgumentException", Cond.initialized "java/lang/IllegalArgumentException", Cond.fieldLink RX3 100 "Castdesk$Fight" "state" "I", Cond.fieldLink RX3 88 "Castdesk$Fight" "first" "I", Cond.fieldLink RX3 97 "Castdesk$Fight" "second" "I", Cond.fieldLink RX3 103 "Castdesk$Fight" "winner" "I", Cond.fieldLink RX3 187 "Castdesk$Fight" "framesShown" "I", Cond.methodLink RX3 77 yX3_fightNumbered, Cond.instanceMethod yX3_fightNumbered, Cond.selects RX3 yX3_fightNumbered yX3_fightNumbered, Cond.initialized RX3, Cond.code yX3_fightNumbered cX3_fightNumbered 2 (some (.object "Castdesk$Fight")), Cond.classLink RX3 180 "java/lang/IndexOutOfBoundsException", Cond.initialized "java/lang/IndexOutOfBoundsException", Cond.fieldLink RX3 19 "Castdesk" "fights" "Ljava/util/ArrayList;", Cond.classLink RX3 89 "Castdesk$Fight", Cond.methodLink RX3 117 yJx4a65c_size_8abf5, Cond.instanceMethod yJx4a65c_size_8abf5, Cond.selects RJx4a65c yJx4a65c_size_8abf5 yJx4a65c_size_8abf5, Cond.initialized RJx4a65c, Cond.code yJx4a65c_size_8abf5 cJx4a65c_size_8abf5 1 (some .int), Cond.fieldLink RJx4a65c 48 "java/util/ArrayList" "size" "I", Cond.methodLink RX3 194 yJx4a65c_get_915e3, Cond.instanceMethod yJx4a65c_get_915e3]
def wsX3_fightOf_r2 : List Cond := [Cond.selects RJx4a65c yJx4a65c_get_915e3 yJx4a65c_get_915e3, Cond.code yJx4a65c_get_915e3 cJx4a65c_get_915e3 2 (some (.object "java/lang/Object")), Cond.methodLink RJx4a65c 118 yJ15_checkIndex_7cf53, Cond.static yJ15_checkIndex_7cf53, Cond.initialized RJ15, Cond.code yJ15_checkIndex_7cf53 cJ15_checkIndex_7cf53 2 (some .int), Cond.methodLink RJ15 105 yJ3_checkIndex_8e157, Cond.static yJ3_checkIndex_8e157, Cond.initialized RJ3, Cond.code yJ3_checkIndex_8e157 cJ3_checkIndex_8e157 3 (some .int), Cond.methodLink RJx4a65c 123 yJx4a65c_elementData_915e3, Cond.instanceMethod yJx4a65c_elementData_915e3, Cond.selects RJx4a65c yJx4a65c_elementData_915e3 yJx4a65c_elementData_915e3, Cond.code yJx4a65c_elementData_915e3 cJx4a65c_elementData_915e3 2 (some (.object "java/lang/Object")), Cond.fieldLink RJx4a65c 9 "java/util/ArrayList" "elementData" "[Ljava/lang/Object;"]
def wsX3_fightOf : List Cond := .code yX3_fightOf cX3_fightOf 4 (some .int) :: ((wsX3_fightOf_r1 ++ wsX3_fightOf_r2) ++ wsX20 ++ wsX30 ++ wsJx4a65c0 ++ (vx_atS RX3 66 "java/lang/IllegalArgumentException" ["java/lang/RuntimeException", "java/lang/Exception"]).filter goodWord ++ (vx_atS RX3 184 "java/lang/IndexOutOfBoundsException" ["java/lang/RuntimeException", "java/lang/Exception"]).filter goodWord)
def wsX3_cameraOf_r1 : List Cond := [Cond.classLink RX3 180 "java/lang/IndexOutOfBoundsException", Cond.initialized "java/lang/IndexOutOfBoundsException", Cond.classLink RX3 62 "java/lang/IllegalArgumentException", Cond.initialized "java/lang/IllegalArgumentException", Cond.fieldLink RX3 23 "Castdesk" "cameras" "Ljava/util/ArrayList;", Cond.classLink RX3 123 "Castdesk$Camera", Cond.fieldLink RX3 198 "Castdesk$Camera" "onAir" "I", Cond.fieldLink RX3 201 "Castdesk$Camera" "toBeOff" "I", Cond.methodLink RX3 117 yJx4a65c_size_8abf5, Cond.instanceMethod yJx4a65c_size_8abf5, Cond.selects RJx4a65c yJx4a65c_size_8abf5 yJx4a65c_size_8abf5, Cond.initialized RJx4a65c, Cond.code yJx4a65c_size_8abf5 cJx4a65c_size_8abf5 1 (some .int), Cond.fieldLink RJx4a65c 48 "java/util/ArrayList" "size" "I", Cond.methodLink RX3 194 yJx4a65c_get_915e3, Cond.instanceMethod yJx4a65c_get_915e3, Cond.selects RJx4a65c yJx4a65c_get_915e3 yJx4a65c_get_915e3, Cond.code yJx4a65c_get_915e3 cJx4a65c_get_915e3 2 (some (.object "java/lang/Object")), Cond.methodLink RJx4a65c 118 yJ15_checkIndex_7cf53, Cond.static yJ15_checkIndex_7cf53, Cond.initialized RJ15, Cond.code yJ15_checkIndex_7cf53 cJ15_checkIndex_7cf53 2 (some .int), Cond.methodLink RJ15 105 yJ3_checkIndex_8e157, Cond.static yJ3_checkIndex_8e157]
def wsX3_cameraOf_r2 : List Cond := [Cond.initialized RJ3, Cond.code yJ3_checkIndex_8e157 cJ3_checkIndex_8e157 3 (some .int), Cond.methodLink RJx4a65c 123 yJx4a65c_elementData_915e3, Cond.instanceMethod yJx4a65c_elementData_915e3, Cond.selects RJx4a65c yJx4a65c_elementData_915e3 yJx4a65c_elementData_915e3, Cond.code yJx4a65c_elementData_915e3 cJx4a65c_elementData_915e3 2 (some (.object "java/lang/Object")), Cond.fieldLink RJx4a65c 9 "java/util/ArrayList" "elementData" "[Ljava/lang/Object;"]
def wsX3_cameraOf : List Cond := .code yX3_cameraOf cX3_cameraOf 4 (some .int) :: ((wsX3_cameraOf_r1 ++ wsX3_cameraOf_r2) ++ wsX30 ++ wsX00 ++ wsJx4a65c0 ++ (vx_atS RX3 184 "java/lang/IndexOutOfBoundsException" ["java/lang/RuntimeException", "java/lang/Exception"]).filter goodWord ++ (vx_atS RX3 66 "java/lang/IllegalArgumentException" ["java/lang/RuntimeException", "java/lang/Exception"]).filter goodWord)
def wsX3_counted : List Cond := .code yX3_counted cX3_counted 2 (some .int) :: ([.fieldLink RX3 32 "Castdesk" "countedFrames" "[I", .methodLink RX3 170 yX3_checkSponsor, .static yX3_checkSponsor, .initialized RX3, .code yX3_checkSponsor cX3_checkSponsor 1 none, .classLink RX3 180 "java/lang/IndexOutOfBoundsException", .initialized "java/lang/IndexOutOfBoundsException"] ++ wsX30 ++ (vx_atS RX3 184 "java/lang/IndexOutOfBoundsException" ["java/lang/RuntimeException", "java/lang/Exception"]).filter goodWord)
def wsX3_countedAnew : List Cond := .code yX3_countedAnew cX3_countedAnew 4 (some .int) :: ([.fieldLink RX3 85 "Castdesk" "now" "I", .fieldLink RX3 51 "Castdesk" "shownSponsor" "[I", .methodLink RX3 170 yX3_checkSponsor, .static yX3_checkSponsor, .initialized RX3, .code yX3_checkSponsor cX3_checkSponsor 1 none, .classLink RX3 180 "java/lang/IndexOutOfBoundsException", .initialized "java/lang/IndexOutOfBoundsException"] ++ wsX30 ++ (vx_atS RX3 184 "java/lang/IndexOutOfBoundsException" ["java/lang/RuntimeException", "java/lang/Exception"]).filter goodWord)
def wsX3_owed : List Cond := .code yX3_owed cX3_owed 2 (some .int) :: ([.methodLink RX3 170 yX3_checkSponsor, .static yX3_checkSponsor, .initialized RX3, .code yX3_checkSponsor cX3_checkSponsor 1 none, .classLink RX3 180 "java/lang/IndexOutOfBoundsException", .initialized "java/lang/IndexOutOfBoundsException", .methodLink RX3 206 yX3_owedTo, .instanceMethod yX3_owedTo, .selects RX3 yX3_owedTo yX3_owedTo, .code yX3_owedTo cX3_owedTo 2 (some .int), .fieldLink RX3 29 "Castdesk" "promised" "[I", .fieldLink RX3 32 "Castdesk" "countedFrames" "[I", .methodLink RX3 285 Lib.Math.max.name, .static Lib.Math.max.name, .initialized "java/lang/Math", .code Lib.Math.max.name Lib.Math.max.code 2 (some .int)] ++ wsX30 ++ (vx_atS RX3 184 "java/lang/IndexOutOfBoundsException" ["java/lang/RuntimeException", "java/lang/Exception"]).filter goodWord)
def wsX3_placeOf : List Cond := .code yX3_placeOf cX3_placeOf 4 (some .int) :: ([.fieldLink RX3 13 "Castdesk" "wins" "[I"] ++ wsX30)
def wsX3_leader : List Cond := .code yX3_leader cX3_leader 3 (some .int) :: ([.classLink RX3 180 "java/lang/IndexOutOfBoundsException", .initialized "java/lang/IndexOutOfBoundsException", .methodLink RX3 212 yX3_placeOf, .instanceMethod yX3_placeOf, .selects RX3 yX3_placeOf yX3_placeOf, .initialized RX3, .code yX3_placeOf cX3_placeOf 4 (some .int), .fieldLink RX3 13 "Castdesk" "wins" "[I"] ++ wsX30 ++ (vx_atS RX3 184 "java/lang/IndexOutOfBoundsException" ["java/lang/RuntimeException", "java/lang/Exception"]).filter goodWord)
def wsX4_init_r1 : List Cond := [Cond.methodLink RX4 1 objectInit, Cond.instanceMethod objectInit, Cond.code objectInit ⟨#[0xb1]⟩ 1 none, Cond.fieldLink RX4 7 "CastdeskModel" "delay" "I", Cond.fieldLink RX4 13 "CastdeskModel" "seen" "I", Cond.arrayClass .int, Cond.fieldLink RX4 16 "CastdeskModel" "ranks" "[I", Cond.fieldLink RX4 20 "CastdeskModel" "state" "[I", Cond.fieldLink RX4 23 "CastdeskModel" "first" "[I", Cond.fieldLink RX4 26 "CastdeskModel" "second" "[I", Cond.fieldLink RX4 29 "CastdeskModel" "winner" "[I", Cond.fieldLink RX4 32 "CastdeskModel" "stamina" "[I", Cond.fieldLink RX4 35 "CastdeskModel" "rest" "[I", Cond.fieldLink RX4 38 "CastdeskModel" "inRow" "[I", Cond.fieldLink RX4 41 "CastdeskModel" "off" "[I", Cond.fieldLink RX4 44 "CastdeskModel" "onAir" "I", Cond.fieldLink RX4 47 "CastdeskModel" "before" "I", Cond.fieldLink RX4 50 "CastdeskModel" "fightIn" "[I", Cond.fieldLink RX4 53 "CastdeskModel" "cameraIn" "[I", Cond.fieldLink RX4 56 "CastdeskModel" "sponsorIn" "[I", Cond.fieldLink RX4 59 "CastdeskModel" "of" "[I", Cond.fieldLink RX4 62 "CastdeskModel" "by" "[I", Cond.fieldLink RX4 65 "CastdeskModel" "points" "[I", Cond.fieldLink RX4 68 "CastdeskModel" "at" "[I"]
def wsX4_init_r2 : List Cond := [Cond.arrayClass .boolean, Cond.fieldLink RX4 71 "CastdeskModel" "isStruck" "[Z", Cond.fieldLink RX4 75 "CastdeskModel" "promises" "[I", Cond.fieldLink RX4 78 "CastdeskModel" "hasSlot" "[Z"]
def wsX4_init : List Cond := .code yX4_init cX4_init 1 none :: ((wsX4_init_r1 ++ wsX4_init_r2) ++ wsX40)
def wsX4_thrown : List Cond := .code yX4_thrown cX4_thrown 1 (some .int) :: ([.fieldLink RX4 81 "CastdeskModel" "thrown" "I"] ++ wsX40)
def wsX4_in : List Cond := .code yX4_in cX4_in 3 (some .boolean) :: ([])
def wsX4_refused : List Cond := .code yX4_refused cX4_refused 2 (some .boolean) :: ([.fieldLink RX4 81 "CastdeskModel" "thrown" "I"] ++ wsX40)
def wsX4_isPlayer : List Cond := .code yX4_isPlayer cX4_isPlayer 1 (some .boolean) :: ([.methodLink RX4 84 yX4_in, .static yX4_in, .initialized RX4, .code yX4_in cX4_in 3 (some .boolean)])
def wsX4_isFight : List Cond := .code yX4_isFight cX4_isFight 2 (some .boolean) :: ([.fieldLink RX4 88 "CastdeskModel" "fights" "I", .methodLink RX4 84 yX4_in, .static yX4_in, .initialized RX4, .code yX4_in cX4_in 3 (some .boolean)] ++ wsX40)
def wsX4_isSponsor : List Cond := .code yX4_isSponsor cX4_isSponsor 1 (some .boolean) :: ([.methodLink RX4 84 yX4_in, .static yX4_in, .initialized RX4, .code yX4_in cX4_in 3 (some .boolean)])
def wsX4_rank : List Cond := .code yX4_rank cX4_rank 4 (some .int) :: ([.fieldLink RX4 16 "CastdeskModel" "ranks" "[I", .methodLink RX4 91 yX4_isPlayer, .static yX4_isPlayer, .initialized RX4, .code yX4_isPlayer cX4_isPlayer 1 (some .boolean), .methodLink RX4 84 yX4_in, .static yX4_in, .code yX4_in cX4_in 3 (some .boolean), .methodLink RX4 95 yX4_refused, .instanceMethod yX4_refused, .selects RX4 yX4_refused yX4_refused, .code yX4_refused cX4_refused 2 (some .boolean), .fieldLink RX4 81 "CastdeskModel" "thrown" "I"] ++ wsX40)
def wsX4_isBusy : List Cond := .code yX4_isBusy cX4_isBusy 4 (some .boolean) :: ([.fieldLink RX4 88 "CastdeskModel" "fights" "I", .fieldLink RX4 20 "CastdeskModel" "state" "[I", .fieldLink RX4 23 "CastdeskModel" "first" "[I", .fieldLink RX4 26 "CastdeskModel" "second" "[I"] ++ wsX40)
def wsX4_begin : List Cond := .code yX4_begin cX4_begin 3 (some .int) :: ([.fieldLink RX4 23 "CastdeskModel" "first" "[I", .fieldLink RX4 88 "CastdeskModel" "fights" "I", .fieldLink RX4 26 "CastdeskModel" "second" "[I", .fieldLink RX4 29 "CastdeskModel" "winner" "[I"] ++ wsX40)
def wsX4_fight_r1 : List Cond := [Cond.fieldLink RX4 88 "CastdeskModel" "fights" "I", Cond.methodLink RX4 91 yX4_isPlayer, Cond.static yX4_isPlayer, Cond.initialized RX4, Cond.code yX4_isPlayer cX4_isPlayer 1 (some .boolean), Cond.methodLink RX4 84 yX4_in, Cond.static yX4_in, Cond.code yX4_in cX4_in 3 (some .boolean), Cond.methodLink RX4 98 yX4_isBusy, Cond.instanceMethod yX4_isBusy, Cond.selects RX4 yX4_isBusy yX4_isBusy, Cond.code yX4_isBusy cX4_isBusy 4 (some .boolean), Cond.fieldLink RX4 20 "CastdeskModel" "state" "[I", Cond.fieldLink RX4 23 "CastdeskModel" "first" "[I", Cond.fieldLink RX4 26 "CastdeskModel" "second" "[I", Cond.methodLink RX4 95 yX4_refused, Cond.instanceMethod yX4_refused, Cond.selects RX4 yX4_refused yX4_refused, Cond.code yX4_refused cX4_refused 2 (some .boolean), Cond.fieldLink RX4 81 "CastdeskModel" "thrown" "I", Cond.methodLink RX4 101 yX4_begin, Cond.instanceMethod yX4_begin, Cond.selects RX4 yX4_begin yX4_begin, Cond.code yX4_begin cX4_begin 3 (some .int)]
def wsX4_fight_r2 : List Cond := [Cond.fieldLink RX4 29 "CastdeskModel" "winner" "[I"]
def wsX4_fight : List Cond := .code yX4_fight cX4_fight 4 (some .int) :: ((wsX4_fight_r1 ++ wsX4_fight_r2) ++ wsX40)
def wsX4_pointsOf : List Cond := .code yX4_pointsOf cX4_pointsOf 6 (some .int) :: ([.fieldLink RX4 112 "CastdeskModel" "entries" "I", .fieldLink RX4 59 "CastdeskModel" "of" "[I", .fieldLink RX4 62 "CastdeskModel" "by" "[I", .fieldLink RX4 71 "CastdeskModel" "isStruck" "[Z", .fieldLink RX4 68 "CastdeskModel" "at" "[I", .fieldLink RX4 65 "CastdeskModel" "points" "[I"] ++ wsX40)
def wsX4_end_r1 : List Cond := [Cond.fieldLink RX4 20 "CastdeskModel" "state" "[I", Cond.fieldLink RX4 23 "CastdeskModel" "first" "[I", Cond.fieldLink RX4 26 "CastdeskModel" "second" "[I", Cond.fieldLink RX4 29 "CastdeskModel" "winner" "[I", Cond.methodLink RX4 105 yX4_isFight, Cond.instanceMethod yX4_isFight, Cond.selects RX4 yX4_isFight yX4_isFight, Cond.initialized RX4, Cond.code yX4_isFight cX4_isFight 2 (some .boolean), Cond.fieldLink RX4 88 "CastdeskModel" "fights" "I", Cond.methodLink RX4 84 yX4_in, Cond.static yX4_in, Cond.code yX4_in cX4_in 3 (some .boolean), Cond.methodLink RX4 95 yX4_refused, Cond.instanceMethod yX4_refused, Cond.selects RX4 yX4_refused yX4_refused, Cond.code yX4_refused cX4_refused 2 (some .boolean), Cond.fieldLink RX4 81 "CastdeskModel" "thrown" "I", Cond.methodLink RX4 108 yX4_pointsOf, Cond.instanceMethod yX4_pointsOf, Cond.selects RX4 yX4_pointsOf yX4_pointsOf, Cond.code yX4_pointsOf cX4_pointsOf 6 (some .int), Cond.fieldLink RX4 112 "CastdeskModel" "entries" "I", Cond.fieldLink RX4 59 "CastdeskModel" "of" "[I"]
def wsX4_end_r2 : List Cond := [Cond.fieldLink RX4 62 "CastdeskModel" "by" "[I", Cond.fieldLink RX4 71 "CastdeskModel" "isStruck" "[Z", Cond.fieldLink RX4 68 "CastdeskModel" "at" "[I", Cond.fieldLink RX4 65 "CastdeskModel" "points" "[I"]
def wsX4_end : List Cond := .code yX4_end cX4_end 4 (some .int) :: ((wsX4_end_r1 ++ wsX4_end_r2) ++ wsX40)
def wsX4_replay_r1 : List Cond := [Cond.fieldLink RX4 20 "CastdeskModel" "state" "[I", Cond.fieldLink RX4 23 "CastdeskModel" "first" "[I", Cond.fieldLink RX4 26 "CastdeskModel" "second" "[I", Cond.fieldLink RX4 88 "CastdeskModel" "fights" "I", Cond.fieldLink RX4 29 "CastdeskModel" "winner" "[I", Cond.fieldLink RX4 112 "CastdeskModel" "entries" "I", Cond.fieldLink RX4 71 "CastdeskModel" "isStruck" "[Z", Cond.fieldLink RX4 59 "CastdeskModel" "of" "[I", Cond.fieldLink RX4 115 "CastdeskModel" "now" "I", Cond.fieldLink RX4 56 "CastdeskModel" "sponsorIn" "[I", Cond.fieldLink RX4 50 "CastdeskModel" "fightIn" "[I", Cond.methodLink RX4 105 yX4_isFight, Cond.instanceMethod yX4_isFight, Cond.selects RX4 yX4_isFight yX4_isFight, Cond.initialized RX4, Cond.code yX4_isFight cX4_isFight 2 (some .boolean), Cond.methodLink RX4 84 yX4_in, Cond.static yX4_in, Cond.code yX4_in cX4_in 3 (some .boolean), Cond.methodLink RX4 98 yX4_isBusy, Cond.instanceMethod yX4_isBusy, Cond.selects RX4 yX4_isBusy yX4_isBusy, Cond.code yX4_isBusy cX4_isBusy 4 (some .boolean), Cond.methodLink RX4 95 yX4_refused]
def wsX4_replay_r2 : List Cond := [Cond.instanceMethod yX4_refused, Cond.selects RX4 yX4_refused yX4_refused, Cond.code yX4_refused cX4_refused 2 (some .boolean), Cond.fieldLink RX4 81 "CastdeskModel" "thrown" "I", Cond.methodLink RX4 101 yX4_begin, Cond.instanceMethod yX4_begin, Cond.selects RX4 yX4_begin yX4_begin, Cond.code yX4_begin cX4_begin 3 (some .int)]
def wsX4_replay : List Cond := .code yX4_replay cX4_replay 4 (some .int) :: ((wsX4_replay_r1 ++ wsX4_replay_r2) ++ wsX40)
def wsX4_camera : List Cond := .code yX4_camera cX4_camera 3 (some .int) :: ([.fieldLink RX4 118 "CastdeskModel" "cameras" "I", .fieldLink RX4 32 "CastdeskModel" "stamina" "[I", .fieldLink RX4 35 "CastdeskModel" "rest" "[I", .methodLink RX4 84 yX4_in, .static yX4_in, .initialized RX4, .code yX4_in cX4_in 3 (some .boolean), .methodLink RX4 95 yX4_refused, .instanceMethod yX4_refused, .selects RX4 yX4_refused yX4_refused, .code yX4_refused cX4_refused 2 (some .boolean), .fieldLink RX4 81 "CastdeskModel" "thrown" "I"] ++ wsX40)
def wsX4_see : List Cond := .code yX4_see cX4_see 1 none :: ([.fieldLink RX4 115 "CastdeskModel" "now" "I", .fieldLink RX4 7 "CastdeskModel" "delay" "I", .fieldLink RX4 13 "CastdeskModel" "seen" "I"] ++ wsX40)
def wsX4_delay : List Cond := .code yX4_delay cX4_delay 3 (some .int) :: ([.fieldLink RX4 7 "CastdeskModel" "delay" "I", .methodLink RX4 84 yX4_in, .static yX4_in, .initialized RX4, .code yX4_in cX4_in 3 (some .boolean), .methodLink RX4 95 yX4_refused, .instanceMethod yX4_refused, .selects RX4 yX4_refused yX4_refused, .code yX4_refused cX4_refused 2 (some .boolean), .fieldLink RX4 81 "CastdeskModel" "thrown" "I", .methodLink RX4 121 yX4_see, .instanceMethod yX4_see, .selects RX4 yX4_see yX4_see, .code yX4_see cX4_see 1 none, .fieldLink RX4 115 "CastdeskModel" "now" "I", .fieldLink RX4 13 "CastdeskModel" "seen" "I"] ++ wsX40)
def wsX4_heat : List Cond := .code yX4_heat cX4_heat 6 (some .int) :: ([.fieldLink RX4 16 "CastdeskModel" "ranks" "[I", .fieldLink RX4 23 "CastdeskModel" "first" "[I", .fieldLink RX4 26 "CastdeskModel" "second" "[I", .fieldLink RX4 115 "CastdeskModel" "now" "I", .fieldLink RX4 112 "CastdeskModel" "entries" "I", .fieldLink RX4 59 "CastdeskModel" "of" "[I", .fieldLink RX4 68 "CastdeskModel" "at" "[I"] ++ wsX40)
def wsX4_hottest : List Cond := .code yX4_hottest cX4_hottest 4 (some .int) :: ([.fieldLink RX4 88 "CastdeskModel" "fights" "I", .fieldLink RX4 20 "CastdeskModel" "state" "[I", .fieldLink RX4 47 "CastdeskModel" "before" "I", .methodLink RX4 124 yX4_heat, .instanceMethod yX4_heat, .selects RX4 yX4_heat yX4_heat, .initialized RX4, .code yX4_heat cX4_heat 6 (some .int), .fieldLink RX4 16 "CastdeskModel" "ranks" "[I", .fieldLink RX4 23 "CastdeskModel" "first" "[I", .fieldLink RX4 26 "CastdeskModel" "second" "[I", .fieldLink RX4 115 "CastdeskModel" "now" "I", .fieldLink RX4 112 "CastdeskModel" "entries" "I", .fieldLink RX4 59 "CastdeskModel" "of" "[I", .fieldLink RX4 68 "CastdeskModel" "at" "[I"] ++ wsX40)
def wsX4_chosen : List Cond := .code yX4_chosen cX4_chosen 3 (some .int) :: ([.fieldLink RX4 44 "CastdeskModel" "onAir" "I", .fieldLink RX4 41 "CastdeskModel" "off" "[I", .fieldLink RX4 118 "CastdeskModel" "cameras" "I"] ++ wsX40)
def wsX4_countedFor : List Cond := .code yX4_countedFor cX4_countedFor 4 (some .int) :: ([.fieldLink RX4 115 "CastdeskModel" "now" "I", .fieldLink RX4 56 "CastdeskModel" "sponsorIn" "[I"] ++ wsX40)
def wsX4_owedTo : List Cond := .code yX4_owedTo cX4_owedTo 3 (some .int) :: ([.fieldLink RX4 75 "CastdeskModel" "promises" "[I", .methodLink RX4 156 yX4_countedFor, .instanceMethod yX4_countedFor, .selects RX4 yX4_countedFor yX4_countedFor, .initialized RX4, .code yX4_countedFor cX4_countedFor 4 (some .int), .fieldLink RX4 115 "CastdeskModel" "now" "I", .fieldLink RX4 56 "CastdeskModel" "sponsorIn" "[I"] ++ wsX40)
def wsX4_sponsorFor : List Cond := .code yX4_sponsorFor cX4_sponsorFor 5 (some .int) :: ([.fieldLink RX4 78 "CastdeskModel" "hasSlot" "[Z", .fieldLink RX4 23 "CastdeskModel" "first" "[I", .fieldLink RX4 26 "CastdeskModel" "second" "[I", .methodLink RX4 128 yX4_owedTo, .instanceMethod yX4_owedTo, .selects RX4 yX4_owedTo yX4_owedTo, .initialized RX4, .code yX4_owedTo cX4_owedTo 3 (some .int), .fieldLink RX4 75 "CastdeskModel" "promises" "[I", .methodLink RX4 156 yX4_countedFor, .instanceMethod yX4_countedFor, .selects RX4 yX4_countedFor yX4_countedFor, .code yX4_countedFor cX4_countedFor 4 (some .int), .fieldLink RX4 115 "CastdeskModel" "now" "I", .fieldLink RX4 56 "CastdeskModel" "sponsorIn" "[I"] ++ wsX40)
def wsX4_passes_r1 : List Cond := [Cond.fieldLink RX4 50 "CastdeskModel" "fightIn" "[I", Cond.fieldLink RX4 115 "CastdeskModel" "now" "I", Cond.fieldLink RX4 53 "CastdeskModel" "cameraIn" "[I", Cond.fieldLink RX4 56 "CastdeskModel" "sponsorIn" "[I", Cond.fieldLink RX4 118 "CastdeskModel" "cameras" "I", Cond.fieldLink RX4 41 "CastdeskModel" "off" "[I", Cond.fieldLink RX4 38 "CastdeskModel" "inRow" "[I", Cond.fieldLink RX4 32 "CastdeskModel" "stamina" "[I", Cond.fieldLink RX4 35 "CastdeskModel" "rest" "[I", Cond.fieldLink RX4 47 "CastdeskModel" "before" "I", Cond.fieldLink RX4 44 "CastdeskModel" "onAir" "I", Cond.methodLink RX4 131 yX4_hottest, Cond.instanceMethod yX4_hottest, Cond.selects RX4 yX4_hottest yX4_hottest, Cond.initialized RX4, Cond.code yX4_hottest cX4_hottest 4 (some .int), Cond.fieldLink RX4 88 "CastdeskModel" "fights" "I", Cond.fieldLink RX4 20 "CastdeskModel" "state" "[I", Cond.methodLink RX4 124 yX4_heat, Cond.instanceMethod yX4_heat, Cond.selects RX4 yX4_heat yX4_heat, Cond.code yX4_heat cX4_heat 6 (some .int), Cond.fieldLink RX4 16 "CastdeskModel" "ranks" "[I", Cond.fieldLink RX4 23 "CastdeskModel" "first" "[I"]
def wsX4_passes_r2 : List Cond := [Cond.fieldLink RX4 26 "CastdeskModel" "second" "[I", Cond.fieldLink RX4 112 "CastdeskModel" "entries" "I", Cond.fieldLink RX4 59 "CastdeskModel" "of" "[I", Cond.fieldLink RX4 68 "CastdeskModel" "at" "[I", Cond.methodLink RX4 135 yX4_chosen, Cond.instanceMethod yX4_chosen, Cond.selects RX4 yX4_chosen yX4_chosen, Cond.code yX4_chosen cX4_chosen 3 (some .int), Cond.methodLink RX4 138 yX4_sponsorFor, Cond.instanceMethod yX4_sponsorFor, Cond.selects RX4 yX4_sponsorFor yX4_sponsorFor, Cond.code yX4_sponsorFor cX4_sponsorFor 5 (some .int), Cond.fieldLink RX4 78 "CastdeskModel" "hasSlot" "[Z", Cond.methodLink RX4 128 yX4_owedTo, Cond.instanceMethod yX4_owedTo, Cond.selects RX4 yX4_owedTo yX4_owedTo, Cond.code yX4_owedTo cX4_owedTo 3 (some .int), Cond.fieldLink RX4 75 "CastdeskModel" "promises" "[I", Cond.methodLink RX4 156 yX4_countedFor, Cond.instanceMethod yX4_countedFor, Cond.selects RX4 yX4_countedFor yX4_countedFor, Cond.code yX4_countedFor cX4_countedFor 4 (some .int), Cond.methodLink RX4 121 yX4_see, Cond.instanceMethod yX4_see]
def wsX4_passes_r3 : List Cond := [Cond.selects RX4 yX4_see yX4_see, Cond.code yX4_see cX4_see 1 none, Cond.fieldLink RX4 7 "CastdeskModel" "delay" "I", Cond.fieldLink RX4 13 "CastdeskModel" "seen" "I"]
def wsX4_passes : List Cond := .code yX4_passes cX4_passes 4 none :: ((wsX4_passes_r1 ++ (wsX4_passes_r2 ++ wsX4_passes_r3)) ++ wsX40)
def wsX4_pass_r1 : List Cond := [Cond.fieldLink RX4 115 "CastdeskModel" "now" "I", Cond.methodLink RX4 84 yX4_in, Cond.static yX4_in, Cond.initialized RX4, Cond.code yX4_in cX4_in 3 (some .boolean), Cond.methodLink RX4 95 yX4_refused, Cond.instanceMethod yX4_refused, Cond.selects RX4 yX4_refused yX4_refused, Cond.code yX4_refused cX4_refused 2 (some .boolean), Cond.fieldLink RX4 81 "CastdeskModel" "thrown" "I", Cond.methodLink RX4 141 yX4_passes, Cond.instanceMethod yX4_passes, Cond.selects RX4 yX4_passes yX4_passes, Cond.code yX4_passes cX4_passes 4 none, Cond.fieldLink RX4 50 "CastdeskModel" "fightIn" "[I", Cond.fieldLink RX4 53 "CastdeskModel" "cameraIn" "[I", Cond.fieldLink RX4 56 "CastdeskModel" "sponsorIn" "[I", Cond.fieldLink RX4 118 "CastdeskModel" "cameras" "I", Cond.fieldLink RX4 41 "CastdeskModel" "off" "[I", Cond.fieldLink RX4 38 "CastdeskModel" "inRow" "[I", Cond.fieldLink RX4 32 "CastdeskModel" "stamina" "[I", Cond.fieldLink RX4 35 "CastdeskModel" "rest" "[I", Cond.fieldLink RX4 47 "CastdeskModel" "before" "I", Cond.fieldLink RX4 44 "CastdeskModel" "onAir" "I"]
def wsX4_pass_r2 : List Cond := [Cond.methodLink RX4 131 yX4_hottest, Cond.instanceMethod yX4_hottest, Cond.selects RX4 yX4_hottest yX4_hottest, Cond.code yX4_hottest cX4_hottest 4 (some .int), Cond.fieldLink RX4 88 "CastdeskModel" "fights" "I", Cond.fieldLink RX4 20 "CastdeskModel" "state" "[I", Cond.methodLink RX4 124 yX4_heat, Cond.instanceMethod yX4_heat, Cond.selects RX4 yX4_heat yX4_heat, Cond.code yX4_heat cX4_heat 6 (some .int), Cond.fieldLink RX4 16 "CastdeskModel" "ranks" "[I", Cond.fieldLink RX4 23 "CastdeskModel" "first" "[I", Cond.fieldLink RX4 26 "CastdeskModel" "second" "[I", Cond.fieldLink RX4 112 "CastdeskModel" "entries" "I", Cond.fieldLink RX4 59 "CastdeskModel" "of" "[I", Cond.fieldLink RX4 68 "CastdeskModel" "at" "[I", Cond.methodLink RX4 135 yX4_chosen, Cond.instanceMethod yX4_chosen, Cond.selects RX4 yX4_chosen yX4_chosen, Cond.code yX4_chosen cX4_chosen 3 (some .int), Cond.methodLink RX4 138 yX4_sponsorFor, Cond.instanceMethod yX4_sponsorFor, Cond.selects RX4 yX4_sponsorFor yX4_sponsorFor, Cond.code yX4_sponsorFor cX4_sponsorFor 5 (some .int)]
def wsX4_pass_r3 : List Cond := [Cond.fieldLink RX4 78 "CastdeskModel" "hasSlot" "[Z", Cond.methodLink RX4 128 yX4_owedTo, Cond.instanceMethod yX4_owedTo, Cond.selects RX4 yX4_owedTo yX4_owedTo, Cond.code yX4_owedTo cX4_owedTo 3 (some .int), Cond.fieldLink RX4 75 "CastdeskModel" "promises" "[I", Cond.methodLink RX4 156 yX4_countedFor, Cond.instanceMethod yX4_countedFor, Cond.selects RX4 yX4_countedFor yX4_countedFor, Cond.code yX4_countedFor cX4_countedFor 4 (some .int), Cond.methodLink RX4 121 yX4_see, Cond.instanceMethod yX4_see, Cond.selects RX4 yX4_see yX4_see, Cond.code yX4_see cX4_see 1 none, Cond.fieldLink RX4 7 "CastdeskModel" "delay" "I", Cond.fieldLink RX4 13 "CastdeskModel" "seen" "I"]
def wsX4_pass : List Cond := .code yX4_pass cX4_pass 3 (some .int) :: ((wsX4_pass_r1 ++ (wsX4_pass_r2 ++ wsX4_pass_r3)) ++ wsX40)
def wsX4_blow_r1 : List Cond := [Cond.fieldLink RX4 23 "CastdeskModel" "first" "[I", Cond.fieldLink RX4 26 "CastdeskModel" "second" "[I", Cond.fieldLink RX4 20 "CastdeskModel" "state" "[I", Cond.fieldLink RX4 112 "CastdeskModel" "entries" "I", Cond.fieldLink RX4 59 "CastdeskModel" "of" "[I", Cond.fieldLink RX4 62 "CastdeskModel" "by" "[I", Cond.fieldLink RX4 65 "CastdeskModel" "points" "[I", Cond.fieldLink RX4 68 "CastdeskModel" "at" "[I", Cond.fieldLink RX4 115 "CastdeskModel" "now" "I", Cond.methodLink RX4 105 yX4_isFight, Cond.instanceMethod yX4_isFight, Cond.selects RX4 yX4_isFight yX4_isFight, Cond.initialized RX4, Cond.code yX4_isFight cX4_isFight 2 (some .boolean), Cond.fieldLink RX4 88 "CastdeskModel" "fights" "I", Cond.methodLink RX4 84 yX4_in, Cond.static yX4_in, Cond.code yX4_in cX4_in 3 (some .boolean), Cond.methodLink RX4 91 yX4_isPlayer, Cond.static yX4_isPlayer, Cond.code yX4_isPlayer cX4_isPlayer 1 (some .boolean), Cond.methodLink RX4 95 yX4_refused, Cond.instanceMethod yX4_refused, Cond.selects RX4 yX4_refused yX4_refused]
def wsX4_blow_r2 : List Cond := [Cond.code yX4_refused cX4_refused 2 (some .boolean), Cond.fieldLink RX4 81 "CastdeskModel" "thrown" "I"]
def wsX4_blow : List Cond := .code yX4_blow cX4_blow 6 (some .int) :: ((wsX4_blow_r1 ++ wsX4_blow_r2) ++ wsX40)
def wsX4_isEntry : List Cond := .code yX4_isEntry cX4_isEntry 2 (some .boolean) :: ([.fieldLink RX4 112 "CastdeskModel" "entries" "I", .methodLink RX4 84 yX4_in, .static yX4_in, .initialized RX4, .code yX4_in cX4_in 3 (some .boolean)] ++ wsX40)
def wsX4_isFixed : List Cond := .code yX4_isFixed cX4_isFixed 2 (some .boolean) :: ([.fieldLink RX4 71 "CastdeskModel" "isStruck" "[Z", .fieldLink RX4 20 "CastdeskModel" "state" "[I", .fieldLink RX4 59 "CastdeskModel" "of" "[I"] ++ wsX40)
def wsX4_strike : List Cond := .code yX4_strike cX4_strike 3 (some .int) :: ([.fieldLink RX4 71 "CastdeskModel" "isStruck" "[Z", .fieldLink RX4 65 "CastdeskModel" "points" "[I", .methodLink RX4 144 yX4_isEntry, .instanceMethod yX4_isEntry, .selects RX4 yX4_isEntry yX4_isEntry, .initialized RX4, .code yX4_isEntry cX4_isEntry 2 (some .boolean), .fieldLink RX4 112 "CastdeskModel" "entries" "I", .methodLink RX4 84 yX4_in, .static yX4_in, .code yX4_in cX4_in 3 (some .boolean), .methodLink RX4 147 yX4_isFixed, .instanceMethod yX4_isFixed, .selects RX4 yX4_isFixed yX4_isFixed, .code yX4_isFixed cX4_isFixed 2 (some .boolean), .fieldLink RX4 20 "CastdeskModel" "state" "[I", .fieldLink RX4 59 "CastdeskModel" "of" "[I", .methodLink RX4 95 yX4_refused, .instanceMethod yX4_refused, .selects RX4 yX4_refused yX4_refused, .code yX4_refused cX4_refused 2 (some .boolean), .fieldLink RX4 81 "CastdeskModel" "thrown" "I"] ++ wsX40)
def wsX4_mend : List Cond := .code yX4_mend cX4_mend 5 (some .int) :: ([.fieldLink RX4 65 "CastdeskModel" "points" "[I", .methodLink RX4 144 yX4_isEntry, .instanceMethod yX4_isEntry, .selects RX4 yX4_isEntry yX4_isEntry, .initialized RX4, .code yX4_isEntry cX4_isEntry 2 (some .boolean), .fieldLink RX4 112 "CastdeskModel" "entries" "I", .methodLink RX4 84 yX4_in, .static yX4_in, .code yX4_in cX4_in 3 (some .boolean), .methodLink RX4 147 yX4_isFixed, .instanceMethod yX4_isFixed, .selects RX4 yX4_isFixed yX4_isFixed, .code yX4_isFixed cX4_isFixed 2 (some .boolean), .fieldLink RX4 71 "CastdeskModel" "isStruck" "[Z", .fieldLink RX4 20 "CastdeskModel" "state" "[I", .fieldLink RX4 59 "CastdeskModel" "of" "[I", .methodLink RX4 95 yX4_refused, .instanceMethod yX4_refused, .selects RX4 yX4_refused yX4_refused, .code yX4_refused cX4_refused 2 (some .boolean), .fieldLink RX4 81 "CastdeskModel" "thrown" "I"] ++ wsX40)
def wsX4_promise : List Cond := .code yX4_promise cX4_promise 4 (some .int) :: ([.fieldLink RX4 75 "CastdeskModel" "promises" "[I", .methodLink RX4 150 yX4_isSponsor, .static yX4_isSponsor, .initialized RX4, .code yX4_isSponsor cX4_isSponsor 1 (some .boolean), .methodLink RX4 84 yX4_in, .static yX4_in, .code yX4_in cX4_in 3 (some .boolean), .methodLink RX4 95 yX4_refused, .instanceMethod yX4_refused, .selects RX4 yX4_refused yX4_refused, .code yX4_refused cX4_refused 2 (some .boolean), .fieldLink RX4 81 "CastdeskModel" "thrown" "I"] ++ wsX40)
def wsX4_slot : List Cond := .code yX4_slot cX4_slot 4 (some .int) :: ([.fieldLink RX4 153 "CastdeskModel" "slots" "I", .fieldLink RX4 78 "CastdeskModel" "hasSlot" "[Z", .methodLink RX4 150 yX4_isSponsor, .static yX4_isSponsor, .initialized RX4, .code yX4_isSponsor cX4_isSponsor 1 (some .boolean), .methodLink RX4 84 yX4_in, .static yX4_in, .code yX4_in cX4_in 3 (some .boolean), .methodLink RX4 91 yX4_isPlayer, .static yX4_isPlayer, .code yX4_isPlayer cX4_isPlayer 1 (some .boolean), .methodLink RX4 95 yX4_refused, .instanceMethod yX4_refused, .selects RX4 yX4_refused yX4_refused, .code yX4_refused cX4_refused 2 (some .boolean), .fieldLink RX4 81 "CastdeskModel" "thrown" "I"] ++ wsX40)
def wsX4_frame : List Cond := .code yX4_frame cX4_frame 1 (some .int) :: ([.fieldLink RX4 81 "CastdeskModel" "thrown" "I", .fieldLink RX4 115 "CastdeskModel" "now" "I"] ++ wsX40)
def wsX4_shown : List Cond := .code yX4_shown cX4_shown 3 (some .int) :: ([.fieldLink RX4 115 "CastdeskModel" "now" "I", .fieldLink RX4 50 "CastdeskModel" "fightIn" "[I", .fieldLink RX4 53 "CastdeskModel" "cameraIn" "[I", .fieldLink RX4 56 "CastdeskModel" "sponsorIn" "[I", .methodLink RX4 84 yX4_in, .static yX4_in, .initialized RX4, .code yX4_in cX4_in 3 (some .boolean), .methodLink RX4 95 yX4_refused, .instanceMethod yX4_refused, .selects RX4 yX4_refused yX4_refused, .code yX4_refused cX4_refused 2 (some .boolean), .fieldLink RX4 81 "CastdeskModel" "thrown" "I"] ++ wsX40)
def wsX4_seen : List Cond := .code yX4_seen cX4_seen 1 (some .int) :: ([.fieldLink RX4 81 "CastdeskModel" "thrown" "I", .fieldLink RX4 13 "CastdeskModel" "seen" "I"] ++ wsX40)
def wsX4_points_r1 : List Cond := [Cond.methodLink RX4 105 yX4_isFight, Cond.instanceMethod yX4_isFight, Cond.selects RX4 yX4_isFight yX4_isFight, Cond.initialized RX4, Cond.code yX4_isFight cX4_isFight 2 (some .boolean), Cond.fieldLink RX4 88 "CastdeskModel" "fights" "I", Cond.methodLink RX4 84 yX4_in, Cond.static yX4_in, Cond.code yX4_in cX4_in 3 (some .boolean), Cond.methodLink RX4 91 yX4_isPlayer, Cond.static yX4_isPlayer, Cond.code yX4_isPlayer cX4_isPlayer 1 (some .boolean), Cond.methodLink RX4 95 yX4_refused, Cond.instanceMethod yX4_refused, Cond.selects RX4 yX4_refused yX4_refused, Cond.code yX4_refused cX4_refused 2 (some .boolean), Cond.fieldLink RX4 81 "CastdeskModel" "thrown" "I", Cond.methodLink RX4 108 yX4_pointsOf, Cond.instanceMethod yX4_pointsOf, Cond.selects RX4 yX4_pointsOf yX4_pointsOf, Cond.code yX4_pointsOf cX4_pointsOf 6 (some .int), Cond.fieldLink RX4 112 "CastdeskModel" "entries" "I", Cond.fieldLink RX4 59 "CastdeskModel" "of" "[I", Cond.fieldLink RX4 62 "CastdeskModel" "by" "[I"]
def wsX4_points_r2 : List Cond := [Cond.fieldLink RX4 71 "CastdeskModel" "isStruck" "[Z", Cond.fieldLink RX4 68 "CastdeskModel" "at" "[I", Cond.fieldLink RX4 65 "CastdeskModel" "points" "[I"]
def wsX4_points : List Cond := .code yX4_points cX4_points 3 (some .int) :: ((wsX4_points_r1 ++ wsX4_points_r2) ++ wsX40)
def wsX4_overlay_r1 : List Cond := [Cond.fieldLink RX4 13 "CastdeskModel" "seen" "I", Cond.methodLink RX4 105 yX4_isFight, Cond.instanceMethod yX4_isFight, Cond.selects RX4 yX4_isFight yX4_isFight, Cond.initialized RX4, Cond.code yX4_isFight cX4_isFight 2 (some .boolean), Cond.fieldLink RX4 88 "CastdeskModel" "fights" "I", Cond.methodLink RX4 84 yX4_in, Cond.static yX4_in, Cond.code yX4_in cX4_in 3 (some .boolean), Cond.methodLink RX4 91 yX4_isPlayer, Cond.static yX4_isPlayer, Cond.code yX4_isPlayer cX4_isPlayer 1 (some .boolean), Cond.methodLink RX4 95 yX4_refused, Cond.instanceMethod yX4_refused, Cond.selects RX4 yX4_refused yX4_refused, Cond.code yX4_refused cX4_refused 2 (some .boolean), Cond.fieldLink RX4 81 "CastdeskModel" "thrown" "I", Cond.methodLink RX4 108 yX4_pointsOf, Cond.instanceMethod yX4_pointsOf, Cond.selects RX4 yX4_pointsOf yX4_pointsOf, Cond.code yX4_pointsOf cX4_pointsOf 6 (some .int), Cond.fieldLink RX4 112 "CastdeskModel" "entries" "I", Cond.fieldLink RX4 59 "CastdeskModel" "of" "[I"]
def wsX4_overlay_r2 : List Cond := [Cond.fieldLink RX4 62 "CastdeskModel" "by" "[I", Cond.fieldLink RX4 71 "CastdeskModel" "isStruck" "[Z", Cond.fieldLink RX4 68 "CastdeskModel" "at" "[I", Cond.fieldLink RX4 65 "CastdeskModel" "points" "[I"]
def wsX4_overlay : List Cond := .code yX4_overlay cX4_overlay 3 (some .int) :: ((wsX4_overlay_r1 ++ wsX4_overlay_r2) ++ wsX40)
def wsX4_fightOf : List Cond := .code yX4_fightOf cX4_fightOf 5 (some .int) :: ([.fieldLink RX4 20 "CastdeskModel" "state" "[I", .fieldLink RX4 23 "CastdeskModel" "first" "[I", .fieldLink RX4 26 "CastdeskModel" "second" "[I", .fieldLink RX4 29 "CastdeskModel" "winner" "[I", .fieldLink RX4 115 "CastdeskModel" "now" "I", .fieldLink RX4 50 "CastdeskModel" "fightIn" "[I", .methodLink RX4 105 yX4_isFight, .instanceMethod yX4_isFight, .selects RX4 yX4_isFight yX4_isFight, .initialized RX4, .code yX4_isFight cX4_isFight 2 (some .boolean), .fieldLink RX4 88 "CastdeskModel" "fights" "I", .methodLink RX4 84 yX4_in, .static yX4_in, .code yX4_in cX4_in 3 (some .boolean), .methodLink RX4 95 yX4_refused, .instanceMethod yX4_refused, .selects RX4 yX4_refused yX4_refused, .code yX4_refused cX4_refused 2 (some .boolean), .fieldLink RX4 81 "CastdeskModel" "thrown" "I"] ++ wsX40)
def wsX4_cameraOf : List Cond := .code yX4_cameraOf cX4_cameraOf 3 (some .int) :: ([.fieldLink RX4 118 "CastdeskModel" "cameras" "I", .fieldLink RX4 38 "CastdeskModel" "inRow" "[I", .fieldLink RX4 41 "CastdeskModel" "off" "[I", .methodLink RX4 84 yX4_in, .static yX4_in, .initialized RX4, .code yX4_in cX4_in 3 (some .boolean), .methodLink RX4 95 yX4_refused, .instanceMethod yX4_refused, .selects RX4 yX4_refused yX4_refused, .code yX4_refused cX4_refused 2 (some .boolean), .fieldLink RX4 81 "CastdeskModel" "thrown" "I"] ++ wsX40)
def wsX4_counted : List Cond := .code yX4_counted cX4_counted 2 (some .int) :: ([.methodLink RX4 150 yX4_isSponsor, .static yX4_isSponsor, .initialized RX4, .code yX4_isSponsor cX4_isSponsor 1 (some .boolean), .methodLink RX4 84 yX4_in, .static yX4_in, .code yX4_in cX4_in 3 (some .boolean), .methodLink RX4 95 yX4_refused, .instanceMethod yX4_refused, .selects RX4 yX4_refused yX4_refused, .code yX4_refused cX4_refused 2 (some .boolean), .fieldLink RX4 81 "CastdeskModel" "thrown" "I", .methodLink RX4 156 yX4_countedFor, .instanceMethod yX4_countedFor, .selects RX4 yX4_countedFor yX4_countedFor, .code yX4_countedFor cX4_countedFor 4 (some .int), .fieldLink RX4 115 "CastdeskModel" "now" "I", .fieldLink RX4 56 "CastdeskModel" "sponsorIn" "[I"] ++ wsX40)
def wsX4_countedAnew : List Cond := .code yX4_countedAnew cX4_countedAnew 2 (some .int) :: ([.methodLink RX4 159 yX4_counted, .instanceMethod yX4_counted, .selects RX4 yX4_counted yX4_counted, .initialized RX4, .code yX4_counted cX4_counted 2 (some .int), .methodLink RX4 150 yX4_isSponsor, .static yX4_isSponsor, .code yX4_isSponsor cX4_isSponsor 1 (some .boolean), .methodLink RX4 84 yX4_in, .static yX4_in, .code yX4_in cX4_in 3 (some .boolean), .methodLink RX4 95 yX4_refused, .instanceMethod yX4_refused, .selects RX4 yX4_refused yX4_refused, .code yX4_refused cX4_refused 2 (some .boolean), .fieldLink RX4 81 "CastdeskModel" "thrown" "I", .methodLink RX4 156 yX4_countedFor, .instanceMethod yX4_countedFor, .selects RX4 yX4_countedFor yX4_countedFor, .code yX4_countedFor cX4_countedFor 4 (some .int), .fieldLink RX4 115 "CastdeskModel" "now" "I", .fieldLink RX4 56 "CastdeskModel" "sponsorIn" "[I"] ++ wsX40)
def wsX4_owed : List Cond := .code yX4_owed cX4_owed 2 (some .int) :: ([.methodLink RX4 150 yX4_isSponsor, .static yX4_isSponsor, .initialized RX4, .code yX4_isSponsor cX4_isSponsor 1 (some .boolean), .methodLink RX4 84 yX4_in, .static yX4_in, .code yX4_in cX4_in 3 (some .boolean), .methodLink RX4 95 yX4_refused, .instanceMethod yX4_refused, .selects RX4 yX4_refused yX4_refused, .code yX4_refused cX4_refused 2 (some .boolean), .fieldLink RX4 81 "CastdeskModel" "thrown" "I", .methodLink RX4 128 yX4_owedTo, .instanceMethod yX4_owedTo, .selects RX4 yX4_owedTo yX4_owedTo, .code yX4_owedTo cX4_owedTo 3 (some .int), .fieldLink RX4 75 "CastdeskModel" "promises" "[I", .methodLink RX4 156 yX4_countedFor, .instanceMethod yX4_countedFor, .selects RX4 yX4_countedFor yX4_countedFor, .code yX4_countedFor cX4_countedFor 4 (some .int), .fieldLink RX4 115 "CastdeskModel" "now" "I", .fieldLink RX4 56 "CastdeskModel" "sponsorIn" "[I"] ++ wsX40)
def wsX4_wins : List Cond := .code yX4_wins cX4_wins 4 (some .int) :: ([.fieldLink RX4 88 "CastdeskModel" "fights" "I", .fieldLink RX4 20 "CastdeskModel" "state" "[I", .fieldLink RX4 29 "CastdeskModel" "winner" "[I"] ++ wsX40)
def wsX4_leader : List Cond := .code yX4_leader cX4_leader 6 (some .int) :: ([.methodLink RX4 91 yX4_isPlayer, .static yX4_isPlayer, .initialized RX4, .code yX4_isPlayer cX4_isPlayer 1 (some .boolean), .methodLink RX4 84 yX4_in, .static yX4_in, .code yX4_in cX4_in 3 (some .boolean), .methodLink RX4 95 yX4_refused, .instanceMethod yX4_refused, .selects RX4 yX4_refused yX4_refused, .code yX4_refused cX4_refused 2 (some .boolean), .fieldLink RX4 81 "CastdeskModel" "thrown" "I", .methodLink RX4 162 yX4_wins, .instanceMethod yX4_wins, .selects RX4 yX4_wins yX4_wins, .code yX4_wins cX4_wins 4 (some .int), .fieldLink RX4 88 "CastdeskModel" "fights" "I", .fieldLink RX4 20 "CastdeskModel" "state" "[I", .fieldLink RX4 29 "CastdeskModel" "winner" "[I"] ++ wsX40)
def wsJ9_max_7cf53 : List Cond := .code yJ9_max_7cf53 cJ9_max_7cf53 2 (some .int) :: ([])
def wsJ9_min_7cf53 : List Cond := .code yJ9_min_7cf53 cJ9_min_7cf53 2 (some .int) :: ([])
def wsL_rank : List Cond := .codeWith yL_rank cL_rank 5 (some .int) [(0, 10, 13, 13), (0, 10, 17, 15)] :: ([.classLink RL 13 "java/lang/IndexOutOfBoundsException", .classLink RL 15 "java/lang/IllegalArgumentException", .methodLink RL 7 yX3_rank, .instanceMethod yX3_rank, .selects RX3 yX3_rank yX3_rank, .initialized RX3, .code yX3_rank cX3_rank 4 (some .int), .fieldLink RX3 9 "Castdesk" "ranks" "[I", .methodLink RX3 54 yX3_checkPlayer, .static yX3_checkPlayer, .code yX3_checkPlayer cX3_checkPlayer 1 none, .classLink RX3 180 "java/lang/IndexOutOfBoundsException", .initialized "java/lang/IndexOutOfBoundsException", .methodLink RX3 58 yX3_checkRange, .static yX3_checkRange, .code yX3_checkRange cX3_checkRange 3 none, .classLink RX3 62 "java/lang/IllegalArgumentException", .initialized "java/lang/IllegalArgumentException"] ++ wsX30 ++ (vx_atS RX3 184 "java/lang/IndexOutOfBoundsException" ["java/lang/RuntimeException", "java/lang/Exception"]).filter goodWord ++ (vx_atS RX3 66 "java/lang/IllegalArgumentException" ["java/lang/RuntimeException", "java/lang/Exception"]).filter goodWord)
def wsL_fight_r1 : List Cond := [Cond.classLink RL 13 "java/lang/IndexOutOfBoundsException", Cond.classLink RL 15 "java/lang/IllegalArgumentException", Cond.classLink RL 20 "java/lang/IllegalStateException", Cond.methodLink RL 17 yX3_fight, Cond.instanceMethod yX3_fight, Cond.selects RX3 yX3_fight yX3_fight, Cond.initialized RX3, Cond.code yX3_fight cX3_fight 3 (some .int), Cond.classLink RX3 62 "java/lang/IllegalArgumentException", Cond.initialized "java/lang/IllegalArgumentException", Cond.methodLink RX3 54 yX3_checkPlayer, Cond.static yX3_checkPlayer, Cond.code yX3_checkPlayer cX3_checkPlayer 1 none, Cond.classLink RX3 180 "java/lang/IndexOutOfBoundsException", Cond.initialized "java/lang/IndexOutOfBoundsException", Cond.methodLink RX3 69 yX3_checkCanBegin, Cond.instanceMethod yX3_checkCanBegin, Cond.selects RX3 yX3_checkCanBegin yX3_checkCanBegin, Cond.code yX3_checkCanBegin cX3_checkCanBegin 5 none, Cond.classLink RX3 106 "java/lang/IllegalStateException", Cond.initialized "java/lang/IllegalStateException", Cond.fieldLink RX3 19 "Castdesk" "fights" "Ljava/util/ArrayList;", Cond.classLink RX3 89 "Castdesk$Fight", Cond.fieldLink RX3 100 "Castdesk$Fight" "state" "I"]
def wsL_fight_r2 : List Cond := [Cond.methodLink RX3 117 yJx4a65c_size_8abf5, Cond.instanceMethod yJx4a65c_size_8abf5, Cond.selects RJx4a65c yJx4a65c_size_8abf5 yJx4a65c_size_8abf5, Cond.initialized RJx4a65c, Cond.code yJx4a65c_size_8abf5 cJx4a65c_size_8abf5 1 (some .int), Cond.fieldLink RJx4a65c 48 "java/util/ArrayList" "size" "I", Cond.methodLink RX3 194 yJx4a65c_get_915e3, Cond.instanceMethod yJx4a65c_get_915e3, Cond.selects RJx4a65c yJx4a65c_get_915e3 yJx4a65c_get_915e3, Cond.code yJx4a65c_get_915e3 cJx4a65c_get_915e3 2 (some (.object "java/lang/Object")), Cond.methodLink RJx4a65c 118 yJ15_checkIndex_7cf53, Cond.static yJ15_checkIndex_7cf53, Cond.initialized RJ15, Cond.code yJ15_checkIndex_7cf53 cJ15_checkIndex_7cf53 2 (some .int), Cond.methodLink RJ15 105 yJ3_checkIndex_8e157, Cond.static yJ3_checkIndex_8e157, Cond.initialized RJ3, Cond.code yJ3_checkIndex_8e157 cJ3_checkIndex_8e157 3 (some .int), Cond.methodLink RJx4a65c 123 yJx4a65c_elementData_915e3, Cond.instanceMethod yJx4a65c_elementData_915e3, Cond.selects RJx4a65c yJx4a65c_elementData_915e3 yJx4a65c_elementData_915e3, Cond.code yJx4a65c_elementData_915e3 cJx4a65c_elementData_915e3 2 (some (.object "java/lang/Object")), Cond.fieldLink RJx4a65c 9 "java/util/ArrayList" "elementData" "[Ljava/lang/Object;", Cond.methodLink RX3 139 yX2_isOf]
def wsL_fight_r3 : List Cond := [Cond.instanceMethod yX2_isOf, Cond.selects RX2 yX2_isOf yX2_isOf, Cond.initialized RX2, Cond.code yX2_isOf cX2_isOf 2 (some .boolean), Cond.fieldLink RX2 15 "Castdesk$Fight" "first" "I", Cond.fieldLink RX2 18 "Castdesk$Fight" "second" "I", Cond.methodLink RX3 73 yX3_begin, Cond.instanceMethod yX3_begin, Cond.selects RX3 yX3_begin yX3_begin, Cond.code yX3_begin cX3_begin 4 (some .int), Cond.classLink RX3 89 RX2, Cond.instantiable RX2 7, Cond.methodLink RX3 237 yX2_init, Cond.instanceMethod yX2_init, Cond.code yX2_init cX2_init 4 none, Cond.methodLink RX2 3 objectInit, Cond.instanceMethod objectInit, Cond.code objectInit ⟨#[0xb1]⟩ 1 none, Cond.fieldLink RX2 9 "Castdesk$Fight" "number" "I", Cond.fieldLink RX2 21 "Castdesk$Fight" "state" "I", Cond.fieldLink RX2 24 "Castdesk$Fight" "winner" "I", Cond.methodLink RX3 127 yJx4a65c_add_9ea2d, Cond.instanceMethod yJx4a65c_add_9ea2d, Cond.selects RJx4a65c yJx4a65c_add_9ea2d yJx4a65c_add_9ea2d]
def wsL_fight_r4 : List Cond := [Cond.code yJx4a65c_add_9ea2d cJx4a65c_add_9ea2d 2 (some .boolean), Cond.fieldLink RJx4a65c 63 "java/util/ArrayList" "modCount" "I", Cond.sameField "java/util/ArrayList" "java/util/AbstractList" "modCount" "I", Cond.methodLink RJx4a65c 131 yJx4a65c_add_72be8, Cond.instanceMethod yJx4a65c_add_72be8, Cond.selects RJx4a65c yJx4a65c_add_72be8 yJx4a65c_add_72be8, Cond.code yJx4a65c_add_72be8 cJx4a65c_add_72be8 4 none, Cond.methodLink RJx4a65c 129 yJx4a65c_grow_d5877, Cond.instanceMethod yJx4a65c_grow_d5877, Cond.selects RJx4a65c yJx4a65c_grow_d5877 yJx4a65c_grow_d5877, Cond.code yJx4a65c_grow_d5877 cJx4a65c_grow_d5877 1 (some (.array (.object "java/lang/Object"))), Cond.methodLink RJx4a65c 69 yJx4a65c_grow_92f84, Cond.instanceMethod yJx4a65c_grow_92f84, Cond.selects RJx4a65c yJx4a65c_grow_92f84 yJx4a65c_grow_92f84, Cond.code yJx4a65c_grow_92f84 cJx4a65c_grow_92f84 4 (some (.array (.object "java/lang/Object"))), Cond.fieldLink RJx4a65c 39 "java/util/ArrayList" "DEFAULTCAPACITY_EMPTY_ELEMENTDATA" "[Ljava/lang/Object;", Cond.methodLink RJx4a65c 79 Lib.Math.max.name, Cond.static Lib.Math.max.name, Cond.initialized "java/lang/Math", Cond.code Lib.Math.max.name Lib.Math.max.code 2 (some .int), Cond.classLink RJx4a65c 7 "java/lang/Object", Cond.methodLink RJx4a65c 73 yJ8_newLength_cabcc, Cond.static yJ8_newLength_cabcc, Cond.initialized RJ8]
def wsL_fight_r5 : List Cond := [Cond.code yJ8_newLength_cabcc cJ8_newLength_cabcc 4 (some .int), Cond.methodLink RJ8 194 Lib.Math.max.name, Cond.constant RJ8 200 (2147483639), Cond.methodLink RJ8 201 yJ8_hugeLength_7cf53, Cond.static yJ8_hugeLength_7cf53, Cond.code yJ8_hugeLength_7cf53 cJ8_hugeLength_7cf53 3 (some .int), Cond.methodLink RJx4a65c 66 yJ7_copyOf_1904c, Cond.static yJ7_copyOf_1904c, Cond.initialized RJ7, Cond.code yJ7_copyOf_1904c cJ7_copyOf_1904c 2 (some (.array (.object "java/lang/Object"))), Cond.methodLink RJ7 86 ⟨"java/lang/Object", "getClass", "()Ljava/lang/Class;"⟩, Cond.selects "[Ljava/lang/Object;" ⟨"java/lang/Object", "getClass", "()Ljava/lang/Class;"⟩ ⟨"java/lang/Object", "getClass", "()Ljava/lang/Class;"⟩, Cond.instanceMethod ⟨"java/lang/Object", "getClass", "()Ljava/lang/Class;"⟩, Cond.native ⟨"java/lang/Object", "getClass", "()Ljava/lang/Class;"⟩, Cond.methodLink RJ7 300 yJ7_copyOf_6403c, Cond.static yJ7_copyOf_6403c, Cond.code yJ7_copyOf_6403c cJ7_copyOf_6403c 4 (some (.array (.object "java/lang/Object"))), Cond.classLink RJ7 110 "[Ljava/lang/Object;", Cond.classLink RJ7 2 "java/lang/Object", Cond.methodLink RJ7 304 Lib.Math.min.name, Cond.static Lib.Math.min.name, Cond.code Lib.Math.min.name Lib.Math.min.code 2 (some .int), Cond.methodLink RJ7 150 arraycopyName, Cond.native arraycopyName]
def wsL_fight_r6 : List Cond := [Cond.static arraycopyName, Cond.initialized "java/lang/System"]
def wsL_fight : List Cond := .codeWith yL_fight cL_fight 5 (some .int) [(0, 10, 13, 13), (0, 10, 17, 15), (0, 10, 21, 20)] :: ((wsL_fight_r1 ++ (wsL_fight_r2 ++ (wsL_fight_r3 ++ (wsL_fight_r4 ++ (wsL_fight_r5 ++ wsL_fight_r6))))) ++ wsX30 ++ wsX20 ++ wsJx4a65c0 ++ (vx_atS RX3 66 "java/lang/IllegalArgumentException" ["java/lang/RuntimeException", "java/lang/Exception"]).filter goodWord ++ (vx_atS RX3 184 "java/lang/IndexOutOfBoundsException" ["java/lang/RuntimeException", "java/lang/Exception"]).filter goodWord ++ (vx_atS RX3 110 "java/lang/IllegalStateException" ["java/lang/RuntimeException", "java/lang/Exception"]).filter goodWord)
def wsL_end_r1 : List Cond := [Cond.classLink RL 13 "java/lang/IndexOutOfBoundsException", Cond.classLink RL 20 "java/lang/IllegalStateException", Cond.methodLink RL 22 yX3_end, Cond.instanceMethod yX3_end, Cond.selects RX3 yX3_end yX3_end, Cond.initialized RX3, Cond.code yX3_end cX3_end 5 (some .int), Cond.fieldLink RX3 85 "Castdesk" "now" "I", Cond.fieldLink RX3 88 "Castdesk$Fight" "first" "I", Cond.fieldLink RX3 97 "Castdesk$Fight" "second" "I", Cond.fieldLink RX3 100 "Castdesk$Fight" "state" "I", Cond.fieldLink RX3 103 "Castdesk$Fight" "winner" "I", Cond.fieldLink RX3 13 "Castdesk" "wins" "[I", Cond.methodLink RX3 77 yX3_fightNumbered, Cond.instanceMethod yX3_fightNumbered, Cond.selects RX3 yX3_fightNumbered yX3_fightNumbered, Cond.code yX3_fightNumbered cX3_fightNumbered 2 (some (.object "Castdesk$Fight")), Cond.classLink RX3 180 "java/lang/IndexOutOfBoundsException", Cond.initialized "java/lang/IndexOutOfBoundsException", Cond.fieldLink RX3 19 "Castdesk" "fights" "Ljava/util/ArrayList;", Cond.classLink RX3 89 "Castdesk$Fight", Cond.methodLink RX3 117 yJx4a65c_size_8abf5, Cond.instanceMethod yJx4a65c_size_8abf5, Cond.selects RJx4a65c yJx4a65c_size_8abf5 yJx4a65c_size_8abf5]
def wsL_end_r2 : List Cond := [Cond.initialized RJx4a65c, Cond.code yJx4a65c_size_8abf5 cJx4a65c_size_8abf5 1 (some .int), Cond.fieldLink RJx4a65c 48 "java/util/ArrayList" "size" "I", Cond.methodLink RX3 194 yJx4a65c_get_915e3, Cond.instanceMethod yJx4a65c_get_915e3, Cond.selects RJx4a65c yJx4a65c_get_915e3 yJx4a65c_get_915e3, Cond.code yJx4a65c_get_915e3 cJx4a65c_get_915e3 2 (some (.object "java/lang/Object")), Cond.methodLink RJx4a65c 118 yJ15_checkIndex_7cf53, Cond.static yJ15_checkIndex_7cf53, Cond.initialized RJ15, Cond.code yJ15_checkIndex_7cf53 cJ15_checkIndex_7cf53 2 (some .int), Cond.methodLink RJ15 105 yJ3_checkIndex_8e157, Cond.static yJ3_checkIndex_8e157, Cond.initialized RJ3, Cond.code yJ3_checkIndex_8e157 cJ3_checkIndex_8e157 3 (some .int), Cond.methodLink RJx4a65c 123 yJx4a65c_elementData_915e3, Cond.instanceMethod yJx4a65c_elementData_915e3, Cond.selects RJx4a65c yJx4a65c_elementData_915e3 yJx4a65c_elementData_915e3, Cond.code yJx4a65c_elementData_915e3 cJx4a65c_elementData_915e3 2 (some (.object "java/lang/Object")), Cond.fieldLink RJx4a65c 9 "java/util/ArrayList" "elementData" "[Ljava/lang/Object;", Cond.methodLink RX3 81 yX3_checkGoesOn, Cond.static yX3_checkGoesOn, Cond.code yX3_checkGoesOn cX3_checkGoesOn 1 none, Cond.classLink RX3 106 "java/lang/IllegalStateException"]
def wsL_end_r3 : List Cond := [Cond.initialized "java/lang/IllegalStateException", Cond.methodLink RX3 93 yX3_pointsUpTo, Cond.instanceMethod yX3_pointsUpTo, Cond.selects RX3 yX3_pointsUpTo yX3_pointsUpTo, Cond.code yX3_pointsUpTo cX3_pointsUpTo 7 (some .int), Cond.fieldLink RX3 26 "Castdesk" "entries" "Ljava/util/ArrayList;", Cond.classLink RX3 150 "Castdesk$Entry", Cond.fieldLink RX3 239 "Castdesk$Entry" "fight" "LCastdesk$Fight;", Cond.fieldLink RX3 243 "Castdesk$Entry" "player" "I", Cond.fieldLink RX3 246 "Castdesk$Entry" "frame" "I", Cond.fieldLink RX3 163 "Castdesk$Entry" "struck" "Z", Cond.fieldLink RX3 167 "Castdesk$Entry" "points" "I"]
def wsL_end : List Cond := .codeWith yL_end cL_end 4 (some .int) [(0, 9, 12, 13), (0, 9, 15, 20)] :: ((wsL_end_r1 ++ (wsL_end_r2 ++ wsL_end_r3)) ++ wsX30 ++ wsX20 ++ wsJx4a65c0 ++ wsX10 ++ (vx_atS RX3 184 "java/lang/IndexOutOfBoundsException" ["java/lang/RuntimeException", "java/lang/Exception"]).filter goodWord ++ (vx_atS RX3 110 "java/lang/IllegalStateException" ["java/lang/RuntimeException", "java/lang/Exception"]).filter goodWord)
def wsL_replay_r1 : List Cond := [Cond.classLink RL 13 "java/lang/IndexOutOfBoundsException", Cond.classLink RL 20 "java/lang/IllegalStateException", Cond.methodLink RL 26 yX3_replay, Cond.instanceMethod yX3_replay, Cond.selects RX3 yX3_replay yX3_replay, Cond.initialized RX3, Cond.code yX3_replay cX3_replay 3 (some .int), Cond.classLink RX3 106 "java/lang/IllegalStateException", Cond.initialized "java/lang/IllegalStateException", Cond.fieldLink RX3 100 "Castdesk$Fight" "state" "I", Cond.fieldLink RX3 88 "Castdesk$Fight" "first" "I", Cond.fieldLink RX3 97 "Castdesk$Fight" "second" "I", Cond.fieldLink RX3 103 "Castdesk$Fight" "winner" "I", Cond.fieldLink RX3 13 "Castdesk" "wins" "[I", Cond.methodLink RX3 77 yX3_fightNumbered, Cond.instanceMethod yX3_fightNumbered, Cond.selects RX3 yX3_fightNumbered yX3_fightNumbered, Cond.code yX3_fightNumbered cX3_fightNumbered 2 (some (.object "Castdesk$Fight")), Cond.classLink RX3 180 "java/lang/IndexOutOfBoundsException", Cond.initialized "java/lang/IndexOutOfBoundsException", Cond.fieldLink RX3 19 "Castdesk" "fights" "Ljava/util/ArrayList;", Cond.classLink RX3 89 "Castdesk$Fight", Cond.methodLink RX3 117 yJx4a65c_size_8abf5, Cond.instanceMethod yJx4a65c_size_8abf5]
def wsL_replay_r2 : List Cond := [Cond.selects RJx4a65c yJx4a65c_size_8abf5 yJx4a65c_size_8abf5, Cond.initialized RJx4a65c, Cond.code yJx4a65c_size_8abf5 cJx4a65c_size_8abf5 1 (some .int), Cond.fieldLink RJx4a65c 48 "java/util/ArrayList" "size" "I", Cond.methodLink RX3 194 yJx4a65c_get_915e3, Cond.instanceMethod yJx4a65c_get_915e3, Cond.selects RJx4a65c yJx4a65c_get_915e3 yJx4a65c_get_915e3, Cond.code yJx4a65c_get_915e3 cJx4a65c_get_915e3 2 (some (.object "java/lang/Object")), Cond.methodLink RJx4a65c 118 yJ15_checkIndex_7cf53, Cond.static yJ15_checkIndex_7cf53, Cond.initialized RJ15, Cond.code yJ15_checkIndex_7cf53 cJ15_checkIndex_7cf53 2 (some .int), Cond.methodLink RJ15 105 yJ3_checkIndex_8e157, Cond.static yJ3_checkIndex_8e157, Cond.initialized RJ3, Cond.code yJ3_checkIndex_8e157 cJ3_checkIndex_8e157 3 (some .int), Cond.methodLink RJx4a65c 123 yJx4a65c_elementData_915e3, Cond.instanceMethod yJx4a65c_elementData_915e3, Cond.selects RJx4a65c yJx4a65c_elementData_915e3 yJx4a65c_elementData_915e3, Cond.code yJx4a65c_elementData_915e3 cJx4a65c_elementData_915e3 2 (some (.object "java/lang/Object")), Cond.fieldLink RJx4a65c 9 "java/util/ArrayList" "elementData" "[Ljava/lang/Object;", Cond.methodLink RX3 69 yX3_checkCanBegin, Cond.instanceMethod yX3_checkCanBegin, Cond.selects RX3 yX3_checkCanBegin yX3_checkCanBegin]
def wsL_replay_r3 : List Cond := [Cond.code yX3_checkCanBegin cX3_checkCanBegin 5 none, Cond.methodLink RX3 139 yX2_isOf, Cond.instanceMethod yX2_isOf, Cond.selects RX2 yX2_isOf yX2_isOf, Cond.initialized RX2, Cond.code yX2_isOf cX2_isOf 2 (some .boolean), Cond.fieldLink RX2 15 "Castdesk$Fight" "first" "I", Cond.fieldLink RX2 18 "Castdesk$Fight" "second" "I", Cond.methodLink RX3 111 yX3_strikeAllOf, Cond.instanceMethod yX3_strikeAllOf, Cond.selects RX3 yX3_strikeAllOf yX3_strikeAllOf, Cond.code yX3_strikeAllOf cX3_strikeAllOf 4 none, Cond.fieldLink RX3 26 "Castdesk" "entries" "Ljava/util/ArrayList;", Cond.classLink RX3 150 "Castdesk$Entry", Cond.fieldLink RX3 239 "Castdesk$Entry" "fight" "LCastdesk$Fight;", Cond.fieldLink RX3 163 "Castdesk$Entry" "struck" "Z", Cond.methodLink RX3 114 yX3_uncountFramesOf, Cond.instanceMethod yX3_uncountFramesOf, Cond.selects RX3 yX3_uncountFramesOf yX3_uncountFramesOf, Cond.code yX3_uncountFramesOf cX3_uncountFramesOf 4 none, Cond.fieldLink RX3 85 "Castdesk" "now" "I", Cond.fieldLink RX3 51 "Castdesk" "shownSponsor" "[I", Cond.fieldLink RX3 45 "Castdesk" "shownFight" "[I", Cond.fieldLink RX3 249 "Castdesk$Fight" "number" "I"]
def wsL_replay_r4 : List Cond := [Cond.fieldLink RX3 32 "Castdesk" "countedFrames" "[I", Cond.methodLink RX3 73 yX3_begin, Cond.instanceMethod yX3_begin, Cond.selects RX3 yX3_begin yX3_begin, Cond.code yX3_begin cX3_begin 4 (some .int), Cond.classLink RX3 89 RX2, Cond.instantiable RX2 7, Cond.methodLink RX3 237 yX2_init, Cond.instanceMethod yX2_init, Cond.code yX2_init cX2_init 4 none, Cond.methodLink RX2 3 objectInit, Cond.instanceMethod objectInit, Cond.code objectInit ⟨#[0xb1]⟩ 1 none, Cond.fieldLink RX2 9 "Castdesk$Fight" "number" "I", Cond.fieldLink RX2 21 "Castdesk$Fight" "state" "I", Cond.fieldLink RX2 24 "Castdesk$Fight" "winner" "I", Cond.methodLink RX3 127 yJx4a65c_add_9ea2d, Cond.instanceMethod yJx4a65c_add_9ea2d, Cond.selects RJx4a65c yJx4a65c_add_9ea2d yJx4a65c_add_9ea2d, Cond.code yJx4a65c_add_9ea2d cJx4a65c_add_9ea2d 2 (some .boolean), Cond.fieldLink RJx4a65c 63 "java/util/ArrayList" "modCount" "I", Cond.sameField "java/util/ArrayList" "java/util/AbstractList" "modCount" "I", Cond.methodLink RJx4a65c 131 yJx4a65c_add_72be8, Cond.instanceMethod yJx4a65c_add_72be8]
def wsL_replay_r5 : List Cond := [Cond.selects RJx4a65c yJx4a65c_add_72be8 yJx4a65c_add_72be8, Cond.code yJx4a65c_add_72be8 cJx4a65c_add_72be8 4 none, Cond.methodLink RJx4a65c 129 yJx4a65c_grow_d5877, Cond.instanceMethod yJx4a65c_grow_d5877, Cond.selects RJx4a65c yJx4a65c_grow_d5877 yJx4a65c_grow_d5877, Cond.code yJx4a65c_grow_d5877 cJx4a65c_grow_d5877 1 (some (.array (.object "java/lang/Object"))), Cond.methodLink RJx4a65c 69 yJx4a65c_grow_92f84, Cond.instanceMethod yJx4a65c_grow_92f84, Cond.selects RJx4a65c yJx4a65c_grow_92f84 yJx4a65c_grow_92f84, Cond.code yJx4a65c_grow_92f84 cJx4a65c_grow_92f84 4 (some (.array (.object "java/lang/Object"))), Cond.fieldLink RJx4a65c 39 "java/util/ArrayList" "DEFAULTCAPACITY_EMPTY_ELEMENTDATA" "[Ljava/lang/Object;", Cond.methodLink RJx4a65c 79 Lib.Math.max.name, Cond.static Lib.Math.max.name, Cond.initialized "java/lang/Math", Cond.code Lib.Math.max.name Lib.Math.max.code 2 (some .int), Cond.classLink RJx4a65c 7 "java/lang/Object", Cond.methodLink RJx4a65c 73 yJ8_newLength_cabcc, Cond.static yJ8_newLength_cabcc, Cond.initialized RJ8, Cond.code yJ8_newLength_cabcc cJ8_newLength_cabcc 4 (some .int), Cond.methodLink RJ8 194 Lib.Math.max.name, Cond.constant RJ8 200 (2147483639), Cond.methodLink RJ8 201 yJ8_hugeLength_7cf53, Cond.static yJ8_hugeLength_7cf53]
def wsL_replay_r6 : List Cond := [Cond.code yJ8_hugeLength_7cf53 cJ8_hugeLength_7cf53 3 (some .int), Cond.methodLink RJx4a65c 66 yJ7_copyOf_1904c, Cond.static yJ7_copyOf_1904c, Cond.initialized RJ7, Cond.code yJ7_copyOf_1904c cJ7_copyOf_1904c 2 (some (.array (.object "java/lang/Object"))), Cond.methodLink RJ7 86 ⟨"java/lang/Object", "getClass", "()Ljava/lang/Class;"⟩, Cond.selects "[Ljava/lang/Object;" ⟨"java/lang/Object", "getClass", "()Ljava/lang/Class;"⟩ ⟨"java/lang/Object", "getClass", "()Ljava/lang/Class;"⟩, Cond.instanceMethod ⟨"java/lang/Object", "getClass", "()Ljava/lang/Class;"⟩, Cond.native ⟨"java/lang/Object", "getClass", "()Ljava/lang/Class;"⟩, Cond.methodLink RJ7 300 yJ7_copyOf_6403c, Cond.static yJ7_copyOf_6403c, Cond.code yJ7_copyOf_6403c cJ7_copyOf_6403c 4 (some (.array (.object "java/lang/Object"))), Cond.classLink RJ7 110 "[Ljava/lang/Object;", Cond.classLink RJ7 2 "java/lang/Object", Cond.methodLink RJ7 304 Lib.Math.min.name, Cond.static Lib.Math.min.name, Cond.code Lib.Math.min.name Lib.Math.min.code 2 (some .int), Cond.methodLink RJ7 150 arraycopyName, Cond.native arraycopyName, Cond.static arraycopyName, Cond.initialized "java/lang/System"]
def wsL_replay : List Cond := .codeWith yL_replay cL_replay 4 (some .int) [(0, 9, 12, 13), (0, 9, 15, 20)] :: ((wsL_replay_r1 ++ (wsL_replay_r2 ++ (wsL_replay_r3 ++ (wsL_replay_r4 ++ (wsL_replay_r5 ++ wsL_replay_r6))))) ++ wsX20 ++ wsX30 ++ wsJx4a65c0 ++ wsX10 ++ (vx_atS RX3 110 "java/lang/IllegalStateException" ["java/lang/RuntimeException", "java/lang/Exception"]).filter goodWord ++ (vx_atS RX3 184 "java/lang/IndexOutOfBoundsException" ["java/lang/RuntimeException", "java/lang/Exception"]).filter goodWord)
def wsL_camera_r1 : List Cond := [Cond.classLink RL 15 "java/lang/IllegalArgumentException", Cond.classLink RL 20 "java/lang/IllegalStateException", Cond.methodLink RL 29 yX3_camera, Cond.instanceMethod yX3_camera, Cond.selects RX3 yX3_camera yX3_camera, Cond.initialized RX3, Cond.code yX3_camera cX3_camera 3 (some .int), Cond.classLink RX3 106 "java/lang/IllegalStateException", Cond.initialized "java/lang/IllegalStateException", Cond.fieldLink RX3 23 "Castdesk" "cameras" "Ljava/util/ArrayList;", Cond.classLink RX3 123 RX0, Cond.instantiable RX0 4, Cond.initialized RX0, Cond.methodLink RX3 58 yX3_checkRange, Cond.static yX3_checkRange, Cond.code yX3_checkRange cX3_checkRange 3 none, Cond.classLink RX3 62 "java/lang/IllegalArgumentException", Cond.initialized "java/lang/IllegalArgumentException", Cond.methodLink RX3 117 yJx4a65c_size_8abf5, Cond.instanceMethod yJx4a65c_size_8abf5, Cond.selects RJx4a65c yJx4a65c_size_8abf5 yJx4a65c_size_8abf5, Cond.initialized RJx4a65c, Cond.code yJx4a65c_size_8abf5 cJx4a65c_size_8abf5 1 (some .int), Cond.fieldLink RJx4a65c 48 "java/util/ArrayList" "size" "I"]
def wsL_camera_r2 : List Cond := [Cond.methodLink RX3 125 yX0_init, Cond.instanceMethod yX0_init, Cond.code yX0_init cX0_init 3 none, Cond.methodLink RX0 1 objectInit, Cond.instanceMethod objectInit, Cond.code objectInit ⟨#[0xb1]⟩ 1 none, Cond.fieldLink RX0 7 "Castdesk$Camera" "stamina" "I", Cond.fieldLink RX0 13 "Castdesk$Camera" "rest" "I", Cond.methodLink RX3 127 yJx4a65c_add_9ea2d, Cond.instanceMethod yJx4a65c_add_9ea2d, Cond.selects RJx4a65c yJx4a65c_add_9ea2d yJx4a65c_add_9ea2d, Cond.code yJx4a65c_add_9ea2d cJx4a65c_add_9ea2d 2 (some .boolean), Cond.fieldLink RJx4a65c 63 "java/util/ArrayList" "modCount" "I", Cond.sameField "java/util/ArrayList" "java/util/AbstractList" "modCount" "I", Cond.fieldLink RJx4a65c 9 "java/util/ArrayList" "elementData" "[Ljava/lang/Object;", Cond.methodLink RJx4a65c 131 yJx4a65c_add_72be8, Cond.instanceMethod yJx4a65c_add_72be8, Cond.selects RJx4a65c yJx4a65c_add_72be8 yJx4a65c_add_72be8, Cond.code yJx4a65c_add_72be8 cJx4a65c_add_72be8 4 none, Cond.methodLink RJx4a65c 129 yJx4a65c_grow_d5877, Cond.instanceMethod yJx4a65c_grow_d5877, Cond.selects RJx4a65c yJx4a65c_grow_d5877 yJx4a65c_grow_d5877, Cond.code yJx4a65c_grow_d5877 cJx4a65c_grow_d5877 1 (some (.array (.object "java/lang/Object"))), Cond.methodLink RJx4a65c 69 yJx4a65c_grow_92f84]
def wsL_camera_r3 : List Cond := [Cond.instanceMethod yJx4a65c_grow_92f84, Cond.selects RJx4a65c yJx4a65c_grow_92f84 yJx4a65c_grow_92f84, Cond.code yJx4a65c_grow_92f84 cJx4a65c_grow_92f84 4 (some (.array (.object "java/lang/Object"))), Cond.fieldLink RJx4a65c 39 "java/util/ArrayList" "DEFAULTCAPACITY_EMPTY_ELEMENTDATA" "[Ljava/lang/Object;", Cond.methodLink RJx4a65c 79 Lib.Math.max.name, Cond.static Lib.Math.max.name, Cond.initialized "java/lang/Math", Cond.code Lib.Math.max.name Lib.Math.max.code 2 (some .int), Cond.classLink RJx4a65c 7 "java/lang/Object", Cond.methodLink RJx4a65c 73 yJ8_newLength_cabcc, Cond.static yJ8_newLength_cabcc, Cond.initialized RJ8, Cond.code yJ8_newLength_cabcc cJ8_newLength_cabcc 4 (some .int), Cond.methodLink RJ8 194 Lib.Math.max.name, Cond.constant RJ8 200 (2147483639), Cond.methodLink RJ8 201 yJ8_hugeLength_7cf53, Cond.static yJ8_hugeLength_7cf53, Cond.code yJ8_hugeLength_7cf53 cJ8_hugeLength_7cf53 3 (some .int), Cond.methodLink RJx4a65c 66 yJ7_copyOf_1904c, Cond.static yJ7_copyOf_1904c, Cond.initialized RJ7, Cond.code yJ7_copyOf_1904c cJ7_copyOf_1904c 2 (some (.array (.object "java/lang/Object"))), Cond.methodLink RJ7 86 ⟨"java/lang/Object", "getClass", "()Ljava/lang/Class;"⟩, Cond.selects "[Ljava/lang/Object;" ⟨"java/lang/Object", "getClass", "()Ljava/lang/Class;"⟩ ⟨"java/lang/Object", "getClass", "()Ljava/lang/Class;"⟩]
def wsL_camera_r4 : List Cond := [Cond.instanceMethod ⟨"java/lang/Object", "getClass", "()Ljava/lang/Class;"⟩, Cond.native ⟨"java/lang/Object", "getClass", "()Ljava/lang/Class;"⟩, Cond.methodLink RJ7 300 yJ7_copyOf_6403c, Cond.static yJ7_copyOf_6403c, Cond.code yJ7_copyOf_6403c cJ7_copyOf_6403c 4 (some (.array (.object "java/lang/Object"))), Cond.classLink RJ7 110 "[Ljava/lang/Object;", Cond.classLink RJ7 2 "java/lang/Object", Cond.methodLink RJ7 304 Lib.Math.min.name, Cond.static Lib.Math.min.name, Cond.code Lib.Math.min.name Lib.Math.min.code 2 (some .int), Cond.methodLink RJ7 150 arraycopyName, Cond.native arraycopyName, Cond.static arraycopyName, Cond.initialized "java/lang/System"]
def wsL_camera : List Cond := .codeWith yL_camera cL_camera 5 (some .int) [(0, 10, 13, 15), (0, 10, 17, 20)] :: ((wsL_camera_r1 ++ (wsL_camera_r2 ++ (wsL_camera_r3 ++ wsL_camera_r4))) ++ wsX30 ++ wsX00 ++ wsJx4a65c0 ++ (vx_atS RX3 110 "java/lang/IllegalStateException" ["java/lang/RuntimeException", "java/lang/Exception"]).filter goodWord ++ (vx_atS RX3 66 "java/lang/IllegalArgumentException" ["java/lang/RuntimeException", "java/lang/Exception"]).filter goodWord)
def wsL_delay : List Cond := .codeWith yL_delay cL_delay 4 (some .int) [(0, 9, 12, 15)] :: ([.classLink RL 15 "java/lang/IllegalArgumentException", .methodLink RL 32 yX3_delay, .instanceMethod yX3_delay, .selects RX3 yX3_delay yX3_delay, .initialized RX3, .code yX3_delay cX3_delay 3 (some .int), .fieldLink RX3 38 "Castdesk" "delayFrames" "I", .methodLink RX3 58 yX3_checkRange, .static yX3_checkRange, .code yX3_checkRange cX3_checkRange 3 none, .classLink RX3 62 "java/lang/IllegalArgumentException", .initialized "java/lang/IllegalArgumentException", .methodLink RX3 131 yX3_letViewersSee, .instanceMethod yX3_letViewersSee, .selects RX3 yX3_letViewersSee yX3_letViewersSee, .code yX3_letViewersSee cX3_letViewersSee 1 none, .fieldLink RX3 42 "Castdesk" "seenUpTo" "I", .fieldLink RX3 85 "Castdesk" "now" "I", .methodLink RX3 285 Lib.Math.max.name, .static Lib.Math.max.name, .initialized "java/lang/Math", .code Lib.Math.max.name Lib.Math.max.code 2 (some .int)] ++ wsX30 ++ (vx_atS RX3 66 "java/lang/IllegalArgumentException" ["java/lang/RuntimeException", "java/lang/Exception"]).filter goodWord)
def wsL_pass_r1 : List Cond := [Cond.classLink RL 15 "java/lang/IllegalArgumentException", Cond.classLink RL 20 "java/lang/IllegalStateException", Cond.methodLink RL 35 yX3_pass, Cond.instanceMethod yX3_pass, Cond.selects RX3 yX3_pass yX3_pass, Cond.initialized RX3, Cond.code yX3_pass cX3_pass 3 (some .int), Cond.classLink RX3 106 "java/lang/IllegalStateException", Cond.initialized "java/lang/IllegalStateException", Cond.fieldLink RX3 85 "Castdesk" "now" "I", Cond.methodLink RX3 58 yX3_checkRange, Cond.static yX3_checkRange, Cond.code yX3_checkRange cX3_checkRange 3 none, Cond.classLink RX3 62 "java/lang/IllegalArgumentException", Cond.initialized "java/lang/IllegalArgumentException", Cond.methodLink RX3 136 yX3_passOne, Cond.instanceMethod yX3_passOne, Cond.selects RX3 yX3_passOne yX3_passOne, Cond.code yX3_passOne cX3_passOne 4 none, Cond.fieldLink RX3 45 "Castdesk" "shownFight" "[I", Cond.fieldLink RX3 48 "Castdesk" "shownCamera" "[I", Cond.fieldLink RX3 51 "Castdesk" "shownSponsor" "[I", Cond.fieldLink RX3 19 "Castdesk" "fights" "Ljava/util/ArrayList;", Cond.classLink RX3 89 "Castdesk$Fight"]
def wsL_pass_r2 : List Cond := [Cond.methodLink RX3 252 yX3_hottestFight, Cond.instanceMethod yX3_hottestFight, Cond.selects RX3 yX3_hottestFight yX3_hottestFight, Cond.code yX3_hottestFight cX3_hottestFight 7 (some (.object "Castdesk$Fight")), Cond.fieldLink RX3 100 "Castdesk$Fight" "state" "I", Cond.methodLink RX3 268 yX3_ofFrameAhead, Cond.instanceMethod yX3_ofFrameAhead, Cond.selects RX3 yX3_ofFrameAhead yX3_ofFrameAhead, Cond.code yX3_ofFrameAhead cX3_ofFrameAhead 2 (some .int), Cond.methodLink RX3 117 yJx4a65c_size_8abf5, Cond.instanceMethod yJx4a65c_size_8abf5, Cond.selects RJx4a65c yJx4a65c_size_8abf5 yJx4a65c_size_8abf5, Cond.initialized RJx4a65c, Cond.code yJx4a65c_size_8abf5 cJx4a65c_size_8abf5 1 (some .int), Cond.fieldLink RJx4a65c 48 "java/util/ArrayList" "size" "I", Cond.methodLink RX3 194 yJx4a65c_get_915e3, Cond.instanceMethod yJx4a65c_get_915e3, Cond.selects RJx4a65c yJx4a65c_get_915e3 yJx4a65c_get_915e3, Cond.code yJx4a65c_get_915e3 cJx4a65c_get_915e3 2 (some (.object "java/lang/Object")), Cond.methodLink RJx4a65c 118 yJ15_checkIndex_7cf53, Cond.static yJ15_checkIndex_7cf53, Cond.initialized RJ15, Cond.code yJ15_checkIndex_7cf53 cJ15_checkIndex_7cf53 2 (some .int), Cond.methodLink RJ15 105 yJ3_checkIndex_8e157]
def wsL_pass_r3 : List Cond := [Cond.static yJ3_checkIndex_8e157, Cond.initialized RJ3, Cond.code yJ3_checkIndex_8e157 cJ3_checkIndex_8e157 3 (some .int), Cond.methodLink RJx4a65c 123 yJx4a65c_elementData_915e3, Cond.instanceMethod yJx4a65c_elementData_915e3, Cond.selects RJx4a65c yJx4a65c_elementData_915e3 yJx4a65c_elementData_915e3, Cond.code yJx4a65c_elementData_915e3 cJx4a65c_elementData_915e3 2 (some (.object "java/lang/Object")), Cond.fieldLink RJx4a65c 9 "java/util/ArrayList" "elementData" "[Ljava/lang/Object;", Cond.methodLink RX3 272 yX3_heatOf, Cond.instanceMethod yX3_heatOf, Cond.selects RX3 yX3_heatOf yX3_heatOf, Cond.code yX3_heatOf cX3_heatOf 2 (some .int), Cond.fieldLink RX3 9 "Castdesk" "ranks" "[I", Cond.fieldLink RX3 88 "Castdesk$Fight" "first" "I", Cond.fieldLink RX3 97 "Castdesk$Fight" "second" "I", Cond.methodLink RX3 276 yX2_heatOfBlows, Cond.instanceMethod yX2_heatOfBlows, Cond.selects RX2 yX2_heatOfBlows yX2_heatOfBlows, Cond.initialized RX2, Cond.code yX2_heatOfBlows cX2_heatOfBlows 1 (some .int), Cond.fieldLink RX2 27 "Castdesk$Fight" "blowFrames" "I", Cond.methodLink RX2 30 yJ6_bitCount_0f7a4, Cond.static yJ6_bitCount_0f7a4, Cond.initialized RJ6]
def wsL_pass_r4 : List Cond := [Cond.code yJ6_bitCount_0f7a4 cJ6_bitCount_0f7a4 1 (some .int), Cond.constant RJ6 265 (1431655765), Cond.constant RJ6 266 (858993459), Cond.constant RJ6 267 (252645135), Cond.methodLink RX3 256 yX3_cameraForAir, Cond.instanceMethod yX3_cameraForAir, Cond.selects RX3 yX3_cameraForAir yX3_cameraForAir, Cond.code yX3_cameraForAir cX3_cameraForAir 3 (some .int), Cond.fieldLink RX3 23 "Castdesk" "cameras" "Ljava/util/ArrayList;", Cond.methodLink RX3 279 yX3_canBeOnAir, Cond.instanceMethod yX3_canBeOnAir, Cond.selects RX3 yX3_canBeOnAir yX3_canBeOnAir, Cond.code yX3_canBeOnAir cX3_canBeOnAir 2 (some .boolean), Cond.classLink RX3 123 "Castdesk$Camera", Cond.fieldLink RX3 201 "Castdesk$Camera" "toBeOff" "I", Cond.methodLink RX3 259 yX3_showFight, Cond.instanceMethod yX3_showFight, Cond.selects RX3 yX3_showFight yX3_showFight, Cond.code yX3_showFight cX3_showFight 3 none, Cond.fieldLink RX3 249 "Castdesk$Fight" "number" "I", Cond.fieldLink RX3 187 "Castdesk$Fight" "framesShown" "I", Cond.fieldLink RX3 32 "Castdesk" "countedFrames" "[I", Cond.methodLink RX3 282 yX3_sponsorOwedMost, Cond.instanceMethod yX3_sponsorOwedMost]
def wsL_pass_r5 : List Cond := [Cond.selects RX3 yX3_sponsorOwedMost yX3_sponsorOwedMost, Cond.code yX3_sponsorOwedMost cX3_sponsorOwedMost 6 (some .int), Cond.fieldLink RX3 35 "Castdesk" "slotPlayers" "[I", Cond.methodLink RX3 206 yX3_owedTo, Cond.instanceMethod yX3_owedTo, Cond.selects RX3 yX3_owedTo yX3_owedTo, Cond.code yX3_owedTo cX3_owedTo 2 (some .int), Cond.fieldLink RX3 29 "Castdesk" "promised" "[I", Cond.methodLink RX3 285 Lib.Math.max.name, Cond.static Lib.Math.max.name, Cond.initialized "java/lang/Math", Cond.code Lib.Math.max.name Lib.Math.max.code 2 (some .int), Cond.methodLink RX3 262 yX3_letCamerasPass, Cond.instanceMethod yX3_letCamerasPass, Cond.selects RX3 yX3_letCamerasPass yX3_letCamerasPass, Cond.code yX3_letCamerasPass cX3_letCamerasPass 4 none, Cond.methodLink RX3 290 yX0_passOnAir, Cond.instanceMethod yX0_passOnAir, Cond.selects RX0 yX0_passOnAir yX0_passOnAir, Cond.initialized RX0, Cond.code yX0_passOnAir cX0_passOnAir 1 none, Cond.fieldLink RX0 16 "Castdesk$Camera" "onAir" "I", Cond.fieldLink RX0 7 "Castdesk$Camera" "stamina" "I", Cond.fieldLink RX0 13 "Castdesk$Camera" "rest" "I"]
def wsL_pass_r6 : List Cond := [Cond.methodLink RX0 19 Lib.Math.max.name, Cond.fieldLink RX0 25 "Castdesk$Camera" "toBeOff" "I", Cond.methodLink RX3 293 yX0_passOff, Cond.instanceMethod yX0_passOff, Cond.selects RX0 yX0_passOff yX0_passOff, Cond.code yX0_passOff cX0_passOff 1 none, Cond.methodLink RX3 265 yX2_letFramePass, Cond.instanceMethod yX2_letFramePass, Cond.selects RX2 yX2_letFramePass yX2_letFramePass, Cond.code yX2_letFramePass cX2_letFramePass 1 none, Cond.methodLink RX3 131 yX3_letViewersSee, Cond.instanceMethod yX3_letViewersSee, Cond.selects RX3 yX3_letViewersSee yX3_letViewersSee, Cond.code yX3_letViewersSee cX3_letViewersSee 1 none, Cond.fieldLink RX3 42 "Castdesk" "seenUpTo" "I", Cond.fieldLink RX3 38 "Castdesk" "delayFrames" "I"]
def wsL_pass : List Cond := .codeWith yL_pass cL_pass 4 (some .int) [(0, 9, 12, 15), (0, 9, 15, 20)] :: ((wsL_pass_r1 ++ (wsL_pass_r2 ++ (wsL_pass_r3 ++ (wsL_pass_r4 ++ (wsL_pass_r5 ++ wsL_pass_r6))))) ++ wsX30 ++ wsX20 ++ wsJx4a65c0 ++ wsX00 ++ (vx_atS RX3 110 "java/lang/IllegalStateException" ["java/lang/RuntimeException", "java/lang/Exception"]).filter goodWord ++ (vx_atS RX3 66 "java/lang/IllegalArgumentException" ["java/lang/RuntimeException", "java/lang/Exception"]).filter goodWord)
def wsL_blow_r1 : List Cond := [Cond.classLink RL 13 "java/lang/IndexOutOfBoundsException", Cond.classLink RL 15 "java/lang/IllegalArgumentException", Cond.classLink RL 20 "java/lang/IllegalStateException", Cond.methodLink RL 38 yX3_blow, Cond.instanceMethod yX3_blow, Cond.selects RX3 yX3_blow yX3_blow, Cond.initialized RX3, Cond.code yX3_blow cX3_blow 5 (some .int), Cond.classLink RX3 62 "java/lang/IllegalArgumentException", Cond.initialized "java/lang/IllegalArgumentException", Cond.classLink RX3 106 "java/lang/IllegalStateException", Cond.initialized "java/lang/IllegalStateException", Cond.fieldLink RX3 26 "Castdesk" "entries" "Ljava/util/ArrayList;", Cond.classLink RX3 150 RX1, Cond.instantiable RX1 5, Cond.initialized RX1, Cond.fieldLink RX3 85 "Castdesk" "now" "I", Cond.methodLink RX3 77 yX3_fightNumbered, Cond.instanceMethod yX3_fightNumbered, Cond.selects RX3 yX3_fightNumbered yX3_fightNumbered, Cond.code yX3_fightNumbered cX3_fightNumbered 2 (some (.object "Castdesk$Fight")), Cond.classLink RX3 180 "java/lang/IndexOutOfBoundsException", Cond.initialized "java/lang/IndexOutOfBoundsException", Cond.fieldLink RX3 19 "Castdesk" "fights" "Ljava/util/ArrayList;"]
def wsL_blow_r2 : List Cond := [Cond.classLink RX3 89 "Castdesk$Fight", Cond.methodLink RX3 117 yJx4a65c_size_8abf5, Cond.instanceMethod yJx4a65c_size_8abf5, Cond.selects RJx4a65c yJx4a65c_size_8abf5 yJx4a65c_size_8abf5, Cond.initialized RJx4a65c, Cond.code yJx4a65c_size_8abf5 cJx4a65c_size_8abf5 1 (some .int), Cond.fieldLink RJx4a65c 48 "java/util/ArrayList" "size" "I", Cond.methodLink RX3 194 yJx4a65c_get_915e3, Cond.instanceMethod yJx4a65c_get_915e3, Cond.selects RJx4a65c yJx4a65c_get_915e3 yJx4a65c_get_915e3, Cond.code yJx4a65c_get_915e3 cJx4a65c_get_915e3 2 (some (.object "java/lang/Object")), Cond.methodLink RJx4a65c 118 yJ15_checkIndex_7cf53, Cond.static yJ15_checkIndex_7cf53, Cond.initialized RJ15, Cond.code yJ15_checkIndex_7cf53 cJ15_checkIndex_7cf53 2 (some .int), Cond.methodLink RJ15 105 yJ3_checkIndex_8e157, Cond.static yJ3_checkIndex_8e157, Cond.initialized RJ3, Cond.code yJ3_checkIndex_8e157 cJ3_checkIndex_8e157 3 (some .int), Cond.methodLink RJx4a65c 123 yJx4a65c_elementData_915e3, Cond.instanceMethod yJx4a65c_elementData_915e3, Cond.selects RJx4a65c yJx4a65c_elementData_915e3 yJx4a65c_elementData_915e3, Cond.code yJx4a65c_elementData_915e3 cJx4a65c_elementData_915e3 2 (some (.object "java/lang/Object")), Cond.fieldLink RJx4a65c 9 "java/util/ArrayList" "elementData" "[Ljava/lang/Object;"]
def wsL_blow_r3 : List Cond := [Cond.methodLink RX3 54 yX3_checkPlayer, Cond.static yX3_checkPlayer, Cond.code yX3_checkPlayer cX3_checkPlayer 1 none, Cond.methodLink RX3 58 yX3_checkRange, Cond.static yX3_checkRange, Cond.code yX3_checkRange cX3_checkRange 3 none, Cond.methodLink RX3 139 yX2_isOf, Cond.instanceMethod yX2_isOf, Cond.selects RX2 yX2_isOf yX2_isOf, Cond.initialized RX2, Cond.code yX2_isOf cX2_isOf 2 (some .boolean), Cond.fieldLink RX2 15 "Castdesk$Fight" "first" "I", Cond.fieldLink RX2 18 "Castdesk$Fight" "second" "I", Cond.methodLink RX3 81 yX3_checkGoesOn, Cond.static yX3_checkGoesOn, Cond.code yX3_checkGoesOn cX3_checkGoesOn 1 none, Cond.fieldLink RX3 100 "Castdesk$Fight" "state" "I", Cond.methodLink RX3 147 yX2_heatUp, Cond.instanceMethod yX2_heatUp, Cond.selects RX2 yX2_heatUp yX2_heatUp, Cond.code yX2_heatUp cX2_heatUp 1 none, Cond.fieldLink RX2 27 "Castdesk$Fight" "blowFrames" "I", Cond.methodLink RX3 152 yX1_init, Cond.instanceMethod yX1_init]
def wsL_blow_r4 : List Cond := [Cond.code yX1_init cX1_init 5 none, Cond.methodLink RX1 3 objectInit, Cond.instanceMethod objectInit, Cond.code objectInit ⟨#[0xb1]⟩ 1 none, Cond.fieldLink RX1 9 "Castdesk$Entry" "fight" "LCastdesk$Fight;", Cond.fieldLink RX1 15 "Castdesk$Entry" "player" "I", Cond.fieldLink RX1 19 "Castdesk$Entry" "frame" "I", Cond.fieldLink RX1 22 "Castdesk$Entry" "points" "I", Cond.methodLink RX3 127 yJx4a65c_add_9ea2d, Cond.instanceMethod yJx4a65c_add_9ea2d, Cond.selects RJx4a65c yJx4a65c_add_9ea2d yJx4a65c_add_9ea2d, Cond.code yJx4a65c_add_9ea2d cJx4a65c_add_9ea2d 2 (some .boolean), Cond.fieldLink RJx4a65c 63 "java/util/ArrayList" "modCount" "I", Cond.sameField "java/util/ArrayList" "java/util/AbstractList" "modCount" "I", Cond.methodLink RJx4a65c 131 yJx4a65c_add_72be8, Cond.instanceMethod yJx4a65c_add_72be8, Cond.selects RJx4a65c yJx4a65c_add_72be8 yJx4a65c_add_72be8, Cond.code yJx4a65c_add_72be8 cJx4a65c_add_72be8 4 none, Cond.methodLink RJx4a65c 129 yJx4a65c_grow_d5877, Cond.instanceMethod yJx4a65c_grow_d5877, Cond.selects RJx4a65c yJx4a65c_grow_d5877 yJx4a65c_grow_d5877, Cond.code yJx4a65c_grow_d5877 cJx4a65c_grow_d5877 1 (some (.array (.object "java/lang/Object"))), Cond.methodLink RJx4a65c 69 yJx4a65c_grow_92f84, Cond.instanceMethod yJx4a65c_grow_92f84]
def wsL_blow_r5 : List Cond := [Cond.selects RJx4a65c yJx4a65c_grow_92f84 yJx4a65c_grow_92f84, Cond.code yJx4a65c_grow_92f84 cJx4a65c_grow_92f84 4 (some (.array (.object "java/lang/Object"))), Cond.fieldLink RJx4a65c 39 "java/util/ArrayList" "DEFAULTCAPACITY_EMPTY_ELEMENTDATA" "[Ljava/lang/Object;", Cond.methodLink RJx4a65c 79 Lib.Math.max.name, Cond.static Lib.Math.max.name, Cond.initialized "java/lang/Math", Cond.code Lib.Math.max.name Lib.Math.max.code 2 (some .int), Cond.classLink RJx4a65c 7 "java/lang/Object", Cond.methodLink RJx4a65c 73 yJ8_newLength_cabcc, Cond.static yJ8_newLength_cabcc, Cond.initialized RJ8, Cond.code yJ8_newLength_cabcc cJ8_newLength_cabcc 4 (some .int), Cond.methodLink RJ8 194 Lib.Math.max.name, Cond.constant RJ8 200 (2147483639), Cond.methodLink RJ8 201 yJ8_hugeLength_7cf53, Cond.static yJ8_hugeLength_7cf53, Cond.code yJ8_hugeLength_7cf53 cJ8_hugeLength_7cf53 3 (some .int), Cond.methodLink RJx4a65c 66 yJ7_copyOf_1904c, Cond.static yJ7_copyOf_1904c, Cond.initialized RJ7, Cond.code yJ7_copyOf_1904c cJ7_copyOf_1904c 2 (some (.array (.object "java/lang/Object"))), Cond.methodLink RJ7 86 ⟨"java/lang/Object", "getClass", "()Ljava/lang/Class;"⟩, Cond.selects "[Ljava/lang/Object;" ⟨"java/lang/Object", "getClass", "()Ljava/lang/Class;"⟩ ⟨"java/lang/Object", "getClass", "()Ljava/lang/Class;"⟩, Cond.instanceMethod ⟨"java/lang/Object", "getClass", "()Ljava/lang/Class;"⟩]
def wsL_blow_r6 : List Cond := [Cond.native ⟨"java/lang/Object", "getClass", "()Ljava/lang/Class;"⟩, Cond.methodLink RJ7 300 yJ7_copyOf_6403c, Cond.static yJ7_copyOf_6403c, Cond.code yJ7_copyOf_6403c cJ7_copyOf_6403c 4 (some (.array (.object "java/lang/Object"))), Cond.classLink RJ7 110 "[Ljava/lang/Object;", Cond.classLink RJ7 2 "java/lang/Object", Cond.methodLink RJ7 304 Lib.Math.min.name, Cond.static Lib.Math.min.name, Cond.code Lib.Math.min.name Lib.Math.min.code 2 (some .int), Cond.methodLink RJ7 150 arraycopyName, Cond.native arraycopyName, Cond.static arraycopyName, Cond.initialized "java/lang/System"]
def wsL_blow : List Cond := .codeWith yL_blow cL_blow 6 (some .int) [(0, 12, 15, 13), (0, 12, 19, 15), (0, 12, 23, 20)] :: ((wsL_blow_r1 ++ (wsL_blow_r2 ++ (wsL_blow_r3 ++ (wsL_blow_r4 ++ (wsL_blow_r5 ++ wsL_blow_r6))))) ++ wsX30 ++ wsX10 ++ wsJx4a65c0 ++ wsX20 ++ (vx_atS RX3 66 "java/lang/IllegalArgumentException" ["java/lang/RuntimeException", "java/lang/Exception"]).filter goodWord ++ (vx_atS RX3 110 "java/lang/IllegalStateException" ["java/lang/RuntimeException", "java/lang/Exception"]).filter goodWord ++ (vx_atS RX3 184 "java/lang/IndexOutOfBoundsException" ["java/lang/RuntimeException", "java/lang/Exception"]).filter goodWord)
def wsL_strike_r1 : List Cond := [Cond.classLink RL 13 "java/lang/IndexOutOfBoundsException", Cond.classLink RL 20 "java/lang/IllegalStateException", Cond.methodLink RL 42 yX3_strike, Cond.instanceMethod yX3_strike, Cond.selects RX3 yX3_strike yX3_strike, Cond.initialized RX3, Cond.code yX3_strike cX3_strike 3 (some .int), Cond.fieldLink RX3 163 "Castdesk$Entry" "struck" "Z", Cond.fieldLink RX3 167 "Castdesk$Entry" "points" "I", Cond.methodLink RX3 155 yX3_entryNumbered, Cond.instanceMethod yX3_entryNumbered, Cond.selects RX3 yX3_entryNumbered yX3_entryNumbered, Cond.code yX3_entryNumbered cX3_entryNumbered 2 (some (.object "Castdesk$Entry")), Cond.classLink RX3 180 "java/lang/IndexOutOfBoundsException", Cond.initialized "java/lang/IndexOutOfBoundsException", Cond.fieldLink RX3 26 "Castdesk" "entries" "Ljava/util/ArrayList;", Cond.classLink RX3 150 "Castdesk$Entry", Cond.methodLink RX3 117 yJx4a65c_size_8abf5, Cond.instanceMethod yJx4a65c_size_8abf5, Cond.selects RJx4a65c yJx4a65c_size_8abf5 yJx4a65c_size_8abf5, Cond.initialized RJx4a65c, Cond.code yJx4a65c_size_8abf5 cJx4a65c_size_8abf5 1 (some .int), Cond.fieldLink RJx4a65c 48 "java/util/ArrayList" "size" "I", Cond.methodLink RX3 194 yJx4a65c_get_915e3]
def wsL_strike_r2 : List Cond := [Cond.instanceMethod yJx4a65c_get_915e3, Cond.selects RJx4a65c yJx4a65c_get_915e3 yJx4a65c_get_915e3, Cond.code yJx4a65c_get_915e3 cJx4a65c_get_915e3 2 (some (.object "java/lang/Object")), Cond.methodLink RJx4a65c 118 yJ15_checkIndex_7cf53, Cond.static yJ15_checkIndex_7cf53, Cond.initialized RJ15, Cond.code yJ15_checkIndex_7cf53 cJ15_checkIndex_7cf53 2 (some .int), Cond.methodLink RJ15 105 yJ3_checkIndex_8e157, Cond.static yJ3_checkIndex_8e157, Cond.initialized RJ3, Cond.code yJ3_checkIndex_8e157 cJ3_checkIndex_8e157 3 (some .int), Cond.methodLink RJx4a65c 123 yJx4a65c_elementData_915e3, Cond.instanceMethod yJx4a65c_elementData_915e3, Cond.selects RJx4a65c yJx4a65c_elementData_915e3 yJx4a65c_elementData_915e3, Cond.code yJx4a65c_elementData_915e3 cJx4a65c_elementData_915e3 2 (some (.object "java/lang/Object")), Cond.fieldLink RJx4a65c 9 "java/util/ArrayList" "elementData" "[Ljava/lang/Object;", Cond.methodLink RX3 159 yX3_checkCanBeCorrected, Cond.static yX3_checkCanBeCorrected, Cond.code yX3_checkCanBeCorrected cX3_checkCanBeCorrected 1 none, Cond.classLink RX3 106 "java/lang/IllegalStateException", Cond.initialized "java/lang/IllegalStateException", Cond.methodLink RX3 223 yX1_canBeCorrected, Cond.instanceMethod yX1_canBeCorrected, Cond.selects RX1 yX1_canBeCorrected yX1_canBeCorrected]
def wsL_strike_r3 : List Cond := [Cond.initialized RX1, Cond.code yX1_canBeCorrected cX1_canBeCorrected 1 (some .boolean), Cond.fieldLink RX1 25 "Castdesk$Entry" "struck" "Z", Cond.fieldLink RX1 9 "Castdesk$Entry" "fight" "LCastdesk$Fight;", Cond.fieldLink RX1 29 "Castdesk$Fight" "state" "I"]
def wsL_strike : List Cond := .codeWith yL_strike cL_strike 4 (some .int) [(0, 9, 12, 13), (0, 9, 15, 20)] :: ((wsL_strike_r1 ++ (wsL_strike_r2 ++ wsL_strike_r3)) ++ wsX10 ++ wsX30 ++ wsJx4a65c0 ++ wsX20 ++ (vx_atS RX3 184 "java/lang/IndexOutOfBoundsException" ["java/lang/RuntimeException", "java/lang/Exception"]).filter goodWord ++ (vx_atS RX3 110 "java/lang/IllegalStateException" ["java/lang/RuntimeException", "java/lang/Exception"]).filter goodWord)
def wsL_mend_r1 : List Cond := [Cond.classLink RL 13 "java/lang/IndexOutOfBoundsException", Cond.classLink RL 15 "java/lang/IllegalArgumentException", Cond.classLink RL 20 "java/lang/IllegalStateException", Cond.methodLink RL 45 yX3_mend, Cond.instanceMethod yX3_mend, Cond.selects RX3 yX3_mend yX3_mend, Cond.initialized RX3, Cond.code yX3_mend cX3_mend 5 (some .int), Cond.fieldLink RX3 167 "Castdesk$Entry" "points" "I", Cond.methodLink RX3 155 yX3_entryNumbered, Cond.instanceMethod yX3_entryNumbered, Cond.selects RX3 yX3_entryNumbered yX3_entryNumbered, Cond.code yX3_entryNumbered cX3_entryNumbered 2 (some (.object "Castdesk$Entry")), Cond.classLink RX3 180 "java/lang/IndexOutOfBoundsException", Cond.initialized "java/lang/IndexOutOfBoundsException", Cond.fieldLink RX3 26 "Castdesk" "entries" "Ljava/util/ArrayList;", Cond.classLink RX3 150 "Castdesk$Entry", Cond.methodLink RX3 117 yJx4a65c_size_8abf5, Cond.instanceMethod yJx4a65c_size_8abf5, Cond.selects RJx4a65c yJx4a65c_size_8abf5 yJx4a65c_size_8abf5, Cond.initialized RJx4a65c, Cond.code yJx4a65c_size_8abf5 cJx4a65c_size_8abf5 1 (some .int), Cond.fieldLink RJx4a65c 48 "java/util/ArrayList" "size" "I", Cond.methodLink RX3 194 yJx4a65c_get_915e3]
def wsL_mend_r2 : List Cond := [Cond.instanceMethod yJx4a65c_get_915e3, Cond.selects RJx4a65c yJx4a65c_get_915e3 yJx4a65c_get_915e3, Cond.code yJx4a65c_get_915e3 cJx4a65c_get_915e3 2 (some (.object "java/lang/Object")), Cond.methodLink RJx4a65c 118 yJ15_checkIndex_7cf53, Cond.static yJ15_checkIndex_7cf53, Cond.initialized RJ15, Cond.code yJ15_checkIndex_7cf53 cJ15_checkIndex_7cf53 2 (some .int), Cond.methodLink RJ15 105 yJ3_checkIndex_8e157, Cond.static yJ3_checkIndex_8e157, Cond.initialized RJ3, Cond.code yJ3_checkIndex_8e157 cJ3_checkIndex_8e157 3 (some .int), Cond.methodLink RJx4a65c 123 yJx4a65c_elementData_915e3, Cond.instanceMethod yJx4a65c_elementData_915e3, Cond.selects RJx4a65c yJx4a65c_elementData_915e3 yJx4a65c_elementData_915e3, Cond.code yJx4a65c_elementData_915e3 cJx4a65c_elementData_915e3 2 (some (.object "java/lang/Object")), Cond.fieldLink RJx4a65c 9 "java/util/ArrayList" "elementData" "[Ljava/lang/Object;", Cond.methodLink RX3 58 yX3_checkRange, Cond.static yX3_checkRange, Cond.code yX3_checkRange cX3_checkRange 3 none, Cond.classLink RX3 62 "java/lang/IllegalArgumentException", Cond.initialized "java/lang/IllegalArgumentException", Cond.methodLink RX3 159 yX3_checkCanBeCorrected, Cond.static yX3_checkCanBeCorrected, Cond.code yX3_checkCanBeCorrected cX3_checkCanBeCorrected 1 none]
def wsL_mend_r3 : List Cond := [Cond.classLink RX3 106 "java/lang/IllegalStateException", Cond.initialized "java/lang/IllegalStateException", Cond.methodLink RX3 223 yX1_canBeCorrected, Cond.instanceMethod yX1_canBeCorrected, Cond.selects RX1 yX1_canBeCorrected yX1_canBeCorrected, Cond.initialized RX1, Cond.code yX1_canBeCorrected cX1_canBeCorrected 1 (some .boolean), Cond.fieldLink RX1 25 "Castdesk$Entry" "struck" "Z", Cond.fieldLink RX1 9 "Castdesk$Entry" "fight" "LCastdesk$Fight;", Cond.fieldLink RX1 29 "Castdesk$Fight" "state" "I"]
def wsL_mend : List Cond := .codeWith yL_mend cL_mend 5 (some .int) [(0, 10, 13, 13), (0, 10, 17, 15), (0, 10, 21, 20)] :: ((wsL_mend_r1 ++ (wsL_mend_r2 ++ wsL_mend_r3)) ++ wsX10 ++ wsX30 ++ wsJx4a65c0 ++ wsX20 ++ (vx_atS RX3 184 "java/lang/IndexOutOfBoundsException" ["java/lang/RuntimeException", "java/lang/Exception"]).filter goodWord ++ (vx_atS RX3 66 "java/lang/IllegalArgumentException" ["java/lang/RuntimeException", "java/lang/Exception"]).filter goodWord ++ (vx_atS RX3 110 "java/lang/IllegalStateException" ["java/lang/RuntimeException", "java/lang/Exception"]).filter goodWord)
def wsL_promise : List Cond := .codeWith yL_promise cL_promise 5 (some .int) [(0, 10, 13, 13), (0, 10, 17, 15)] :: ([.classLink RL 13 "java/lang/IndexOutOfBoundsException", .classLink RL 15 "java/lang/IllegalArgumentException", .methodLink RL 48 yX3_promise, .instanceMethod yX3_promise, .selects RX3 yX3_promise yX3_promise, .initialized RX3, .code yX3_promise cX3_promise 4 (some .int), .fieldLink RX3 29 "Castdesk" "promised" "[I", .methodLink RX3 170 yX3_checkSponsor, .static yX3_checkSponsor, .code yX3_checkSponsor cX3_checkSponsor 1 none, .classLink RX3 180 "java/lang/IndexOutOfBoundsException", .initialized "java/lang/IndexOutOfBoundsException", .methodLink RX3 58 yX3_checkRange, .static yX3_checkRange, .code yX3_checkRange cX3_checkRange 3 none, .classLink RX3 62 "java/lang/IllegalArgumentException", .initialized "java/lang/IllegalArgumentException"] ++ wsX30 ++ (vx_atS RX3 184 "java/lang/IndexOutOfBoundsException" ["java/lang/RuntimeException", "java/lang/Exception"]).filter goodWord ++ (vx_atS RX3 66 "java/lang/IllegalArgumentException" ["java/lang/RuntimeException", "java/lang/Exception"]).filter goodWord)
def wsL_slot : List Cond := .codeWith yL_slot cL_slot 5 (some .int) [(0, 10, 13, 13), (0, 10, 17, 20)] :: ([.classLink RL 13 "java/lang/IndexOutOfBoundsException", .classLink RL 20 "java/lang/IllegalStateException", .methodLink RL 51 yX3_slot, .instanceMethod yX3_slot, .selects RX3 yX3_slot yX3_slot, .initialized RX3, .code yX3_slot cX3_slot 4 (some .int), .classLink RX3 106 "java/lang/IllegalStateException", .initialized "java/lang/IllegalStateException", .fieldLink RX3 35 "Castdesk" "slotPlayers" "[I", .fieldLink RX3 175 "Castdesk" "slots" "I", .methodLink RX3 170 yX3_checkSponsor, .static yX3_checkSponsor, .code yX3_checkSponsor cX3_checkSponsor 1 none, .classLink RX3 180 "java/lang/IndexOutOfBoundsException", .initialized "java/lang/IndexOutOfBoundsException", .methodLink RX3 54 yX3_checkPlayer, .static yX3_checkPlayer, .code yX3_checkPlayer cX3_checkPlayer 1 none] ++ wsX30 ++ (vx_atS RX3 110 "java/lang/IllegalStateException" ["java/lang/RuntimeException", "java/lang/Exception"]).filter goodWord ++ (vx_atS RX3 184 "java/lang/IndexOutOfBoundsException" ["java/lang/RuntimeException", "java/lang/Exception"]).filter goodWord)
def wsL_shown : List Cond := .codeWith yL_shown cL_shown 5 (some .int) [(0, 10, 13, 13), (0, 10, 17, 15)] :: ([.classLink RL 13 "java/lang/IndexOutOfBoundsException", .classLink RL 15 "java/lang/IllegalArgumentException", .methodLink RL 54 yX3_shown, .instanceMethod yX3_shown, .selects RX3 yX3_shown yX3_shown, .initialized RX3, .code yX3_shown cX3_shown 3 (some .int), .classLink RX3 180 "java/lang/IndexOutOfBoundsException", .initialized "java/lang/IndexOutOfBoundsException", .classLink RX3 62 "java/lang/IllegalArgumentException", .initialized "java/lang/IllegalArgumentException", .fieldLink RX3 85 "Castdesk" "now" "I", .fieldLink RX3 45 "Castdesk" "shownFight" "[I", .fieldLink RX3 48 "Castdesk" "shownCamera" "[I", .fieldLink RX3 51 "Castdesk" "shownSponsor" "[I"] ++ wsX30 ++ (vx_atS RX3 184 "java/lang/IndexOutOfBoundsException" ["java/lang/RuntimeException", "java/lang/Exception"]).filter goodWord ++ (vx_atS RX3 66 "java/lang/IllegalArgumentException" ["java/lang/RuntimeException", "java/lang/Exception"]).filter goodWord)
def wsL_points_r1 : List Cond := [Cond.classLink RL 13 "java/lang/IndexOutOfBoundsException", Cond.methodLink RL 57 yX3_points, Cond.instanceMethod yX3_points, Cond.selects RX3 yX3_points yX3_points, Cond.initialized RX3, Cond.code yX3_points cX3_points 4 (some .int), Cond.fieldLink RX3 85 "Castdesk" "now" "I", Cond.methodLink RX3 77 yX3_fightNumbered, Cond.instanceMethod yX3_fightNumbered, Cond.selects RX3 yX3_fightNumbered yX3_fightNumbered, Cond.code yX3_fightNumbered cX3_fightNumbered 2 (some (.object "Castdesk$Fight")), Cond.classLink RX3 180 "java/lang/IndexOutOfBoundsException", Cond.initialized "java/lang/IndexOutOfBoundsException", Cond.fieldLink RX3 19 "Castdesk" "fights" "Ljava/util/ArrayList;", Cond.classLink RX3 89 "Castdesk$Fight", Cond.methodLink RX3 117 yJx4a65c_size_8abf5, Cond.instanceMethod yJx4a65c_size_8abf5, Cond.selects RJx4a65c yJx4a65c_size_8abf5 yJx4a65c_size_8abf5, Cond.initialized RJx4a65c, Cond.code yJx4a65c_size_8abf5 cJx4a65c_size_8abf5 1 (some .int), Cond.fieldLink RJx4a65c 48 "java/util/ArrayList" "size" "I", Cond.methodLink RX3 194 yJx4a65c_get_915e3, Cond.instanceMethod yJx4a65c_get_915e3, Cond.selects RJx4a65c yJx4a65c_get_915e3 yJx4a65c_get_915e3]
def wsL_points_r2 : List Cond := [Cond.code yJx4a65c_get_915e3 cJx4a65c_get_915e3 2 (some (.object "java/lang/Object")), Cond.methodLink RJx4a65c 118 yJ15_checkIndex_7cf53, Cond.static yJ15_checkIndex_7cf53, Cond.initialized RJ15, Cond.code yJ15_checkIndex_7cf53 cJ15_checkIndex_7cf53 2 (some .int), Cond.methodLink RJ15 105 yJ3_checkIndex_8e157, Cond.static yJ3_checkIndex_8e157, Cond.initialized RJ3, Cond.code yJ3_checkIndex_8e157 cJ3_checkIndex_8e157 3 (some .int), Cond.methodLink RJx4a65c 123 yJx4a65c_elementData_915e3, Cond.instanceMethod yJx4a65c_elementData_915e3, Cond.selects RJx4a65c yJx4a65c_elementData_915e3 yJx4a65c_elementData_915e3, Cond.code yJx4a65c_elementData_915e3 cJx4a65c_elementData_915e3 2 (some (.object "java/lang/Object")), Cond.fieldLink RJx4a65c 9 "java/util/ArrayList" "elementData" "[Ljava/lang/Object;", Cond.methodLink RX3 54 yX3_checkPlayer, Cond.static yX3_checkPlayer, Cond.code yX3_checkPlayer cX3_checkPlayer 1 none, Cond.methodLink RX3 93 yX3_pointsUpTo, Cond.instanceMethod yX3_pointsUpTo, Cond.selects RX3 yX3_pointsUpTo yX3_pointsUpTo, Cond.code yX3_pointsUpTo cX3_pointsUpTo 7 (some .int), Cond.fieldLink RX3 26 "Castdesk" "entries" "Ljava/util/ArrayList;", Cond.classLink RX3 150 "Castdesk$Entry", Cond.fieldLink RX3 239 "Castdesk$Entry" "fight" "LCastdesk$Fight;"]
def wsL_points_r3 : List Cond := [Cond.fieldLink RX3 243 "Castdesk$Entry" "player" "I", Cond.fieldLink RX3 246 "Castdesk$Entry" "frame" "I", Cond.fieldLink RX3 163 "Castdesk$Entry" "struck" "Z", Cond.fieldLink RX3 167 "Castdesk$Entry" "points" "I"]
def wsL_points : List Cond := .codeWith yL_points cL_points 5 (some .int) [(0, 10, 13, 13)] :: ((wsL_points_r1 ++ (wsL_points_r2 ++ wsL_points_r3)) ++ wsX30 ++ wsJx4a65c0 ++ wsX10 ++ (vx_atS RX3 184 "java/lang/IndexOutOfBoundsException" ["java/lang/RuntimeException", "java/lang/Exception"]).filter goodWord)
def wsL_overlay_r1 : List Cond := [Cond.classLink RL 13 "java/lang/IndexOutOfBoundsException", Cond.methodLink RL 60 yX3_overlay, Cond.instanceMethod yX3_overlay, Cond.selects RX3 yX3_overlay yX3_overlay, Cond.initialized RX3, Cond.code yX3_overlay cX3_overlay 4 (some .int), Cond.fieldLink RX3 42 "Castdesk" "seenUpTo" "I", Cond.methodLink RX3 77 yX3_fightNumbered, Cond.instanceMethod yX3_fightNumbered, Cond.selects RX3 yX3_fightNumbered yX3_fightNumbered, Cond.code yX3_fightNumbered cX3_fightNumbered 2 (some (.object "Castdesk$Fight")), Cond.classLink RX3 180 "java/lang/IndexOutOfBoundsException", Cond.initialized "java/lang/IndexOutOfBoundsException", Cond.fieldLink RX3 19 "Castdesk" "fights" "Ljava/util/ArrayList;", Cond.classLink RX3 89 "Castdesk$Fight", Cond.methodLink RX3 117 yJx4a65c_size_8abf5, Cond.instanceMethod yJx4a65c_size_8abf5, Cond.selects RJx4a65c yJx4a65c_size_8abf5 yJx4a65c_size_8abf5, Cond.initialized RJx4a65c, Cond.code yJx4a65c_size_8abf5 cJx4a65c_size_8abf5 1 (some .int), Cond.fieldLink RJx4a65c 48 "java/util/ArrayList" "size" "I", Cond.methodLink RX3 194 yJx4a65c_get_915e3, Cond.instanceMethod yJx4a65c_get_915e3, Cond.selects RJx4a65c yJx4a65c_get_915e3 yJx4a65c_get_915e3]
def wsL_overlay_r2 : List Cond := [Cond.code yJx4a65c_get_915e3 cJx4a65c_get_915e3 2 (some (.object "java/lang/Object")), Cond.methodLink RJx4a65c 118 yJ15_checkIndex_7cf53, Cond.static yJ15_checkIndex_7cf53, Cond.initialized RJ15, Cond.code yJ15_checkIndex_7cf53 cJ15_checkIndex_7cf53 2 (some .int), Cond.methodLink RJ15 105 yJ3_checkIndex_8e157, Cond.static yJ3_checkIndex_8e157, Cond.initialized RJ3, Cond.code yJ3_checkIndex_8e157 cJ3_checkIndex_8e157 3 (some .int), Cond.methodLink RJx4a65c 123 yJx4a65c_elementData_915e3, Cond.instanceMethod yJx4a65c_elementData_915e3, Cond.selects RJx4a65c yJx4a65c_elementData_915e3 yJx4a65c_elementData_915e3, Cond.code yJx4a65c_elementData_915e3 cJx4a65c_elementData_915e3 2 (some (.object "java/lang/Object")), Cond.fieldLink RJx4a65c 9 "java/util/ArrayList" "elementData" "[Ljava/lang/Object;", Cond.methodLink RX3 54 yX3_checkPlayer, Cond.static yX3_checkPlayer, Cond.code yX3_checkPlayer cX3_checkPlayer 1 none, Cond.methodLink RX3 93 yX3_pointsUpTo, Cond.instanceMethod yX3_pointsUpTo, Cond.selects RX3 yX3_pointsUpTo yX3_pointsUpTo, Cond.code yX3_pointsUpTo cX3_pointsUpTo 7 (some .int), Cond.fieldLink RX3 26 "Castdesk" "entries" "Ljava/util/ArrayList;", Cond.classLink RX3 150 "Castdesk$Entry", Cond.fieldLink RX3 239 "Castdesk$Entry" "fight" "LCastdesk$Fight;"]
def wsL_overlay_r3 : List Cond := [Cond.fieldLink RX3 243 "Castdesk$Entry" "player" "I", Cond.fieldLink RX3 246 "Castdesk$Entry" "frame" "I", Cond.fieldLink RX3 163 "Castdesk$Entry" "struck" "Z", Cond.fieldLink RX3 167 "Castdesk$Entry" "points" "I"]
def wsL_overlay : List Cond := .codeWith yL_overlay cL_overlay 5 (some .int) [(0, 10, 13, 13)] :: ((wsL_overlay_r1 ++ (wsL_overlay_r2 ++ wsL_overlay_r3)) ++ wsX30 ++ wsJx4a65c0 ++ wsX10 ++ (vx_atS RX3 184 "java/lang/IndexOutOfBoundsException" ["java/lang/RuntimeException", "java/lang/Exception"]).filter goodWord)
def wsL_fightOf_r1 : List Cond := [Cond.classLink RL 13 "java/lang/IndexOutOfBoundsException", Cond.classLink RL 15 "java/lang/IllegalArgumentException", Cond.methodLink RL 63 yX3_fightOf, Cond.instanceMethod yX3_fightOf, Cond.selects RX3 yX3_fightOf yX3_fightOf, Cond.initialized RX3, Cond.code yX3_fightOf cX3_fightOf 4 (some .int), Cond.classLink RX3 62 "java/lang/IllegalArgumentException", Cond.initialized "java/lang/IllegalArgumentException", Cond.fieldLink RX3 100 "Castdesk$Fight" "state" "I", Cond.fieldLink RX3 88 "Castdesk$Fight" "first" "I", Cond.fieldLink RX3 97 "Castdesk$Fight" "second" "I", Cond.fieldLink RX3 103 "Castdesk$Fight" "winner" "I", Cond.fieldLink RX3 187 "Castdesk$Fight" "framesShown" "I", Cond.methodLink RX3 77 yX3_fightNumbered, Cond.instanceMethod yX3_fightNumbered, Cond.selects RX3 yX3_fightNumbered yX3_fightNumbered, Cond.code yX3_fightNumbered cX3_fightNumbered 2 (some (.object "Castdesk$Fight")), Cond.classLink RX3 180 "java/lang/IndexOutOfBoundsException", Cond.initialized "java/lang/IndexOutOfBoundsException", Cond.fieldLink RX3 19 "Castdesk" "fights" "Ljava/util/ArrayList;", Cond.classLink RX3 89 "Castdesk$Fight", Cond.methodLink RX3 117 yJx4a65c_size_8abf5, Cond.instanceMethod yJx4a65c_size_8abf5]
def wsL_fightOf_r2 : List Cond := [Cond.selects RJx4a65c yJx4a65c_size_8abf5 yJx4a65c_size_8abf5, Cond.initialized RJx4a65c, Cond.code yJx4a65c_size_8abf5 cJx4a65c_size_8abf5 1 (some .int), Cond.fieldLink RJx4a65c 48 "java/util/ArrayList" "size" "I", Cond.methodLink RX3 194 yJx4a65c_get_915e3, Cond.instanceMethod yJx4a65c_get_915e3, Cond.selects RJx4a65c yJx4a65c_get_915e3 yJx4a65c_get_915e3, Cond.code yJx4a65c_get_915e3 cJx4a65c_get_915e3 2 (some (.object "java/lang/Object")), Cond.methodLink RJx4a65c 118 yJ15_checkIndex_7cf53, Cond.static yJ15_checkIndex_7cf53, Cond.initialized RJ15, Cond.code yJ15_checkIndex_7cf53 cJ15_checkIndex_7cf53 2 (some .int), Cond.methodLink RJ15 105 yJ3_checkIndex_8e157, Cond.static yJ3_checkIndex_8e157, Cond.initialized RJ3, Cond.code yJ3_checkIndex_8e157 cJ3_checkIndex_8e157 3 (some .int), Cond.methodLink RJx4a65c 123 yJx4a65c_elementData_915e3, Cond.instanceMethod yJx4a65c_elementData_915e3, Cond.selects RJx4a65c yJx4a65c_elementData_915e3 yJx4a65c_elementData_915e3, Cond.code yJx4a65c_elementData_915e3 cJx4a65c_elementData_915e3 2 (some (.object "java/lang/Object")), Cond.fieldLink RJx4a65c 9 "java/util/ArrayList" "elementData" "[Ljava/lang/Object;"]
def wsL_fightOf : List Cond := .codeWith yL_fightOf cL_fightOf 5 (some .int) [(0, 10, 13, 13), (0, 10, 17, 15)] :: ((wsL_fightOf_r1 ++ wsL_fightOf_r2) ++ wsX20 ++ wsX30 ++ wsJx4a65c0 ++ (vx_atS RX3 66 "java/lang/IllegalArgumentException" ["java/lang/RuntimeException", "java/lang/Exception"]).filter goodWord ++ (vx_atS RX3 184 "java/lang/IndexOutOfBoundsException" ["java/lang/RuntimeException", "java/lang/Exception"]).filter goodWord)
def wsL_cameraOf_r1 : List Cond := [Cond.classLink RL 13 "java/lang/IndexOutOfBoundsException", Cond.classLink RL 15 "java/lang/IllegalArgumentException", Cond.methodLink RL 66 yX3_cameraOf, Cond.instanceMethod yX3_cameraOf, Cond.selects RX3 yX3_cameraOf yX3_cameraOf, Cond.initialized RX3, Cond.code yX3_cameraOf cX3_cameraOf 4 (some .int), Cond.classLink RX3 180 "java/lang/IndexOutOfBoundsException", Cond.initialized "java/lang/IndexOutOfBoundsException", Cond.classLink RX3 62 "java/lang/IllegalArgumentException", Cond.initialized "java/lang/IllegalArgumentException", Cond.fieldLink RX3 23 "Castdesk" "cameras" "Ljava/util/ArrayList;", Cond.classLink RX3 123 "Castdesk$Camera", Cond.fieldLink RX3 198 "Castdesk$Camera" "onAir" "I", Cond.fieldLink RX3 201 "Castdesk$Camera" "toBeOff" "I", Cond.methodLink RX3 117 yJx4a65c_size_8abf5, Cond.instanceMethod yJx4a65c_size_8abf5, Cond.selects RJx4a65c yJx4a65c_size_8abf5 yJx4a65c_size_8abf5, Cond.initialized RJx4a65c, Cond.code yJx4a65c_size_8abf5 cJx4a65c_size_8abf5 1 (some .int), Cond.fieldLink RJx4a65c 48 "java/util/ArrayList" "size" "I", Cond.methodLink RX3 194 yJx4a65c_get_915e3, Cond.instanceMethod yJx4a65c_get_915e3, Cond.selects RJx4a65c yJx4a65c_get_915e3 yJx4a65c_get_915e3]
def wsL_cameraOf_r2 : List Cond := [Cond.code yJx4a65c_get_915e3 cJx4a65c_get_915e3 2 (some (.object "java/lang/Object")), Cond.methodLink RJx4a65c 118 yJ15_checkIndex_7cf53, Cond.static yJ15_checkIndex_7cf53, Cond.initialized RJ15, Cond.code yJ15_checkIndex_7cf53 cJ15_checkIndex_7cf53 2 (some .int), Cond.methodLink RJ15 105 yJ3_checkIndex_8e157, Cond.static yJ3_checkIndex_8e157, Cond.initialized RJ3, Cond.code yJ3_checkIndex_8e157 cJ3_checkIndex_8e157 3 (some .int), Cond.methodLink RJx4a65c 123 yJx4a65c_elementData_915e3, Cond.instanceMethod yJx4a65c_elementData_915e3, Cond.selects RJx4a65c yJx4a65c_elementData_915e3 yJx4a65c_elementData_915e3, Cond.code yJx4a65c_elementData_915e3 cJx4a65c_elementData_915e3 2 (some (.object "java/lang/Object")), Cond.fieldLink RJx4a65c 9 "java/util/ArrayList" "elementData" "[Ljava/lang/Object;"]
def wsL_cameraOf : List Cond := .codeWith yL_cameraOf cL_cameraOf 5 (some .int) [(0, 10, 13, 13), (0, 10, 17, 15)] :: ((wsL_cameraOf_r1 ++ wsL_cameraOf_r2) ++ wsX30 ++ wsX00 ++ wsJx4a65c0 ++ (vx_atS RX3 184 "java/lang/IndexOutOfBoundsException" ["java/lang/RuntimeException", "java/lang/Exception"]).filter goodWord ++ (vx_atS RX3 66 "java/lang/IllegalArgumentException" ["java/lang/RuntimeException", "java/lang/Exception"]).filter goodWord)
def wsL_counted : List Cond := .codeWith yL_counted cL_counted 4 (some .int) [(0, 9, 12, 13)] :: ([.classLink RL 13 "java/lang/IndexOutOfBoundsException", .methodLink RL 69 yX3_counted, .instanceMethod yX3_counted, .selects RX3 yX3_counted yX3_counted, .initialized RX3, .code yX3_counted cX3_counted 2 (some .int), .fieldLink RX3 32 "Castdesk" "countedFrames" "[I", .methodLink RX3 170 yX3_checkSponsor, .static yX3_checkSponsor, .code yX3_checkSponsor cX3_checkSponsor 1 none, .classLink RX3 180 "java/lang/IndexOutOfBoundsException", .initialized "java/lang/IndexOutOfBoundsException"] ++ wsX30 ++ (vx_atS RX3 184 "java/lang/IndexOutOfBoundsException" ["java/lang/RuntimeException", "java/lang/Exception"]).filter goodWord)
def wsL_countedAnew : List Cond := .codeWith yL_countedAnew cL_countedAnew 4 (some .int) [(0, 9, 12, 13)] :: ([.classLink RL 13 "java/lang/IndexOutOfBoundsException", .methodLink RL 72 yX3_countedAnew, .instanceMethod yX3_countedAnew, .selects RX3 yX3_countedAnew yX3_countedAnew, .initialized RX3, .code yX3_countedAnew cX3_countedAnew 4 (some .int), .fieldLink RX3 85 "Castdesk" "now" "I", .fieldLink RX3 51 "Castdesk" "shownSponsor" "[I", .methodLink RX3 170 yX3_checkSponsor, .static yX3_checkSponsor, .code yX3_checkSponsor cX3_checkSponsor 1 none, .classLink RX3 180 "java/lang/IndexOutOfBoundsException", .initialized "java/lang/IndexOutOfBoundsException"] ++ wsX30 ++ (vx_atS RX3 184 "java/lang/IndexOutOfBoundsException" ["java/lang/RuntimeException", "java/lang/Exception"]).filter goodWord)
def wsL_owed : List Cond := .codeWith yL_owed cL_owed 4 (some .int) [(0, 9, 12, 13)] :: ([.classLink RL 13 "java/lang/IndexOutOfBoundsException", .methodLink RL 75 yX3_owed, .instanceMethod yX3_owed, .selects RX3 yX3_owed yX3_owed, .initialized RX3, .code yX3_owed cX3_owed 2 (some .int), .methodLink RX3 170 yX3_checkSponsor, .static yX3_checkSponsor, .code yX3_checkSponsor cX3_checkSponsor 1 none, .classLink RX3 180 "java/lang/IndexOutOfBoundsException", .initialized "java/lang/IndexOutOfBoundsException", .methodLink RX3 206 yX3_owedTo, .instanceMethod yX3_owedTo, .selects RX3 yX3_owedTo yX3_owedTo, .code yX3_owedTo cX3_owedTo 2 (some .int), .fieldLink RX3 29 "Castdesk" "promised" "[I", .fieldLink RX3 32 "Castdesk" "countedFrames" "[I", .methodLink RX3 285 Lib.Math.max.name, .static Lib.Math.max.name, .initialized "java/lang/Math", .code Lib.Math.max.name Lib.Math.max.code 2 (some .int)] ++ wsX30 ++ (vx_atS RX3 184 "java/lang/IndexOutOfBoundsException" ["java/lang/RuntimeException", "java/lang/Exception"]).filter goodWord)
def wsL_leader : List Cond := .codeWith yL_leader cL_leader 4 (some .int) [(0, 9, 12, 13)] :: ([.classLink RL 13 "java/lang/IndexOutOfBoundsException", .methodLink RL 78 yX3_leader, .instanceMethod yX3_leader, .selects RX3 yX3_leader yX3_leader, .initialized RX3, .code yX3_leader cX3_leader 3 (some .int), .classLink RX3 180 "java/lang/IndexOutOfBoundsException", .initialized "java/lang/IndexOutOfBoundsException", .methodLink RX3 212 yX3_placeOf, .instanceMethod yX3_placeOf, .selects RX3 yX3_placeOf yX3_placeOf, .code yX3_placeOf cX3_placeOf 4 (some .int), .fieldLink RX3 13 "Castdesk" "wins" "[I"] ++ wsX30 ++ (vx_atS RX3 184 "java/lang/IndexOutOfBoundsException" ["java/lang/RuntimeException", "java/lang/Exception"]).filter goodWord)
def wsL_law0_r1 : List Cond := [Cond.classLink RL 8 RX3, Cond.instantiable RX3 15, Cond.initialized RX3, Cond.classLink RL 82 RX4, Cond.instantiable RX4 29, Cond.initialized RX4, Cond.arrayClass .long, Cond.methodLink RL 81 yX3_init, Cond.instanceMethod yX3_init, Cond.code yX3_init cX3_init 1 none, Cond.methodLink RX3 1 objectInit, Cond.instanceMethod objectInit, Cond.code objectInit ⟨#[0xb1]⟩ 1 none, Cond.arrayClass .int, Cond.fieldLink RX3 9 "Castdesk" "ranks" "[I", Cond.fieldLink RX3 13 "Castdesk" "wins" "[I", Cond.classLink RX3 16 RJx4a65c, Cond.instantiable RJx4a65c 3, Cond.initialized RJx4a65c, Cond.fieldLink RX3 19 "Castdesk" "fights" "Ljava/util/ArrayList;", Cond.fieldLink RX3 23 "Castdesk" "cameras" "Ljava/util/ArrayList;", Cond.fieldLink RX3 26 "Castdesk" "entries" "Ljava/util/ArrayList;", Cond.fieldLink RX3 29 "Castdesk" "promised" "[I", Cond.fieldLink RX3 32 "Castdesk" "countedFrames" "[I"]
def wsL_law0_r2 : List Cond := [Cond.fieldLink RX3 35 "Castdesk" "slotPlayers" "[I", Cond.fieldLink RX3 38 "Castdesk" "delayFrames" "I", Cond.fieldLink RX3 42 "Castdesk" "seenUpTo" "I", Cond.fieldLink RX3 45 "Castdesk" "shownFight" "[I", Cond.fieldLink RX3 48 "Castdesk" "shownCamera" "[I", Cond.fieldLink RX3 51 "Castdesk" "shownSponsor" "[I", Cond.methodLink RX3 18 yJx4a65c_init_da8c8, Cond.instanceMethod yJx4a65c_init_da8c8, Cond.code yJx4a65c_init_da8c8 cJx4a65c_init_da8c8 1 none, Cond.fieldLink RJx4a65c 39 "java/util/ArrayList" "DEFAULTCAPACITY_EMPTY_ELEMENTDATA" "[Ljava/lang/Object;", Cond.fieldLink RJx4a65c 9 "java/util/ArrayList" "elementData" "[Ljava/lang/Object;", Cond.methodLink RJx4a65c 1 yJxc12de_init_da8c8, Cond.instanceMethod yJxc12de_init_da8c8, Cond.initialized RJxc12de, Cond.code yJxc12de_init_da8c8 cJxc12de_init_da8c8 1 none, Cond.fieldLink RJxc12de 7 "java/util/AbstractList" "modCount" "I", Cond.methodLink RJxc12de 1 yJxa1e45_init_da8c8, Cond.instanceMethod yJxa1e45_init_da8c8, Cond.initialized RJxa1e45, Cond.code yJxa1e45_init_da8c8 cJxa1e45_init_da8c8 1 none, Cond.methodLink RJxa1e45 1 objectInit, Cond.methodLink RL 84 yX4_init, Cond.instanceMethod yX4_init, Cond.code yX4_init cX4_init 1 none]
def wsL_law0_r3 : List Cond := [Cond.methodLink RX4 1 objectInit, Cond.fieldLink RX4 7 "CastdeskModel" "delay" "I", Cond.fieldLink RX4 13 "CastdeskModel" "seen" "I", Cond.fieldLink RX4 16 "CastdeskModel" "ranks" "[I", Cond.fieldLink RX4 20 "CastdeskModel" "state" "[I", Cond.fieldLink RX4 23 "CastdeskModel" "first" "[I", Cond.fieldLink RX4 26 "CastdeskModel" "second" "[I", Cond.fieldLink RX4 29 "CastdeskModel" "winner" "[I", Cond.fieldLink RX4 32 "CastdeskModel" "stamina" "[I", Cond.fieldLink RX4 35 "CastdeskModel" "rest" "[I", Cond.fieldLink RX4 38 "CastdeskModel" "inRow" "[I", Cond.fieldLink RX4 41 "CastdeskModel" "off" "[I", Cond.fieldLink RX4 44 "CastdeskModel" "onAir" "I", Cond.fieldLink RX4 47 "CastdeskModel" "before" "I", Cond.fieldLink RX4 50 "CastdeskModel" "fightIn" "[I", Cond.fieldLink RX4 53 "CastdeskModel" "cameraIn" "[I", Cond.fieldLink RX4 56 "CastdeskModel" "sponsorIn" "[I", Cond.fieldLink RX4 59 "CastdeskModel" "of" "[I", Cond.fieldLink RX4 62 "CastdeskModel" "by" "[I", Cond.fieldLink RX4 65 "CastdeskModel" "points" "[I", Cond.fieldLink RX4 68 "CastdeskModel" "at" "[I", Cond.arrayClass .boolean, Cond.fieldLink RX4 71 "CastdeskModel" "isStruck" "[Z", Cond.fieldLink RX4 75 "CastdeskModel" "promises" "[I"]
def wsL_law0_r4 : List Cond := [Cond.fieldLink RX4 78 "CastdeskModel" "hasSlot" "[Z", Cond.methodLink RL 85 yL_rank, Cond.static yL_rank, Cond.initialized RL, Cond.codeWith yL_rank cL_rank 5 (some .int) [(0, 10, 13, 13), (0, 10, 17, 15)], Cond.classLink RL 13 "java/lang/IndexOutOfBoundsException", Cond.classLink RL 15 "java/lang/IllegalArgumentException", Cond.methodLink RL 7 yX3_rank, Cond.instanceMethod yX3_rank, Cond.selects RX3 yX3_rank yX3_rank, Cond.code yX3_rank cX3_rank 4 (some .int), Cond.methodLink RX3 54 yX3_checkPlayer, Cond.static yX3_checkPlayer, Cond.code yX3_checkPlayer cX3_checkPlayer 1 none, Cond.classLink RX3 180 "java/lang/IndexOutOfBoundsException", Cond.initialized "java/lang/IndexOutOfBoundsException", Cond.methodLink RX3 58 yX3_checkRange, Cond.static yX3_checkRange, Cond.code yX3_checkRange cX3_checkRange 3 none, Cond.classLink RX3 62 "java/lang/IllegalArgumentException", Cond.initialized "java/lang/IllegalArgumentException", Cond.methodLink RL 90 yX4_rank, Cond.instanceMethod yX4_rank, Cond.selects RX4 yX4_rank yX4_rank]
def wsL_law0_r5 : List Cond := [Cond.code yX4_rank cX4_rank 4 (some .int), Cond.methodLink RX4 91 yX4_isPlayer, Cond.static yX4_isPlayer, Cond.code yX4_isPlayer cX4_isPlayer 1 (some .boolean), Cond.methodLink RX4 84 yX4_in, Cond.static yX4_in, Cond.code yX4_in cX4_in 3 (some .boolean), Cond.methodLink RX4 95 yX4_refused, Cond.instanceMethod yX4_refused, Cond.selects RX4 yX4_refused yX4_refused, Cond.code yX4_refused cX4_refused 2 (some .boolean), Cond.fieldLink RX4 81 "CastdeskModel" "thrown" "I", Cond.methodLink RL 91 yX4_thrown, Cond.instanceMethod yX4_thrown, Cond.selects RX4 yX4_thrown yX4_thrown, Cond.code yX4_thrown cX4_thrown 1 (some .int), Cond.methodLink RL 95 yL_fight, Cond.static yL_fight, Cond.codeWith yL_fight cL_fight 5 (some .int) [(0, 10, 13, 13), (0, 10, 17, 15), (0, 10, 21, 20)], Cond.classLink RL 20 "java/lang/IllegalStateException", Cond.methodLink RL 17 yX3_fight, Cond.instanceMethod yX3_fight, Cond.selects RX3 yX3_fight yX3_fight, Cond.code yX3_fight cX3_fight 3 (some .int)]
def wsL_law0_r6 : List Cond := [Cond.methodLink RX3 69 yX3_checkCanBegin, Cond.instanceMethod yX3_checkCanBegin, Cond.selects RX3 yX3_checkCanBegin yX3_checkCanBegin, Cond.code yX3_checkCanBegin cX3_checkCanBegin 5 none, Cond.classLink RX3 106 "java/lang/IllegalStateException", Cond.initialized "java/lang/IllegalStateException", Cond.classLink RX3 89 "Castdesk$Fight", Cond.fieldLink RX3 100 "Castdesk$Fight" "state" "I", Cond.methodLink RX3 117 yJx4a65c_size_8abf5, Cond.instanceMethod yJx4a65c_size_8abf5, Cond.selects RJx4a65c yJx4a65c_size_8abf5 yJx4a65c_size_8abf5, Cond.code yJx4a65c_size_8abf5 cJx4a65c_size_8abf5 1 (some .int), Cond.fieldLink RJx4a65c 48 "java/util/ArrayList" "size" "I", Cond.methodLink RX3 194 yJx4a65c_get_915e3, Cond.instanceMethod yJx4a65c_get_915e3, Cond.selects RJx4a65c yJx4a65c_get_915e3 yJx4a65c_get_915e3, Cond.code yJx4a65c_get_915e3 cJx4a65c_get_915e3 2 (some (.object "java/lang/Object")), Cond.methodLink RJx4a65c 118 yJ15_checkIndex_7cf53, Cond.static yJ15_checkIndex_7cf53, Cond.initialized RJ15, Cond.code yJ15_checkIndex_7cf53 cJ15_checkIndex_7cf53 2 (some .int), Cond.methodLink RJ15 105 yJ3_checkIndex_8e157, Cond.static yJ3_checkIndex_8e157, Cond.initialized RJ3]
def wsL_law0_r7 : List Cond := [Cond.code yJ3_checkIndex_8e157 cJ3_checkIndex_8e157 3 (some .int), Cond.methodLink RJx4a65c 123 yJx4a65c_elementData_915e3, Cond.instanceMethod yJx4a65c_elementData_915e3, Cond.selects RJx4a65c yJx4a65c_elementData_915e3 yJx4a65c_elementData_915e3, Cond.code yJx4a65c_elementData_915e3 cJx4a65c_elementData_915e3 2 (some (.object "java/lang/Object")), Cond.methodLink RX3 139 yX2_isOf, Cond.instanceMethod yX2_isOf, Cond.selects RX2 yX2_isOf yX2_isOf, Cond.initialized RX2, Cond.code yX2_isOf cX2_isOf 2 (some .boolean), Cond.fieldLink RX2 15 "Castdesk$Fight" "first" "I", Cond.fieldLink RX2 18 "Castdesk$Fight" "second" "I", Cond.methodLink RX3 73 yX3_begin, Cond.instanceMethod yX3_begin, Cond.selects RX3 yX3_begin yX3_begin, Cond.code yX3_begin cX3_begin 4 (some .int), Cond.classLink RX3 89 RX2, Cond.instantiable RX2 7, Cond.methodLink RX3 237 yX2_init, Cond.instanceMethod yX2_init, Cond.code yX2_init cX2_init 4 none, Cond.methodLink RX2 3 objectInit, Cond.fieldLink RX2 9 "Castdesk$Fight" "number" "I", Cond.fieldLink RX2 21 "Castdesk$Fight" "state" "I"]
def wsL_law0_r8 : List Cond := [Cond.fieldLink RX2 24 "Castdesk$Fight" "winner" "I", Cond.methodLink RX3 127 yJx4a65c_add_9ea2d, Cond.instanceMethod yJx4a65c_add_9ea2d, Cond.selects RJx4a65c yJx4a65c_add_9ea2d yJx4a65c_add_9ea2d, Cond.code yJx4a65c_add_9ea2d cJx4a65c_add_9ea2d 2 (some .boolean), Cond.fieldLink RJx4a65c 63 "java/util/ArrayList" "modCount" "I", Cond.sameField "java/util/ArrayList" "java/util/AbstractList" "modCount" "I", Cond.methodLink RJx4a65c 131 yJx4a65c_add_72be8, Cond.instanceMethod yJx4a65c_add_72be8, Cond.selects RJx4a65c yJx4a65c_add_72be8 yJx4a65c_add_72be8, Cond.code yJx4a65c_add_72be8 cJx4a65c_add_72be8 4 none, Cond.methodLink RJx4a65c 129 yJx4a65c_grow_d5877, Cond.instanceMethod yJx4a65c_grow_d5877, Cond.selects RJx4a65c yJx4a65c_grow_d5877 yJx4a65c_grow_d5877, Cond.code yJx4a65c_grow_d5877 cJx4a65c_grow_d5877 1 (some (.array (.object "java/lang/Object"))), Cond.methodLink RJx4a65c 69 yJx4a65c_grow_92f84, Cond.instanceMethod yJx4a65c_grow_92f84, Cond.selects RJx4a65c yJx4a65c_grow_92f84 yJx4a65c_grow_92f84, Cond.code yJx4a65c_grow_92f84 cJx4a65c_grow_92f84 4 (some (.array (.object "java/lang/Object"))), Cond.methodLink RJx4a65c 79 Lib.Math.max.name, Cond.static Lib.Math.max.name, Cond.initialized "java/lang/Math", Cond.code Lib.Math.max.name Lib.Math.max.code 2 (some .int), Cond.classLink RJx4a65c 7 "java/lang/Object"]
def wsL_law0_r9 : List Cond := [Cond.methodLink RJx4a65c 73 yJ8_newLength_cabcc, Cond.static yJ8_newLength_cabcc, Cond.initialized RJ8, Cond.code yJ8_newLength_cabcc cJ8_newLength_cabcc 4 (some .int), Cond.methodLink RJ8 194 Lib.Math.max.name, Cond.constant RJ8 200 (2147483639), Cond.methodLink RJ8 201 yJ8_hugeLength_7cf53, Cond.static yJ8_hugeLength_7cf53, Cond.code yJ8_hugeLength_7cf53 cJ8_hugeLength_7cf53 3 (some .int), Cond.methodLink RJx4a65c 66 yJ7_copyOf_1904c, Cond.static yJ7_copyOf_1904c, Cond.initialized RJ7, Cond.code yJ7_copyOf_1904c cJ7_copyOf_1904c 2 (some (.array (.object "java/lang/Object"))), Cond.methodLink RJ7 86 ⟨"java/lang/Object", "getClass", "()Ljava/lang/Class;"⟩, Cond.selects "[Ljava/lang/Object;" ⟨"java/lang/Object", "getClass", "()Ljava/lang/Class;"⟩ ⟨"java/lang/Object", "getClass", "()Ljava/lang/Class;"⟩, Cond.instanceMethod ⟨"java/lang/Object", "getClass", "()Ljava/lang/Class;"⟩, Cond.native ⟨"java/lang/Object", "getClass", "()Ljava/lang/Class;"⟩, Cond.methodLink RJ7 300 yJ7_copyOf_6403c, Cond.static yJ7_copyOf_6403c, Cond.code yJ7_copyOf_6403c cJ7_copyOf_6403c 4 (some (.array (.object "java/lang/Object"))), Cond.classLink RJ7 110 "[Ljava/lang/Object;", Cond.classLink RJ7 2 "java/lang/Object", Cond.methodLink RJ7 304 Lib.Math.min.name, Cond.static Lib.Math.min.name]
def wsL_law0_r10 : List Cond := [Cond.code Lib.Math.min.name Lib.Math.min.code 2 (some .int), Cond.methodLink RJ7 150 arraycopyName, Cond.native arraycopyName, Cond.static arraycopyName, Cond.initialized "java/lang/System", Cond.methodLink RL 97 yX4_fight, Cond.instanceMethod yX4_fight, Cond.selects RX4 yX4_fight yX4_fight, Cond.code yX4_fight cX4_fight 4 (some .int), Cond.fieldLink RX4 88 "CastdeskModel" "fights" "I", Cond.methodLink RX4 98 yX4_isBusy, Cond.instanceMethod yX4_isBusy, Cond.selects RX4 yX4_isBusy yX4_isBusy, Cond.code yX4_isBusy cX4_isBusy 4 (some .boolean), Cond.methodLink RX4 101 yX4_begin, Cond.instanceMethod yX4_begin, Cond.selects RX4 yX4_begin yX4_begin, Cond.code yX4_begin cX4_begin 3 (some .int), Cond.methodLink RL 98 yL_end, Cond.static yL_end, Cond.codeWith yL_end cL_end 4 (some .int) [(0, 9, 12, 13), (0, 9, 15, 20)], Cond.methodLink RL 22 yX3_end, Cond.instanceMethod yX3_end, Cond.selects RX3 yX3_end yX3_end]
def wsL_law0_r11 : List Cond := [Cond.code yX3_end cX3_end 5 (some .int), Cond.fieldLink RX3 85 "Castdesk" "now" "I", Cond.fieldLink RX3 88 "Castdesk$Fight" "first" "I", Cond.fieldLink RX3 97 "Castdesk$Fight" "second" "I", Cond.fieldLink RX3 103 "Castdesk$Fight" "winner" "I", Cond.methodLink RX3 77 yX3_fightNumbered, Cond.instanceMethod yX3_fightNumbered, Cond.selects RX3 yX3_fightNumbered yX3_fightNumbered, Cond.code yX3_fightNumbered cX3_fightNumbered 2 (some (.object "Castdesk$Fight")), Cond.methodLink RX3 81 yX3_checkGoesOn, Cond.static yX3_checkGoesOn, Cond.code yX3_checkGoesOn cX3_checkGoesOn 1 none, Cond.methodLink RX3 93 yX3_pointsUpTo, Cond.instanceMethod yX3_pointsUpTo, Cond.selects RX3 yX3_pointsUpTo yX3_pointsUpTo, Cond.code yX3_pointsUpTo cX3_pointsUpTo 7 (some .int), Cond.classLink RX3 150 "Castdesk$Entry", Cond.fieldLink RX3 239 "Castdesk$Entry" "fight" "LCastdesk$Fight;", Cond.fieldLink RX3 243 "Castdesk$Entry" "player" "I", Cond.fieldLink RX3 246 "Castdesk$Entry" "frame" "I", Cond.fieldLink RX3 163 "Castdesk$Entry" "struck" "Z", Cond.fieldLink RX3 167 "Castdesk$Entry" "points" "I", Cond.methodLink RL 101 yX4_end, Cond.instanceMethod yX4_end]
def wsL_law0_r12 : List Cond := [Cond.selects RX4 yX4_end yX4_end, Cond.code yX4_end cX4_end 4 (some .int), Cond.methodLink RX4 105 yX4_isFight, Cond.instanceMethod yX4_isFight, Cond.selects RX4 yX4_isFight yX4_isFight, Cond.code yX4_isFight cX4_isFight 2 (some .boolean), Cond.methodLink RX4 108 yX4_pointsOf, Cond.instanceMethod yX4_pointsOf, Cond.selects RX4 yX4_pointsOf yX4_pointsOf, Cond.code yX4_pointsOf cX4_pointsOf 6 (some .int), Cond.fieldLink RX4 112 "CastdeskModel" "entries" "I", Cond.methodLink RL 102 yL_replay, Cond.static yL_replay, Cond.codeWith yL_replay cL_replay 4 (some .int) [(0, 9, 12, 13), (0, 9, 15, 20)], Cond.methodLink RL 26 yX3_replay, Cond.instanceMethod yX3_replay, Cond.selects RX3 yX3_replay yX3_replay, Cond.code yX3_replay cX3_replay 3 (some .int), Cond.methodLink RX3 111 yX3_strikeAllOf, Cond.instanceMethod yX3_strikeAllOf, Cond.selects RX3 yX3_strikeAllOf yX3_strikeAllOf, Cond.code yX3_strikeAllOf cX3_strikeAllOf 4 none, Cond.methodLink RX3 114 yX3_uncountFramesOf, Cond.instanceMethod yX3_uncountFramesOf]
def wsL_law0_r13 : List Cond := [Cond.selects RX3 yX3_uncountFramesOf yX3_uncountFramesOf, Cond.code yX3_uncountFramesOf cX3_uncountFramesOf 4 none, Cond.fieldLink RX3 249 "Castdesk$Fight" "number" "I", Cond.methodLink RL 104 yX4_replay, Cond.instanceMethod yX4_replay, Cond.selects RX4 yX4_replay yX4_replay, Cond.code yX4_replay cX4_replay 4 (some .int), Cond.fieldLink RX4 115 "CastdeskModel" "now" "I", Cond.methodLink RL 105 yL_camera, Cond.static yL_camera, Cond.codeWith yL_camera cL_camera 5 (some .int) [(0, 10, 13, 15), (0, 10, 17, 20)], Cond.methodLink RL 29 yX3_camera, Cond.instanceMethod yX3_camera, Cond.selects RX3 yX3_camera yX3_camera, Cond.code yX3_camera cX3_camera 3 (some .int), Cond.classLink RX3 123 RX0, Cond.instantiable RX0 4, Cond.initialized RX0, Cond.methodLink RX3 125 yX0_init, Cond.instanceMethod yX0_init, Cond.code yX0_init cX0_init 3 none, Cond.methodLink RX0 1 objectInit, Cond.fieldLink RX0 7 "Castdesk$Camera" "stamina" "I", Cond.fieldLink RX0 13 "Castdesk$Camera" "rest" "I"]
def wsL_law0_r14 : List Cond := [Cond.methodLink RL 107 yX4_camera, Cond.instanceMethod yX4_camera, Cond.selects RX4 yX4_camera yX4_camera, Cond.code yX4_camera cX4_camera 3 (some .int), Cond.fieldLink RX4 118 "CastdeskModel" "cameras" "I", Cond.methodLink RL 108 yL_delay, Cond.static yL_delay, Cond.codeWith yL_delay cL_delay 4 (some .int) [(0, 9, 12, 15)], Cond.methodLink RL 32 yX3_delay, Cond.instanceMethod yX3_delay, Cond.selects RX3 yX3_delay yX3_delay, Cond.code yX3_delay cX3_delay 3 (some .int), Cond.methodLink RX3 131 yX3_letViewersSee, Cond.instanceMethod yX3_letViewersSee, Cond.selects RX3 yX3_letViewersSee yX3_letViewersSee, Cond.code yX3_letViewersSee cX3_letViewersSee 1 none, Cond.methodLink RX3 285 Lib.Math.max.name, Cond.methodLink RL 110 yX4_delay, Cond.instanceMethod yX4_delay, Cond.selects RX4 yX4_delay yX4_delay, Cond.code yX4_delay cX4_delay 3 (some .int), Cond.methodLink RX4 121 yX4_see, Cond.instanceMethod yX4_see, Cond.selects RX4 yX4_see yX4_see]
def wsL_law0_r15 : List Cond := [Cond.code yX4_see cX4_see 1 none, Cond.methodLink RL 111 yL_pass, Cond.static yL_pass, Cond.codeWith yL_pass cL_pass 4 (some .int) [(0, 9, 12, 15), (0, 9, 15, 20)], Cond.methodLink RL 35 yX3_pass, Cond.instanceMethod yX3_pass, Cond.selects RX3 yX3_pass yX3_pass, Cond.code yX3_pass cX3_pass 3 (some .int), Cond.methodLink RX3 136 yX3_passOne, Cond.instanceMethod yX3_passOne, Cond.selects RX3 yX3_passOne yX3_passOne, Cond.code yX3_passOne cX3_passOne 4 none, Cond.methodLink RX3 252 yX3_hottestFight, Cond.instanceMethod yX3_hottestFight, Cond.selects RX3 yX3_hottestFight yX3_hottestFight, Cond.code yX3_hottestFight cX3_hottestFight 7 (some (.object "Castdesk$Fight")), Cond.methodLink RX3 268 yX3_ofFrameAhead, Cond.instanceMethod yX3_ofFrameAhead, Cond.selects RX3 yX3_ofFrameAhead yX3_ofFrameAhead, Cond.code yX3_ofFrameAhead cX3_ofFrameAhead 2 (some .int), Cond.methodLink RX3 272 yX3_heatOf, Cond.instanceMethod yX3_heatOf, Cond.selects RX3 yX3_heatOf yX3_heatOf, Cond.code yX3_heatOf cX3_heatOf 2 (some .int)]
def wsL_law0_r16 : List Cond := [Cond.methodLink RX3 276 yX2_heatOfBlows, Cond.instanceMethod yX2_heatOfBlows, Cond.selects RX2 yX2_heatOfBlows yX2_heatOfBlows, Cond.code yX2_heatOfBlows cX2_heatOfBlows 1 (some .int), Cond.fieldLink RX2 27 "Castdesk$Fight" "blowFrames" "I", Cond.methodLink RX2 30 yJ6_bitCount_0f7a4, Cond.static yJ6_bitCount_0f7a4, Cond.initialized RJ6, Cond.code yJ6_bitCount_0f7a4 cJ6_bitCount_0f7a4 1 (some .int), Cond.constant RJ6 265 (1431655765), Cond.constant RJ6 266 (858993459), Cond.constant RJ6 267 (252645135), Cond.methodLink RX3 256 yX3_cameraForAir, Cond.instanceMethod yX3_cameraForAir, Cond.selects RX3 yX3_cameraForAir yX3_cameraForAir, Cond.code yX3_cameraForAir cX3_cameraForAir 3 (some .int), Cond.methodLink RX3 279 yX3_canBeOnAir, Cond.instanceMethod yX3_canBeOnAir, Cond.selects RX3 yX3_canBeOnAir yX3_canBeOnAir, Cond.code yX3_canBeOnAir cX3_canBeOnAir 2 (some .boolean), Cond.classLink RX3 123 "Castdesk$Camera", Cond.fieldLink RX3 201 "Castdesk$Camera" "toBeOff" "I", Cond.methodLink RX3 259 yX3_showFight, Cond.instanceMethod yX3_showFight]
def wsL_law0_r17 : List Cond := [Cond.selects RX3 yX3_showFight yX3_showFight, Cond.code yX3_showFight cX3_showFight 3 none, Cond.fieldLink RX3 187 "Castdesk$Fight" "framesShown" "I", Cond.methodLink RX3 282 yX3_sponsorOwedMost, Cond.instanceMethod yX3_sponsorOwedMost, Cond.selects RX3 yX3_sponsorOwedMost yX3_sponsorOwedMost, Cond.code yX3_sponsorOwedMost cX3_sponsorOwedMost 6 (some .int), Cond.methodLink RX3 206 yX3_owedTo, Cond.instanceMethod yX3_owedTo, Cond.selects RX3 yX3_owedTo yX3_owedTo, Cond.code yX3_owedTo cX3_owedTo 2 (some .int), Cond.methodLink RX3 262 yX3_letCamerasPass, Cond.instanceMethod yX3_letCamerasPass, Cond.selects RX3 yX3_letCamerasPass yX3_letCamerasPass, Cond.code yX3_letCamerasPass cX3_letCamerasPass 4 none, Cond.methodLink RX3 290 yX0_passOnAir, Cond.instanceMethod yX0_passOnAir, Cond.selects RX0 yX0_passOnAir yX0_passOnAir, Cond.code yX0_passOnAir cX0_passOnAir 1 none, Cond.fieldLink RX0 16 "Castdesk$Camera" "onAir" "I", Cond.methodLink RX0 19 Lib.Math.max.name, Cond.fieldLink RX0 25 "Castdesk$Camera" "toBeOff" "I", Cond.methodLink RX3 293 yX0_passOff, Cond.instanceMethod yX0_passOff]
def wsL_law0_r18 : List Cond := [Cond.selects RX0 yX0_passOff yX0_passOff, Cond.code yX0_passOff cX0_passOff 1 none, Cond.methodLink RX3 265 yX2_letFramePass, Cond.instanceMethod yX2_letFramePass, Cond.selects RX2 yX2_letFramePass yX2_letFramePass, Cond.code yX2_letFramePass cX2_letFramePass 1 none, Cond.methodLink RL 113 yX4_pass, Cond.instanceMethod yX4_pass, Cond.selects RX4 yX4_pass yX4_pass, Cond.code yX4_pass cX4_pass 3 (some .int), Cond.methodLink RX4 141 yX4_passes, Cond.instanceMethod yX4_passes, Cond.selects RX4 yX4_passes yX4_passes, Cond.code yX4_passes cX4_passes 4 none, Cond.methodLink RX4 131 yX4_hottest, Cond.instanceMethod yX4_hottest, Cond.selects RX4 yX4_hottest yX4_hottest, Cond.code yX4_hottest cX4_hottest 4 (some .int), Cond.methodLink RX4 124 yX4_heat, Cond.instanceMethod yX4_heat, Cond.selects RX4 yX4_heat yX4_heat, Cond.code yX4_heat cX4_heat 6 (some .int), Cond.methodLink RX4 135 yX4_chosen, Cond.instanceMethod yX4_chosen]
def wsL_law0_r19 : List Cond := [Cond.selects RX4 yX4_chosen yX4_chosen, Cond.code yX4_chosen cX4_chosen 3 (some .int), Cond.methodLink RX4 138 yX4_sponsorFor, Cond.instanceMethod yX4_sponsorFor, Cond.selects RX4 yX4_sponsorFor yX4_sponsorFor, Cond.code yX4_sponsorFor cX4_sponsorFor 5 (some .int), Cond.methodLink RX4 128 yX4_owedTo, Cond.instanceMethod yX4_owedTo, Cond.selects RX4 yX4_owedTo yX4_owedTo, Cond.code yX4_owedTo cX4_owedTo 3 (some .int), Cond.methodLink RX4 156 yX4_countedFor, Cond.instanceMethod yX4_countedFor, Cond.selects RX4 yX4_countedFor yX4_countedFor, Cond.code yX4_countedFor cX4_countedFor 4 (some .int), Cond.methodLink RL 114 yL_blow, Cond.static yL_blow, Cond.codeWith yL_blow cL_blow 6 (some .int) [(0, 12, 15, 13), (0, 12, 19, 15), (0, 12, 23, 20)], Cond.methodLink RL 38 yX3_blow, Cond.instanceMethod yX3_blow, Cond.selects RX3 yX3_blow yX3_blow, Cond.code yX3_blow cX3_blow 5 (some .int), Cond.classLink RX3 150 RX1, Cond.instantiable RX1 5, Cond.initialized RX1]
def wsL_law0_r20 : List Cond := [Cond.methodLink RX3 147 yX2_heatUp, Cond.instanceMethod yX2_heatUp, Cond.selects RX2 yX2_heatUp yX2_heatUp, Cond.code yX2_heatUp cX2_heatUp 1 none, Cond.methodLink RX3 152 yX1_init, Cond.instanceMethod yX1_init, Cond.code yX1_init cX1_init 5 none, Cond.methodLink RX1 3 objectInit, Cond.fieldLink RX1 9 "Castdesk$Entry" "fight" "LCastdesk$Fight;", Cond.fieldLink RX1 15 "Castdesk$Entry" "player" "I", Cond.fieldLink RX1 19 "Castdesk$Entry" "frame" "I", Cond.fieldLink RX1 22 "Castdesk$Entry" "points" "I", Cond.methodLink RL 117 yX4_blow, Cond.instanceMethod yX4_blow, Cond.selects RX4 yX4_blow yX4_blow, Cond.code yX4_blow cX4_blow 6 (some .int), Cond.methodLink RL 118 yL_strike, Cond.static yL_strike, Cond.codeWith yL_strike cL_strike 4 (some .int) [(0, 9, 12, 13), (0, 9, 15, 20)], Cond.methodLink RL 42 yX3_strike, Cond.instanceMethod yX3_strike, Cond.selects RX3 yX3_strike yX3_strike, Cond.code yX3_strike cX3_strike 3 (some .int), Cond.methodLink RX3 155 yX3_entryNumbered]
def wsL_law0_r21 : List Cond := [Cond.instanceMethod yX3_entryNumbered, Cond.selects RX3 yX3_entryNumbered yX3_entryNumbered, Cond.code yX3_entryNumbered cX3_entryNumbered 2 (some (.object "Castdesk$Entry")), Cond.methodLink RX3 159 yX3_checkCanBeCorrected, Cond.static yX3_checkCanBeCorrected, Cond.code yX3_checkCanBeCorrected cX3_checkCanBeCorrected 1 none, Cond.methodLink RX3 223 yX1_canBeCorrected, Cond.instanceMethod yX1_canBeCorrected, Cond.selects RX1 yX1_canBeCorrected yX1_canBeCorrected, Cond.code yX1_canBeCorrected cX1_canBeCorrected 1 (some .boolean), Cond.fieldLink RX1 25 "Castdesk$Entry" "struck" "Z", Cond.fieldLink RX1 29 "Castdesk$Fight" "state" "I", Cond.methodLink RL 120 yX4_strike, Cond.instanceMethod yX4_strike, Cond.selects RX4 yX4_strike yX4_strike, Cond.code yX4_strike cX4_strike 3 (some .int), Cond.methodLink RX4 144 yX4_isEntry, Cond.instanceMethod yX4_isEntry, Cond.selects RX4 yX4_isEntry yX4_isEntry, Cond.code yX4_isEntry cX4_isEntry 2 (some .boolean), Cond.methodLink RX4 147 yX4_isFixed, Cond.instanceMethod yX4_isFixed, Cond.selects RX4 yX4_isFixed yX4_isFixed, Cond.code yX4_isFixed cX4_isFixed 2 (some .boolean)]
def wsL_law0_r22 : List Cond := [Cond.methodLink RL 121 yL_mend, Cond.static yL_mend, Cond.codeWith yL_mend cL_mend 5 (some .int) [(0, 10, 13, 13), (0, 10, 17, 15), (0, 10, 21, 20)], Cond.methodLink RL 45 yX3_mend, Cond.instanceMethod yX3_mend, Cond.selects RX3 yX3_mend yX3_mend, Cond.code yX3_mend cX3_mend 5 (some .int), Cond.methodLink RL 123 yX4_mend, Cond.instanceMethod yX4_mend, Cond.selects RX4 yX4_mend yX4_mend, Cond.code yX4_mend cX4_mend 5 (some .int), Cond.methodLink RL 124 yL_promise, Cond.static yL_promise, Cond.codeWith yL_promise cL_promise 5 (some .int) [(0, 10, 13, 13), (0, 10, 17, 15)], Cond.methodLink RL 48 yX3_promise, Cond.instanceMethod yX3_promise, Cond.selects RX3 yX3_promise yX3_promise, Cond.code yX3_promise cX3_promise 4 (some .int), Cond.methodLink RX3 170 yX3_checkSponsor, Cond.static yX3_checkSponsor, Cond.code yX3_checkSponsor cX3_checkSponsor 1 none, Cond.methodLink RL 126 yX4_promise, Cond.instanceMethod yX4_promise, Cond.selects RX4 yX4_promise yX4_promise]
def wsL_law0_r23 : List Cond := [Cond.code yX4_promise cX4_promise 4 (some .int), Cond.methodLink RX4 150 yX4_isSponsor, Cond.static yX4_isSponsor, Cond.code yX4_isSponsor cX4_isSponsor 1 (some .boolean), Cond.methodLink RL 127 yL_slot, Cond.static yL_slot, Cond.codeWith yL_slot cL_slot 5 (some .int) [(0, 10, 13, 13), (0, 10, 17, 20)], Cond.methodLink RL 51 yX3_slot, Cond.instanceMethod yX3_slot, Cond.selects RX3 yX3_slot yX3_slot, Cond.code yX3_slot cX3_slot 4 (some .int), Cond.fieldLink RX3 175 "Castdesk" "slots" "I", Cond.methodLink RL 129 yX4_slot, Cond.instanceMethod yX4_slot, Cond.selects RX4 yX4_slot yX4_slot, Cond.code yX4_slot cX4_slot 4 (some .int), Cond.fieldLink RX4 153 "CastdeskModel" "slots" "I", Cond.methodLink RL 130 yX3_frame, Cond.instanceMethod yX3_frame, Cond.selects RX3 yX3_frame yX3_frame, Cond.code yX3_frame cX3_frame 1 (some .int), Cond.methodLink RL 133 yX4_frame, Cond.instanceMethod yX4_frame, Cond.selects RX4 yX4_frame yX4_frame]
def wsL_law0_r24 : List Cond := [Cond.code yX4_frame cX4_frame 1 (some .int), Cond.methodLink RL 134 yL_shown, Cond.static yL_shown, Cond.codeWith yL_shown cL_shown 5 (some .int) [(0, 10, 13, 13), (0, 10, 17, 15)], Cond.methodLink RL 54 yX3_shown, Cond.instanceMethod yX3_shown, Cond.selects RX3 yX3_shown yX3_shown, Cond.code yX3_shown cX3_shown 3 (some .int), Cond.methodLink RL 136 yX4_shown, Cond.instanceMethod yX4_shown, Cond.selects RX4 yX4_shown yX4_shown, Cond.code yX4_shown cX4_shown 3 (some .int), Cond.methodLink RL 137 yX3_seen, Cond.instanceMethod yX3_seen, Cond.selects RX3 yX3_seen yX3_seen, Cond.code yX3_seen cX3_seen 1 (some .int), Cond.methodLink RL 140 yX4_seen, Cond.instanceMethod yX4_seen, Cond.selects RX4 yX4_seen yX4_seen, Cond.code yX4_seen cX4_seen 1 (some .int), Cond.methodLink RL 141 yL_points, Cond.static yL_points, Cond.codeWith yL_points cL_points 5 (some .int) [(0, 10, 13, 13)], Cond.methodLink RL 57 yX3_points]
def wsL_law0_r25 : List Cond := [Cond.instanceMethod yX3_points, Cond.selects RX3 yX3_points yX3_points, Cond.code yX3_points cX3_points 4 (some .int), Cond.methodLink RL 143 yX4_points, Cond.instanceMethod yX4_points, Cond.selects RX4 yX4_points yX4_points, Cond.code yX4_points cX4_points 3 (some .int), Cond.methodLink RL 144 yL_overlay, Cond.static yL_overlay, Cond.codeWith yL_overlay cL_overlay 5 (some .int) [(0, 10, 13, 13)], Cond.methodLink RL 60 yX3_overlay, Cond.instanceMethod yX3_overlay, Cond.selects RX3 yX3_overlay yX3_overlay, Cond.code yX3_overlay cX3_overlay 4 (some .int), Cond.methodLink RL 146 yX4_overlay, Cond.instanceMethod yX4_overlay, Cond.selects RX4 yX4_overlay yX4_overlay, Cond.code yX4_overlay cX4_overlay 3 (some .int), Cond.methodLink RL 147 yL_fightOf, Cond.static yL_fightOf, Cond.codeWith yL_fightOf cL_fightOf 5 (some .int) [(0, 10, 13, 13), (0, 10, 17, 15)], Cond.methodLink RL 63 yX3_fightOf, Cond.instanceMethod yX3_fightOf, Cond.selects RX3 yX3_fightOf yX3_fightOf]
def wsL_law0_r26 : List Cond := [Cond.code yX3_fightOf cX3_fightOf 4 (some .int), Cond.methodLink RL 149 yX4_fightOf, Cond.instanceMethod yX4_fightOf, Cond.selects RX4 yX4_fightOf yX4_fightOf, Cond.code yX4_fightOf cX4_fightOf 5 (some .int), Cond.methodLink RL 150 yL_cameraOf, Cond.static yL_cameraOf, Cond.codeWith yL_cameraOf cL_cameraOf 5 (some .int) [(0, 10, 13, 13), (0, 10, 17, 15)], Cond.methodLink RL 66 yX3_cameraOf, Cond.instanceMethod yX3_cameraOf, Cond.selects RX3 yX3_cameraOf yX3_cameraOf, Cond.code yX3_cameraOf cX3_cameraOf 4 (some .int), Cond.fieldLink RX3 198 "Castdesk$Camera" "onAir" "I", Cond.methodLink RL 152 yX4_cameraOf, Cond.instanceMethod yX4_cameraOf, Cond.selects RX4 yX4_cameraOf yX4_cameraOf, Cond.code yX4_cameraOf cX4_cameraOf 3 (some .int), Cond.methodLink RL 153 yL_counted, Cond.static yL_counted, Cond.codeWith yL_counted cL_counted 4 (some .int) [(0, 9, 12, 13)], Cond.methodLink RL 69 yX3_counted, Cond.instanceMethod yX3_counted, Cond.selects RX3 yX3_counted yX3_counted, Cond.code yX3_counted cX3_counted 2 (some .int)]
def wsL_law0_r27 : List Cond := [Cond.methodLink RL 155 yX4_counted, Cond.instanceMethod yX4_counted, Cond.selects RX4 yX4_counted yX4_counted, Cond.code yX4_counted cX4_counted 2 (some .int), Cond.methodLink RL 156 yL_countedAnew, Cond.static yL_countedAnew, Cond.codeWith yL_countedAnew cL_countedAnew 4 (some .int) [(0, 9, 12, 13)], Cond.methodLink RL 72 yX3_countedAnew, Cond.instanceMethod yX3_countedAnew, Cond.selects RX3 yX3_countedAnew yX3_countedAnew, Cond.code yX3_countedAnew cX3_countedAnew 4 (some .int), Cond.methodLink RL 158 yX4_countedAnew, Cond.instanceMethod yX4_countedAnew, Cond.selects RX4 yX4_countedAnew yX4_countedAnew, Cond.code yX4_countedAnew cX4_countedAnew 2 (some .int), Cond.methodLink RX4 159 yX4_counted, Cond.methodLink RL 159 yL_owed, Cond.static yL_owed, Cond.codeWith yL_owed cL_owed 4 (some .int) [(0, 9, 12, 13)], Cond.methodLink RL 75 yX3_owed, Cond.instanceMethod yX3_owed, Cond.selects RX3 yX3_owed yX3_owed, Cond.code yX3_owed cX3_owed 2 (some .int), Cond.methodLink RL 161 yX4_owed]
def wsL_law0_r28 : List Cond := [Cond.instanceMethod yX4_owed, Cond.selects RX4 yX4_owed yX4_owed, Cond.code yX4_owed cX4_owed 2 (some .int), Cond.methodLink RL 162 yL_leader, Cond.static yL_leader, Cond.codeWith yL_leader cL_leader 4 (some .int) [(0, 9, 12, 13)], Cond.methodLink RL 78 yX3_leader, Cond.instanceMethod yX3_leader, Cond.selects RX3 yX3_leader yX3_leader, Cond.code yX3_leader cX3_leader 3 (some .int), Cond.methodLink RX3 212 yX3_placeOf, Cond.instanceMethod yX3_placeOf, Cond.selects RX3 yX3_placeOf yX3_placeOf, Cond.code yX3_placeOf cX3_placeOf 4 (some .int), Cond.methodLink RL 164 yX4_leader, Cond.instanceMethod yX4_leader, Cond.selects RX4 yX4_leader yX4_leader, Cond.code yX4_leader cX4_leader 6 (some .int), Cond.methodLink RX4 162 yX4_wins, Cond.instanceMethod yX4_wins, Cond.selects RX4 yX4_wins yX4_wins, Cond.code yX4_wins cX4_wins 4 (some .int)]
def wsL_law0 : List Cond := (wsL_law0_r1 ++ (wsL_law0_r2 ++ (wsL_law0_r3 ++ (wsL_law0_r4 ++ (wsL_law0_r5 ++ (wsL_law0_r6 ++ (wsL_law0_r7 ++ (wsL_law0_r8 ++ (wsL_law0_r9 ++ (wsL_law0_r10 ++ (wsL_law0_r11 ++ (wsL_law0_r12 ++ (wsL_law0_r13 ++ (wsL_law0_r14 ++ (wsL_law0_r15 ++ (wsL_law0_r16 ++ (wsL_law0_r17 ++ (wsL_law0_r18 ++ (wsL_law0_r19 ++ (wsL_law0_r20 ++ (wsL_law0_r21 ++ (wsL_law0_r22 ++ (wsL_law0_r23 ++ (wsL_law0_r24 ++ (wsL_law0_r25 ++ (wsL_law0_r26 ++ (wsL_law0_r27 ++ wsL_law0_r28))))))))))))))))))))))))))) ++ wsX30 ++ wsX40 ++ wsJx4a65c0 ++ wsX20 ++ wsX10 ++ wsX00 ++ ([] : List Cond)
def wsL_law : List Cond := wsL_law0 ++ (vx_atS RX3 184 "java/lang/IndexOutOfBoundsException" ["java/lang/RuntimeException", "java/lang/Exception"]).filter goodWord ++ (vx_atS RX3 66 "java/lang/IllegalArgumentException" ["java/lang/RuntimeException", "java/lang/Exception"]).filter goodWord ++ (vx_atS RX3 110 "java/lang/IllegalStateException" ["java/lang/RuntimeException", "java/lang/Exception"]).filter goodWord
theorem inlX0 : ∀ w ∈ wsX00, w ∈ wsL_law := fun _ h => List.mem_append_left _ (List.mem_append_left _ (List.mem_append_left _ (List.mem_append_left _ (List.mem_append_right _ h))))
theorem inlX1 : ∀ w ∈ wsX10, w ∈ wsL_law := fun _ h => List.mem_append_left _ (List.mem_append_left _ (List.mem_append_left _ (List.mem_append_left _ (List.mem_append_left _ (List.mem_append_right _ h)))))
theorem inlX2 : ∀ w ∈ wsX20, w ∈ wsL_law := fun _ h => List.mem_append_left _ (List.mem_append_left _ (List.mem_append_left _ (List.mem_append_left _ (List.mem_append_left _ (List.mem_append_left _ (List.mem_append_right _ h))))))
theorem inlX3 : ∀ w ∈ wsX30, w ∈ wsL_law := fun _ h => List.mem_append_left _ (List.mem_append_left _ (List.mem_append_left _ (List.mem_append_left _ (List.mem_append_left _ (List.mem_append_left _ (List.mem_append_left _ (List.mem_append_left _ (List.mem_append_left _ (List.mem_append_right _ h)))))))))
theorem inlX4 : ∀ w ∈ wsX40, w ∈ wsL_law := fun _ h => List.mem_append_left _ (List.mem_append_left _ (List.mem_append_left _ (List.mem_append_left _ (List.mem_append_left _ (List.mem_append_left _ (List.mem_append_left _ (List.mem_append_left _ (List.mem_append_right _ h))))))))
theorem inlJx4a65c : ∀ w ∈ wsJx4a65c0, w ∈ wsL_law := fun _ h => List.mem_append_left _ (List.mem_append_left _ (List.mem_append_left _ (List.mem_append_left _ (List.mem_append_left _ (List.mem_append_left _ (List.mem_append_left _ (List.mem_append_right _ h)))))))
end
section
/-! MY LAYER: the heap as a map from addresses to contents, one judgement V of a walk, rows over it -/
abbrev kH : Type := Nat → Option va_E
def kup (h : kH) (a : Nat) (e : va_E) : kH := fun q => if q = a then some e else h q
theorem kup_s (h : kH) (a : Nat) (e : va_E) : kup h a e a = some e := by simp [kup]
theorem kup_n (h : kH) {a b : Nat} (e : va_E) (n : b ≠ a) : kup h a e b = h b := by simp [kup, n]
theorem kup_kup (h : kH) (a : Nat) (e e2 : va_E) : kup (kup h a e) a e2 = kup h a e2 := by
  funext q
  by_cases c : q = a <;> simp [kup, c]
abbrev kcl : List vw_C := [(RX0, TX0, 4), (RX1, TX1, 5), (RX2, TX2, 7), (RX3, TX3, 15), (RX4, TX4, 29), (RJx4a65c, TJx4a65c, 3)]
/-- classes by number; the array classes of int, boolean, Object, long; the address of ArrayList's empty array -/
abbrev kE : Type := va_G × ClassId × ClassId × ClassId × ClassId × Nat
abbrev kI (E : kE) : ClassId := E.2.1
abbrev kZ (E : kE) : ClassId := E.2.2.1
abbrev kO (E : kE) : ClassId := E.2.2.2.1
abbrev kJ (E : kE) : ClassId := E.2.2.2.2.1
abbrev kN (E : kE) : Nat := E.2.2.2.2.2
abbrev ktys (E : kE) : List (ClassId × FieldType) := [(kI E, .int), (kZ E, .boolean), (kO E, .object "java/lang/Object"), (kJ E, .long)]
def kWd (E : kE) (h : kH) (H : Heap) : Prop := ∀ a e, h a = some e → va_at E.1 kcl (a, e) H
def kA (h : kH) (sz : Nat) : Nat → Prop := fun q => h q ≠ none ∨ sz ≤ q
def kStr : List (Nat × String) := [(215, "no such player"), (219, "out of range"), (64, "a fight is of two players"), (229, "there are 20 fights"), (231, "one of both is in a fight that goes on"), (233, "no such fight"), (221, "the fight does not go on"), (108, "the fight is not over"), (121, "there are 6 cameras"), (134, "the frame would be above 3000"), (143, "the player is none of both"), (145, "there are 80 entries"), (235, "no such entry"), (227, "the entry is struck, or its fight does not go on"), (217, "no such sponsor"), (173, "there is such a slot"), (178, "there are 12 slots"), (182, "no such frame has passed"), (185, "what is 0 to 2"), (190, "what is 0 to 4"), (192, "no such camera"), (204, "what is 0 or 1"), (210, "no such place")]
def kCast : List (String × String) := [("java/lang/IndexOutOfBoundsException", "java/lang/IndexOutOfBoundsException"), ("java/lang/IllegalArgumentException", "java/lang/IllegalArgumentException"), ("java/lang/IllegalStateException", "java/lang/IllegalStateException"), (RX0, "java/lang/Object"), (RX1, "java/lang/Object"), (RX2, "java/lang/Object")]
def kDecl : List MethodName := [⟨"java/lang/RuntimeException", "<init>", "(Ljava/lang/String;)V"⟩, ⟨"java/lang/Exception", "<init>", "(Ljava/lang/String;)V"⟩, ⟨"java/lang/Throwable", "<init>", "(Ljava/lang/String;)V"⟩]
def kNcs : List (String × String) := [("java/lang/IllegalArgumentException", "java/lang/IndexOutOfBoundsException"), ("java/lang/IllegalStateException", "java/lang/IndexOutOfBoundsException"), ("java/lang/IllegalStateException", "java/lang/IllegalArgumentException"), ("java/lang/IndexOutOfBoundsException", "java/lang/IllegalArgumentException"), ("java/lang/IndexOutOfBoundsException", "java/lang/IllegalStateException"), ("java/lang/IllegalArgumentException", "java/lang/IllegalStateException")]
/-- what a state has of the tables: classes, words -/
def kT (E : kE) (U : State) : Prop := va_K E.1 kcl (ktys E) U ∧ (∀ q ∈ kStr, ∃ sa, vk_R RX3 q.1 q.2 sa U) ∧ (∀ q ∈ kCast, va_Nw (.castable q.1 q.2) U) ∧ (∀ y ∈ kDecl, va_Nw (.declares y) U) ∧ (∀ q ∈ kNcs, va_Nc q.1 q.2 U) ∧ va_AO "java/lang/Object" U ∧ (∃ mi, va_Mi "[Ljava/lang/Object;" mi U) ∧ va_Dc U
/-- .. and of statics, that no cell of A is -/
def kZs (E : kE) (A : Nat → Prop) (U : State) (H : Heap) : Prop := vx_Zq Bundle.tN "UNASSIGNED_STACK" Bundle.steD A U H ∧ vx_Zq Bundle.tN "SUPPRESSED_SENTINEL" Bundle.listD A U H ∧ va_Z RJx4a65c "DEFAULTCAPACITY_EMPTY_ELEMENTDATA" "[Ljava/lang/Object;" (.ref (kN E)) A U H ∧ va_T (.object "java/lang/Object") (kN E) 0 (fun _ => .null) A U H
theorem kT_warm {E : kE} {s U : State} (hW : s.WarmedH U.vm) (h : kT E s) : kT E U := by
  obtain ⟨h1, h2, h3, h4, h5, h6, h7, h8⟩ := h
  refine ⟨va_K.moved hW.alike h1, fun q hq => ?_, fun q hq => va_Nw.warmC hW (h3 q hq), fun q hq => va_Nw.warmD hW (h4 q hq), fun q hq => va_Nc.moved hW.alike (h5 q hq), va_AO.moved hW.alike h6, ?_, va_Dc.moved hW.alike h8⟩
  · obtain ⟨sa, h⟩ := h2 q hq
    exact ⟨sa, h.warm hW⟩
  · obtain ⟨mi, h⟩ := h7
    exact ⟨mi, va_Mi.moved hW.alike h⟩
theorem kT_same {E : kE} {s U : State} (hv : U.vm = s.vm) (h : kT E s) : kT E U := by
  obtain ⟨h1, h2, h3, h4, h5, h6, h7, h8⟩ := h
  have ha : s.vm.Alike U.vm := by rw [hv]; exact Vm.Alike.refl s.vm
  refine ⟨va_K.moved ha h1, fun q hq => ?_, fun q hq => va_Nw.same rfl hv.symm (h3 q hq), fun q hq => va_Nw.same rfl hv.symm (h4 q hq), fun q hq => va_Nc.moved ha (h5 q hq), va_AO.moved ha h6, ?_, va_Dc.moved ha h8⟩
  · obtain ⟨sa, h⟩ := h2 q hq
    exact ⟨sa, h.same hv⟩
  · obtain ⟨mi, h⟩ := h7
    exact ⟨mi, va_Mi.moved ha h⟩
theorem kZs_moved {E : kE} {A : Nat → Prop} {u U : State} {H : Heap} (hvm : u.vm.Alike U.vm) (h : kZs E A u H) : kZs E A U H := ⟨vx_Zq.moved hvm h.1, vx_Zq.moved hvm h.2.1, va_Z.moved hvm h.2.2.1, va_T.moved hvm h.2.2.2⟩
theorem kZs_kept {E : kE} {A : Nat → Prop} {U : State} {H H1 : Heap} (h : kZs E A U H) (hq : ∀ a : Nat, a < H.size → ¬ A a → H1[a]? = H[a]?) : kZs E A U H1 := ⟨h.1.kept hq, h.2.1.kept hq, h.2.2.1.kept hq, h.2.2.2.kept hq⟩
theorem kZs_narrow {E : kE} {A B : Nat → Prop} {U : State} {H : Heap} (h : kZs E A U H) (hAB : ∀ q, B q → A q) : kZs E B U H := ⟨h.1.narrow hAB, h.2.1.narrow hAB, h.2.2.1.narrow hAB, h.2.2.2.narrow hAB⟩
abbrev kX : Type := (Program × Launch × Env × State × MethodId × Array Value × List Frame × Method × Code) × (State → Prop) × (Nat → Prop) × List ExceptionTableEntry
/-- the walk's judgement: from every heap that holds the map h, with the locals lo and the stack st, the machine at pc comes to the end -/
def V (E : kE) (X : kX) (R : Room) (cc : ByteArray) (nL : Nat) (Ts : List Cond) (own : String) (k n : Nat) (h : kH) (lo : List (Nat × Value)) (pc : Nat) (st : List Value) : Prop :=
  match X with
  | ((p, l, e, s, m, args, below, meth, c), Q, A, tb) =>
    CallFix p m c cc nL s args Ts own → (meth.locks = false ∧ l.stackTraces = false ∧ c.exceptionTable.toList = tb) → (∀ q, s.heap.size ≤ q → A q) → (kT E s ∧ kZs E A s s.heap) → ∀ (H : Heap) (locs : List Loc) (ls : Array Slot), kWd E h H → (∀ q z, h q = some z → A q) → va_S A s.heap H locs → lv_has ls nL lo → W p l e R s m args below meth c H locs k n Q (F0 m pc ls st)
/-- the same, with an exception of the class named Ec thrown at pc -/
def VX (E : kE) (X : kX) (R : Room) (cc : ByteArray) (nL : Nat) (Ts : List Cond) (own : String) (k n : Nat) (h : kH) (lo : List (Nat × Value)) (pc : Nat) (Ec : String) : Prop :=
  match X with
  | ((p, l, e, s, m, args, below, meth, c), Q, A, tb) =>
    CallFix p m c cc nL s args Ts own → (meth.locks = false ∧ l.stackTraces = false ∧ c.exceptionTable.toList = tb) → (∀ q, s.heap.size ≤ q → A q) → (kT E s ∧ kZs E A s s.heap) → ∀ (H : Heap) (locs : List Loc) (ls : Array Slot) (st : List Value) (ce : Cell) (q9 : Addr), kWd E h H → (∀ q z, h q = some z → A q) → va_S A s.heap H locs → lv_has ls nL lo → H[q9]? = some ce → ce.vm = .none → s.vm.findClass Ec = some ce.cls → vx_W p l e R s m args below meth c H locs k n Q (F0 m pc ls st) q9
theorem kWd_P {E : kE} {h : kH} {H : Heap} {a : Nat} {e : va_E} (hW : kWd E h H) (ha : h a = some e) : va_P E.1 kcl [(a, e)] H := by
  intro k q hk
  match k with
  | 0 => cases hk; exact hW a e ha
  | k + 1 => simp at hk
theorem kWd_lt {E : kE} {h : kH} {H : Heap} {a : Nat} {e : va_E} (hW : kWd E h H) (ha : h a = some e) : a < H.size := va_at.lt (hW a e ha)
theorem kWd_up {E : kE} {h : kH} {H H1 : Heap} {a : Nat} {e : va_E} (hW : kWd E h H) (he : va_at E.1 kcl (a, e) H1) (oq : ∀ q : Nat, q ≠ a → H1[q]? = H[q]?) : kWd E (kup h a e) H1 := by
  intro b z hz
  by_cases c : b = a
  · subst c
    rw [kup_s] at hz
    cases hz
    exact he
  · rw [kup_n h e c] at hz
    exact va_at.kept (hW b z hz) (oq b c)
theorem kdom_up {A : Nat → Prop} {h : kH} {a : Nat} {e : va_E} (hd : ∀ q z, h q = some z → A q) (ha : A a) : ∀ q z, kup h a e q = some z → A q := by
  intro q z hz
  by_cases c : q = a
  · rw [c]; exact ha
  · rw [kup_n h e c] at hz
    exact hd q z hz
theorem kWd_fresh {E : kE} {h : kH} {H : Heap} (hW : kWd E h H) : h H.size = none := by
  cases c : h H.size with
  | none => rfl
  | some e => exact absurd (kWd_lt hW c) (Nat.lt_irrefl _)
/-- all cells of the map, as the kit's list -/
def kL (h : kH) (N : Nat) : va_W := (List.range N).filterMap (fun q => (h q).map (fun e => (q, e)))
theorem kL_mem {h : kH} {N : Nat} {p : Nat × va_E} : p ∈ kL h N ↔ p.1 < N ∧ h p.1 = some p.2 := by
  unfold kL
  rw [List.mem_filterMap]
  constructor
  · rintro ⟨q, hq, hp⟩
    rw [Option.map_eq_some_iff] at hp
    obtain ⟨e, he, rfl⟩ := hp
    exact ⟨List.mem_range.mp hq, he⟩
  · rintro ⟨h1, h2⟩
    exact ⟨p.1, List.mem_range.mpr h1, by rw [h2]; rfl⟩
theorem kL_nodup (h : kH) (N : Nat) : ((kL h N).map Prod.fst).Nodup := by
  induction N with
  | zero => simp [kL]
  | succ N ih =>
    have e1 : kL h (N + 1) = kL h N ++ ((h N).map (fun e => (N, e))).toList := by
      unfold kL
      rw [List.range_succ, List.filterMap_append]
      cases c : h N <;> simp [c]
    rw [e1, List.map_append]
    refine List.nodup_append.mpr ⟨ih, ?_, ?_⟩
    · cases h N <;> simp
    · intro a ha b hb hab
      obtain ⟨p, hp, rfl⟩ := List.mem_map.mp ha
      have h1 := (kL_mem.mp hp).1
      cases c : h N with
      | none => simp [c] at hb
      | some e =>
        simp [c] at hb
        omega
theorem kL_inj {h : kH} {N i j : Nat} {p q : Nat × va_E} (hi : (kL h N)[i]? = some p) (hj : (kL h N)[j]? = some q) (e : p.1 = q.1) : i = j := by
  have hn := kL_nodup h N
  have h1 : ((kL h N).map Prod.fst)[i]? = some p.1 := by rw [List.getElem?_map, hi]; rfl
  have h2 : ((kL h N).map Prod.fst)[j]? = some p.1 := by rw [List.getElem?_map, hj, e]; rfl
  obtain ⟨l1, g1⟩ := List.getElem?_eq_some_iff.mp h1
  obtain ⟨l2, g2⟩ := List.getElem?_eq_some_iff.mp h2
  exact (List.getElem_inj hn).mp (g1.trans g2.symm)
theorem kL_P {E : kE} {h : kH} {H : Heap} (hW : kWd E h H) : va_P E.1 kcl (kL h H.size) H := by
  intro k q hk
  have h1 := kL_mem.mp (List.mem_of_getElem? hk)
  exact hW q.1 q.2 h1.2
theorem kL_D {A : Nat → Prop} {h : kH} {N : Nat} (hd : ∀ q z, h q = some z → A q) : va_D A (kL h N) := ⟨fun _ _ _ _ hi hj e => kL_inj hi hj e, fun k q hk => hd q.1 q.2 (kL_mem.mp (List.mem_of_getElem? hk)).2⟩
theorem kL_at {E : kE} {h : kH} {H : Heap} {a : Nat} {e : va_E} (hW : kWd E h H) (ha : h a = some e) : ∃ q0 : Nat, (kL h H.size)[q0]? = some (a, e) := List.getElem?_of_mem (kL_mem.mpr ⟨kWd_lt hW ha, ha⟩)
theorem kWd_set {E : kE} {h : kH} {H H1 : Heap} {a q0 : Nat} {e0 e : va_E} (hW : kWd E h H) (hq : (kL h H.size)[q0]? = some (a, e0)) (hP : va_P E.1 kcl ((kL h H.size).set q0 (a, e)) H1) : kWd E (kup h a e) H1 := by
  have hl := (List.getElem?_eq_some_iff.mp hq).1
  intro b z hz
  by_cases c : b = a
  · subst c
    rw [kup_s] at hz
    cases hz
    exact hP q0 (b, e) (by rw [List.getElem?_set_self hl])
  · rw [kup_n h e c] at hz
    obtain ⟨i, hi⟩ := kL_at hW hz
    have hne : q0 ≠ i := fun x => by
      subst x
      rw [hq] at hi
      cases hi
      exact c rfl
    exact hP i (b, z) (by rw [List.getElem?_set_ne hne]; exact hi)
theorem kWd_app {E : kE} {h : kH} {H H1 : Heap} {A : Nat → Prop} {a : Nat} {e : va_E} (hW : kWd E h H) (hP : va_P E.1 kcl (kL h H.size ++ [(a, e)]) H1) : kWd E (kup h a e) H1 := by
  intro b z hz
  by_cases c : b = a
  · subst c
    rw [kup_s] at hz
    cases hz
    exact hP (kL h H.size).length (b, e) (by rw [List.getElem?_append_right (Nat.le_refl _), Nat.sub_self]; rfl)
  · rw [kup_n h e c] at hz
    obtain ⟨i, hi⟩ := kL_at hW hz
    exact hP i (b, z) (by rw [List.getElem?_append_left (List.getElem?_eq_some_iff.mp hi).1]; exact hi)
theorem kfresh {E : kE} {h : kH} {H : Heap} {A : Nat → Prop} {a : Nat} {e : va_E} (hW : kWd E h H) (hD : va_D A (kL h H.size ++ [(a, e)])) : h a = none := by
  cases c : h a with
  | none => rfl
  | some z =>
    obtain ⟨i, hi⟩ := kL_at hW c
    have hl := (List.getElem?_eq_some_iff.mp hi).1
    have h1 := hD.1 i (kL h H.size).length (a, z) (a, e) (by rw [List.getElem?_append_left hl]; exact hi) (by rw [List.getElem?_append_right (Nat.le_refl _), Nat.sub_self]; rfl) rfl
    omega
/-- the method is a constructor -/
def kInit (X : kX) : Prop := X.1.2.2.2.2.2.2.2.1.name = "<init>"
section KR
variable {E : kE} {X : kX} {R : Room} {cc : ByteArray} {nL : Nat} {Ts : List Cond} {own : String} {k n : Nat} {h : kH} {lo lo' : List (Nat × Value)} {pc tgt : Nat} {st : List Value} {x y v : Int32} {off : Int}
theorem r_lo (ks : List Nat) (hl : lv_pick lo ks = lo') (kk : V E X R cc nL Ts own k n h lo' pc st) : V E X R cc nL Ts own k n h lo pc st := by
  obtain ⟨⟨p, l, e, s, m, args, below, meth, c⟩, Q, A, tb⟩ := X
  intro S hk hA hE H locs ls hW hd hS hs
  exact kk S hk hA hE H locs ls hW hd hS (lv_sub hs ks hl)
theorem r_topi (kk : ∀ y : Int32, y = x → V E X R cc nL Ts own k n h lo pc (.int y :: st)) : V E X R cc nL Ts own k n h lo pc (.int x :: st) := kk x rfl
theorem r_wid {k' n' : Nat} (h1 : k ≤ k') (h2 : n ≤ n') (kk : V E X R cc nL Ts own k' n' h lo pc st) : V E X R cc nL Ts own k n h lo pc st := by
  obtain ⟨⟨p, l, e, s, m, args, below, meth, c⟩, Q, A, tb⟩ := X
  intro S hk hA hE H locs ls hW hd hS hs
  exact W.widen h1 h2 (kk S hk hA hE H locs ls hW hd hS hs)
theorem rx_wid {Ec : String} {k' n' : Nat} (h1 : k ≤ k') (h2 : n ≤ n') (kk : VX E X R cc nL Ts own k' n' h lo pc Ec) : VX E X R cc nL Ts own k n h lo pc Ec := by
  obtain ⟨⟨p, l, e, s, m, args, below, meth, c⟩, Q, A, tb⟩ := X
  intro S hk hA hE H locs ls st ce q9 hW hd hS hs h1' h2' h3'
  exact vx_widen h1 h2 (kk S hk hA hE H locs ls st ce q9 hW hd hS hs h1' h2' h3')

theorem r_iconst {a : Int} (hd0 : decode cc pc = .ok (.iconst a, 1)) (hv : Int32.ofInt a = v) (kk : V E X R cc nL Ts own k n h lo (pc + 1) (.int v :: st)) : V E X R cc nL Ts own k n h lo pc (st) := by
  obtain ⟨⟨p, l, e, s, m, args, below, meth, c⟩, Q, A, tb⟩ := X
  intro S hk hA hE H locs ls hW hd hS hs
  exact lv_iconst S.1 S.2.1 hd0 hv (kk S hk hA hE H locs ls hW hd hS hs)

theorem r_bipush {a : Int} (hd0 : decode cc pc = .ok (.bipush a, 2)) (hv : (Int8.ofInt a).toInt32 = v) (kk : V E X R cc nL Ts own k n h lo (pc + 2) (.int v :: st)) : V E X R cc nL Ts own k n h lo pc (st) := by
  obtain ⟨⟨p, l, e, s, m, args, below, meth, c⟩, Q, A, tb⟩ := X
  intro S hk hA hE H locs ls hW hd hS hs
  exact lv_bipush S.1 S.2.1 hd0 hv (kk S hk hA hE H locs ls hW hd hS hs)

theorem r_sipush {a : Int} (hd0 : decode cc pc = .ok (.sipush a, 3)) (hv : (Int16.ofInt a).toInt32 = v) (kk : V E X R cc nL Ts own k n h lo (pc + 3) (.int v :: st)) : V E X R cc nL Ts own k n h lo pc (st) := by
  obtain ⟨⟨p, l, e, s, m, args, below, meth, c⟩, Q, A, tb⟩ := X
  intro S hk hA hE H locs ls hW hd hS hs
  exact lv_sipush S.1 S.2.1 hd0 hv (kk S hk hA hE H locs ls hW hd hS hs)

theorem r_ldc {i : Nat} (hd0 : decode cc pc = .ok (.ldc i, 2)) (hw : Cond.constant own i v ∈ Ts) (kk : V E X R cc nL Ts own k n h lo (pc + 2) (.int v :: st)) : V E X R cc nL Ts own k n h lo pc (st) := by
  obtain ⟨⟨p, l, e, s, m, args, below, meth, c⟩, Q, A, tb⟩ := X
  intro S hk hA hE H locs ls hW hd hS hs
  exact lv_ldc S.1 S.2.1 S.2.2.2.1 (S.2.2.2.2 _ hw) hd0 (kk S hk hA hE H locs ls hW hd hS hs)

theorem r_null (hd0 : decode cc pc = .ok (.aconst_null, 1))  (kk : V E X R cc nL Ts own k n h lo (pc + 1) (.null :: st)) : V E X R cc nL Ts own k n h lo pc (st) := by
  obtain ⟨⟨p, l, e, s, m, args, below, meth, c⟩, Q, A, tb⟩ := X
  intro S hk hA hE H locs ls hW hd hS hs
  exact lv_null S.1 S.2.1 hd0 (kk S hk hA hE H locs ls hW hd hS hs)

theorem r_iload_n {i : Fin 4} (hd0 : decode cc pc = .ok (.iload_n i, 1)) (j : Nat) (hj : lo[j]? = some ((i : Nat), .int x)) (kk : V E X R cc nL Ts own k n h lo (pc + 1) (.int x :: st)) : V E X R cc nL Ts own k n h lo pc (st) := by
  obtain ⟨⟨p, l, e, s, m, args, below, meth, c⟩, Q, A, tb⟩ := X
  intro S hk hA hE H locs ls hW hd hS hs
  exact lv_iload_n S.1 S.2.1 hd0 rfl (lv_at hs j hj) (kk S hk hA hE H locs ls hW hd hS hs)

theorem r_iload {i : Nat} (hd0 : decode cc pc = .ok (.iload i, 2)) (j : Nat) (hj : lo[j]? = some (i, .int x)) (kk : V E X R cc nL Ts own k n h lo (pc + 2) (.int x :: st)) : V E X R cc nL Ts own k n h lo pc (st) := by
  obtain ⟨⟨p, l, e, s, m, args, below, meth, c⟩, Q, A, tb⟩ := X
  intro S hk hA hE H locs ls hW hd hS hs
  exact lv_iload S.1 S.2.1 hd0 (lv_at hs j hj) (kk S hk hA hE H locs ls hW hd hS hs)

theorem r_aload_n {i : Fin 4} {a : Nat} (hd0 : decode cc pc = .ok (.aload_n i, 1)) (j : Nat) (hj : lo[j]? = some ((i : Nat), .ref a)) (kk : V E X R cc nL Ts own k n h lo (pc + 1) (.ref a :: st)) : V E X R cc nL Ts own k n h lo pc (st) := by
  obtain ⟨⟨p, l, e, s, m, args, below, meth, c⟩, Q, A, tb⟩ := X
  intro S hk hA hE H locs ls hW hd hS hs
  exact lv_aload_n S.1 S.2.1 hd0 rfl (lv_at hs j hj) (kk S hk hA hE H locs ls hW hd hS hs)

theorem r_aload {i : Nat} {a : Nat} (hd0 : decode cc pc = .ok (.aload i, 2)) (j : Nat) (hj : lo[j]? = some (i, .ref a)) (kk : V E X R cc nL Ts own k n h lo (pc + 2) (.ref a :: st)) : V E X R cc nL Ts own k n h lo pc (st) := by
  obtain ⟨⟨p, l, e, s, m, args, below, meth, c⟩, Q, A, tb⟩ := X
  intro S hk hA hE H locs ls hW hd hS hs
  exact lv_aload S.1 S.2.1 hd0 (lv_at hs j hj) (kk S hk hA hE H locs ls hW hd hS hs)

theorem r_aload_nN {i : Fin 4} (hd0 : decode cc pc = .ok (.aload_n i, 1)) (j : Nat) (hj : lo[j]? = some ((i : Nat), .null)) (kk : V E X R cc nL Ts own k n h lo (pc + 1) (.null :: st)) : V E X R cc nL Ts own k n h lo pc (st) := by
  obtain ⟨⟨p, l, e, s, m, args, below, meth, c⟩, Q, A, tb⟩ := X
  intro S hk hA hE H locs ls hW hd hS hs
  exact lv_aload_nN S.1 S.2.1 hd0 rfl (lv_at hs j hj) (kk S hk hA hE H locs ls hW hd hS hs)

theorem r_aloadN {i : Nat} (hd0 : decode cc pc = .ok (.aload i, 2)) (j : Nat) (hj : lo[j]? = some (i, .null)) (kk : V E X R cc nL Ts own k n h lo (pc + 2) (.null :: st)) : V E X R cc nL Ts own k n h lo pc (st) := by
  obtain ⟨⟨p, l, e, s, m, args, below, meth, c⟩, Q, A, tb⟩ := X
  intro S hk hA hE H locs ls hW hd hS hs
  exact lv_aloadN S.1 S.2.1 hd0 (lv_at hs j hj) (kk S hk hA hE H locs ls hW hd hS hs)

theorem r_istore_n {i : Fin 4} (hd0 : decode cc pc = .ok (.istore_n i, 1)) (hn : (i : Nat) < nL) (hl : ((i : Nat), Value.int x) :: lo.filter (fun q => !(q.1 == (i : Nat)) && !(q.1 + 1 == (i : Nat) && q.2.category == 2)) = lo') (kk : V E X R cc nL Ts own k n h lo' (pc + 1) (st)) : V E X R cc nL Ts own k n h lo pc (.int x :: st) := by
  obtain ⟨⟨p, l, e, s, m, args, below, meth, c⟩, Q, A, tb⟩ := X
  intro S hk hA hE H locs ls hW hd hS hs
  exact lv_istore_n S.1 S.2.1 hd0 rfl hs hn hl (fun ls' hs' => kk S hk hA hE H locs ls' hW hd hS hs')

theorem r_istore {i : Nat} (hd0 : decode cc pc = .ok (.istore i, 2)) (hn : i < nL) (hl : (i, Value.int x) :: lo.filter (fun q => !(q.1 == i) && !(q.1 + 1 == i && q.2.category == 2)) = lo') (kk : V E X R cc nL Ts own k n h lo' (pc + 2) (st)) : V E X R cc nL Ts own k n h lo pc (.int x :: st) := by
  obtain ⟨⟨p, l, e, s, m, args, below, meth, c⟩, Q, A, tb⟩ := X
  intro S hk hA hE H locs ls hW hd hS hs
  exact lv_istore S.1 S.2.1 hd0 hs hn hl (fun ls' hs' => kk S hk hA hE H locs ls' hW hd hS hs')

theorem r_astore_n {i : Fin 4} {a : Nat} (hd0 : decode cc pc = .ok (.astore_n i, 1)) (hn : (i : Nat) < nL) (hl : ((i : Nat), Value.ref a) :: lo.filter (fun q => !(q.1 == (i : Nat)) && !(q.1 + 1 == (i : Nat) && q.2.category == 2)) = lo') (kk : V E X R cc nL Ts own k n h lo' (pc + 1) (st)) : V E X R cc nL Ts own k n h lo pc (.ref a :: st) := by
  obtain ⟨⟨p, l, e, s, m, args, below, meth, c⟩, Q, A, tb⟩ := X
  intro S hk hA hE H locs ls hW hd hS hs
  exact lv_astore_n S.1 S.2.1 hd0 rfl hs hn hl (fun ls' hs' => kk S hk hA hE H locs ls' hW hd hS hs')

theorem r_astore {i : Nat} {a : Nat} (hd0 : decode cc pc = .ok (.astore i, 2)) (hn : i < nL) (hl : (i, Value.ref a) :: lo.filter (fun q => !(q.1 == i) && !(q.1 + 1 == i && q.2.category == 2)) = lo') (kk : V E X R cc nL Ts own k n h lo' (pc + 2) (st)) : V E X R cc nL Ts own k n h lo pc (.ref a :: st) := by
  obtain ⟨⟨p, l, e, s, m, args, below, meth, c⟩, Q, A, tb⟩ := X
  intro S hk hA hE H locs ls hW hd hS hs
  exact lv_astore S.1 S.2.1 hd0 hs hn hl (fun ls' hs' => kk S hk hA hE H locs ls' hW hd hS hs')

theorem r_astore_nN {i : Fin 4} (hd0 : decode cc pc = .ok (.astore_n i, 1)) (hn : (i : Nat) < nL) (hl : ((i : Nat), Value.null) :: lo.filter (fun q => !(q.1 == (i : Nat)) && !(q.1 + 1 == (i : Nat) && q.2.category == 2)) = lo') (kk : V E X R cc nL Ts own k n h lo' (pc + 1) (st)) : V E X R cc nL Ts own k n h lo pc (.null :: st) := by
  obtain ⟨⟨p, l, e, s, m, args, below, meth, c⟩, Q, A, tb⟩ := X
  intro S hk hA hE H locs ls hW hd hS hs
  exact lv_astore_nN S.1 S.2.1 hd0 rfl hs hn hl (fun ls' hs' => kk S hk hA hE H locs ls' hW hd hS hs')

theorem r_astoreN {i : Nat} (hd0 : decode cc pc = .ok (.astore i, 2)) (hn : i < nL) (hl : (i, Value.null) :: lo.filter (fun q => !(q.1 == i) && !(q.1 + 1 == i && q.2.category == 2)) = lo') (kk : V E X R cc nL Ts own k n h lo' (pc + 2) (st)) : V E X R cc nL Ts own k n h lo pc (.null :: st) := by
  obtain ⟨⟨p, l, e, s, m, args, below, meth, c⟩, Q, A, tb⟩ := X
  intro S hk hA hE H locs ls hW hd hS hs
  exact lv_astoreN S.1 S.2.1 hd0 hs hn hl (fun ls' hs' => kk S hk hA hE H locs ls' hW hd hS hs')

theorem r_iinc {i : Nat} {a : Int} (hd0 : decode cc pc = .ok (.iinc i a, 3)) (j : Nat) (hj : lo[j]? = some (i, .int x)) (hv : x + Int32.ofInt a = v) (hn : i < nL) (hl : (i, Value.int v) :: lo.filter (fun q => !(q.1 == i) && !(q.1 + 1 == i && q.2.category == 2)) = lo') (kk : V E X R cc nL Ts own k n h lo' (pc + 3) (st)) : V E X R cc nL Ts own k n h lo pc (st) := by
  obtain ⟨⟨p, l, e, s, m, args, below, meth, c⟩, Q, A, tb⟩ := X
  intro S hk hA hE H locs ls hW hd hS hs
  exact lv_iinc S.1 S.2.1 hd0 hs hj hv hn hl (fun ls' hs' => kk S hk hA hE H locs ls' hW hd hS hs')

theorem r_iadd (hd0 : decode cc pc = .ok (.iadd, 1))  (kk : V E X R cc nL Ts own k n h lo (pc + 1) (.int (x + y) :: st)) : V E X R cc nL Ts own k n h lo pc (.int y :: .int x :: st) := by
  obtain ⟨⟨p, l, e, s, m, args, below, meth, c⟩, Q, A, tb⟩ := X
  intro S hk hA hE H locs ls hW hd hS hs
  exact lv_iadd S.1 S.2.1 hd0 (kk S hk hA hE H locs ls hW hd hS hs)

theorem r_isub (hd0 : decode cc pc = .ok (.isub, 1))  (kk : V E X R cc nL Ts own k n h lo (pc + 1) (.int (x - y) :: st)) : V E X R cc nL Ts own k n h lo pc (.int y :: .int x :: st) := by
  obtain ⟨⟨p, l, e, s, m, args, below, meth, c⟩, Q, A, tb⟩ := X
  intro S hk hA hE H locs ls hW hd hS hs
  exact lv_isub S.1 S.2.1 hd0 (kk S hk hA hE H locs ls hW hd hS hs)

theorem r_imul (hd0 : decode cc pc = .ok (.imul, 1))  (kk : V E X R cc nL Ts own k n h lo (pc + 1) (.int (x * y) :: st)) : V E X R cc nL Ts own k n h lo pc (.int y :: .int x :: st) := by
  obtain ⟨⟨p, l, e, s, m, args, below, meth, c⟩, Q, A, tb⟩ := X
  intro S hk hA hE H locs ls hW hd hS hs
  exact lv_imul S.1 S.2.1 hd0 (kk S hk hA hE H locs ls hW hd hS hs)

theorem r_iand (hd0 : decode cc pc = .ok (.iand, 1))  (kk : V E X R cc nL Ts own k n h lo (pc + 1) (.int (x &&& y) :: st)) : V E X R cc nL Ts own k n h lo pc (.int y :: .int x :: st) := by
  obtain ⟨⟨p, l, e, s, m, args, below, meth, c⟩, Q, A, tb⟩ := X
  intro S hk hA hE H locs ls hW hd hS hs
  exact lv_iand S.1 S.2.1 hd0 (kk S hk hA hE H locs ls hW hd hS hs)

theorem r_ior (hd0 : decode cc pc = .ok (.ior, 1))  (kk : V E X R cc nL Ts own k n h lo (pc + 1) (.int (x ||| y) :: st)) : V E X R cc nL Ts own k n h lo pc (.int y :: .int x :: st) := by
  obtain ⟨⟨p, l, e, s, m, args, below, meth, c⟩, Q, A, tb⟩ := X
  intro S hk hA hE H locs ls hW hd hS hs
  exact lv_ior S.1 S.2.1 hd0 (kk S hk hA hE H locs ls hW hd hS hs)

theorem r_ishl (hd0 : decode cc pc = .ok (.ishl, 1))  (kk : V E X R cc nL Ts own k n h lo (pc + 1) (.int (x <<< (y &&& 31)) :: st)) : V E X R cc nL Ts own k n h lo pc (.int y :: .int x :: st) := by
  obtain ⟨⟨p, l, e, s, m, args, below, meth, c⟩, Q, A, tb⟩ := X
  intro S hk hA hE H locs ls hW hd hS hs
  exact lv_ishl S.1 S.2.1 hd0 (kk S hk hA hE H locs ls hW hd hS hs)

theorem r_ishr (hd0 : decode cc pc = .ok (.ishr, 1))  (kk : V E X R cc nL Ts own k n h lo (pc + 1) (.int (x >>> (y &&& 31)) :: st)) : V E X R cc nL Ts own k n h lo pc (.int y :: .int x :: st) := by
  obtain ⟨⟨p, l, e, s, m, args, below, meth, c⟩, Q, A, tb⟩ := X
  intro S hk hA hE H locs ls hW hd hS hs
  exact lv_ishr S.1 S.2.1 hd0 (kk S hk hA hE H locs ls hW hd hS hs)

theorem r_iushr (hd0 : decode cc pc = .ok (.iushr, 1))  (kk : V E X R cc nL Ts own k n h lo (pc + 1) (.int ((x.toUInt32 >>> (y.toUInt32 &&& Int32.toUInt32 31)).toInt32) :: st)) : V E X R cc nL Ts own k n h lo pc (.int y :: .int x :: st) := by
  obtain ⟨⟨p, l, e, s, m, args, below, meth, c⟩, Q, A, tb⟩ := X
  intro S hk hA hE H locs ls hW hd hS hs
  exact lv_iushr S.1 S.2.1 hd0 rfl (kk S hk hA hE H locs ls hW hd hS hs)

theorem r_i2l (hd0 : decode cc pc = .ok (.i2l, 1))  (kk : V E X R cc nL Ts own k n h lo (pc + 1) (.long x.toInt64 :: st)) : V E X R cc nL Ts own k n h lo pc (.int x :: st) := by
  obtain ⟨⟨p, l, e, s, m, args, below, meth, c⟩, Q, A, tb⟩ := X
  intro S hk hA hE H locs ls hW hd hS hs
  exact lv_i2l S.1 S.2.1 hd0 rfl (kk S hk hA hE H locs ls hW hd hS hs)

theorem r_lcmp {a b : Int64} (hd0 : decode cc pc = .ok (.lcmp, 1))  (kk : V E X R cc nL Ts own k n h lo (pc + 1) (.int (lg_cmp a b) :: st)) : V E X R cc nL Ts own k n h lo pc (.long b :: .long a :: st) := by
  obtain ⟨⟨p, l, e, s, m, args, below, meth, c⟩, Q, A, tb⟩ := X
  intro S hk hA hE H locs ls hW hd hS hs
  exact W.lcmp S.1 S.2.1 hd0 (kk S hk hA hE H locs ls hW hd hS hs)

theorem r_dup {a : Value} (hd0 : decode cc pc = .ok (.dup, 1)) (hc : a.category = 1) (kk : V E X R cc nL Ts own k n h lo (pc + 1) (a :: a :: st)) : V E X R cc nL Ts own k n h lo pc (a :: st) := by
  obtain ⟨⟨p, l, e, s, m, args, below, meth, c⟩, Q, A, tb⟩ := X
  intro S hk hA hE H locs ls hW hd hS hs
  exact lv_dup S.1 S.2.1 hd0 hc (kk S hk hA hE H locs ls hW hd hS hs)

theorem r_pop {a : Value} (hd0 : decode cc pc = .ok (.pop, 1)) (hc : a.category = 1) (kk : V E X R cc nL Ts own k n h lo (pc + 1) (st)) : V E X R cc nL Ts own k n h lo pc (a :: st) := by
  obtain ⟨⟨p, l, e, s, m, args, below, meth, c⟩, Q, A, tb⟩ := X
  intro S hk hA hE H locs ls hW hd hS hs
  exact lv_pop S.1 S.2.1 hd0 hc (kk S hk hA hE H locs ls hW hd hS hs)

theorem r_dup_x1 {a b : Value} (hd0 : decode cc pc = .ok (.dup_x1, 1)) (hc : a.category = 1) (hc2 : b.category = 1) (kk : V E X R cc nL Ts own k n h lo (pc + 1) (a :: b :: a :: st)) : V E X R cc nL Ts own k n h lo pc (a :: b :: st) := by
  obtain ⟨⟨p, l, e, s, m, args, below, meth, c⟩, Q, A, tb⟩ := X
  intro S hk hA hE H locs ls hW hd hS hs
  exact lv_dup_x1 S.1 S.2.1 hd0 hc hc2 (kk S hk hA hE H locs ls hW hd hS hs)

theorem r_dup2 {a b : Value} (hd0 : decode cc pc = .ok (.dup2, 1)) (hc : a.category = 1) (hc2 : b.category = 1) (kk : V E X R cc nL Ts own k n h lo (pc + 1) (a :: b :: a :: b :: st)) : V E X R cc nL Ts own k n h lo pc (a :: b :: st) := by
  obtain ⟨⟨p, l, e, s, m, args, below, meth, c⟩, Q, A, tb⟩ := X
  intro S hk hA hE H locs ls hW hd hS hs
  exact lv_dup2_11 S.1 S.2.1 hd0 hc hc2 (kk S hk hA hE H locs ls hW hd hS hs)

theorem r_goto (hd0 : decode cc pc = .ok (.goto off, 3)) (ht : (pc : Int) + off = (tgt : Int)) (kk : V E X R cc nL Ts own k n h lo (tgt) (st)) : V E X R cc nL Ts own k n h lo pc (st) := by
  obtain ⟨⟨p, l, e, s, m, args, below, meth, c⟩, Q, A, tb⟩ := X
  intro S hk hA hE H locs ls hW hd hS hs
  exact lv_goto S.1 S.2.1 hd0 ht (kk S hk hA hE H locs ls hW hd hS hs)

theorem r_icmp_eq (hd0 : decode cc pc = .ok (.if_icmp .eq off, 3)) (ht : (pc : Int) + off = (tgt : Int)) (kt : x = y → V E X R cc nL Ts own k n h lo tgt st) (kf : ¬ x = y → V E X R cc nL Ts own k n h lo (pc + 3) st) : V E X R cc nL Ts own k n h lo pc (.int y :: .int x :: st) := by
  obtain ⟨⟨p, l, e, s, m, args, below, meth, c⟩, Q, A, tb⟩ := X
  intro S hk hA hE H locs ls hW hd hS hs
  exact lv_icmp_eq S.1 S.2.1 hd0 ht (fun c0 => kt c0 S hk hA hE H locs ls hW hd hS hs) (fun c0 => kf c0 S hk hA hE H locs ls hW hd hS hs)

theorem r_icmp_ne (hd0 : decode cc pc = .ok (.if_icmp .ne off, 3)) (ht : (pc : Int) + off = (tgt : Int)) (kt : ¬ x = y → V E X R cc nL Ts own k n h lo tgt st) (kf : x = y → V E X R cc nL Ts own k n h lo (pc + 3) st) : V E X R cc nL Ts own k n h lo pc (.int y :: .int x :: st) := by
  obtain ⟨⟨p, l, e, s, m, args, below, meth, c⟩, Q, A, tb⟩ := X
  intro S hk hA hE H locs ls hW hd hS hs
  exact lv_icmp_ne S.1 S.2.1 hd0 ht (fun c0 => kt c0 S hk hA hE H locs ls hW hd hS hs) (fun c0 => kf c0 S hk hA hE H locs ls hW hd hS hs)

theorem r_icmp_lt (hd0 : decode cc pc = .ok (.if_icmp .lt off, 3)) (ht : (pc : Int) + off = (tgt : Int)) (kt : x < y → V E X R cc nL Ts own k n h lo tgt st) (kf : ¬ x < y → V E X R cc nL Ts own k n h lo (pc + 3) st) : V E X R cc nL Ts own k n h lo pc (.int y :: .int x :: st) := by
  obtain ⟨⟨p, l, e, s, m, args, below, meth, c⟩, Q, A, tb⟩ := X
  intro S hk hA hE H locs ls hW hd hS hs
  exact lv_icmp_lt S.1 S.2.1 hd0 ht (fun c0 => kt c0 S hk hA hE H locs ls hW hd hS hs) (fun c0 => kf c0 S hk hA hE H locs ls hW hd hS hs)

theorem r_icmp_ge (hd0 : decode cc pc = .ok (.if_icmp .ge off, 3)) (ht : (pc : Int) + off = (tgt : Int)) (kt : ¬ x < y → V E X R cc nL Ts own k n h lo tgt st) (kf : x < y → V E X R cc nL Ts own k n h lo (pc + 3) st) : V E X R cc nL Ts own k n h lo pc (.int y :: .int x :: st) := by
  obtain ⟨⟨p, l, e, s, m, args, below, meth, c⟩, Q, A, tb⟩ := X
  intro S hk hA hE H locs ls hW hd hS hs
  exact lv_icmp_ge S.1 S.2.1 hd0 ht (fun c0 => kt (Int32.not_lt.mpr c0) S hk hA hE H locs ls hW hd hS hs) (fun c0 => kf (Int32.not_le.mp c0) S hk hA hE H locs ls hW hd hS hs)

theorem r_icmp_gt (hd0 : decode cc pc = .ok (.if_icmp .gt off, 3)) (ht : (pc : Int) + off = (tgt : Int)) (kt : y < x → V E X R cc nL Ts own k n h lo tgt st) (kf : ¬ y < x → V E X R cc nL Ts own k n h lo (pc + 3) st) : V E X R cc nL Ts own k n h lo pc (.int y :: .int x :: st) := by
  obtain ⟨⟨p, l, e, s, m, args, below, meth, c⟩, Q, A, tb⟩ := X
  intro S hk hA hE H locs ls hW hd hS hs
  exact lv_icmp_gt S.1 S.2.1 hd0 ht (fun c0 => kt c0 S hk hA hE H locs ls hW hd hS hs) (fun c0 => kf c0 S hk hA hE H locs ls hW hd hS hs)

theorem r_icmp_le (hd0 : decode cc pc = .ok (.if_icmp .le off, 3)) (ht : (pc : Int) + off = (tgt : Int)) (kt : ¬ y < x → V E X R cc nL Ts own k n h lo tgt st) (kf : y < x → V E X R cc nL Ts own k n h lo (pc + 3) st) : V E X R cc nL Ts own k n h lo pc (.int y :: .int x :: st) := by
  obtain ⟨⟨p, l, e, s, m, args, below, meth, c⟩, Q, A, tb⟩ := X
  intro S hk hA hE H locs ls hW hd hS hs
  exact lv_icmp_le S.1 S.2.1 hd0 ht (fun c0 => kt (Int32.not_lt.mpr c0) S hk hA hE H locs ls hW hd hS hs) (fun c0 => kf (Int32.not_le.mp c0) S hk hA hE H locs ls hW hd hS hs)

theorem r_if_eq (hd0 : decode cc pc = .ok (.ifCond .eq off, 3)) (ht : (pc : Int) + off = (tgt : Int)) (kt : x = 0 → V E X R cc nL Ts own k n h lo tgt st) (kf : ¬ x = 0 → V E X R cc nL Ts own k n h lo (pc + 3) st) : V E X R cc nL Ts own k n h lo pc (.int x :: st) := by
  obtain ⟨⟨p, l, e, s, m, args, below, meth, c⟩, Q, A, tb⟩ := X
  intro S hk hA hE H locs ls hW hd hS hs
  exact lv_if_eq S.1 S.2.1 hd0 ht (fun c0 => kt c0 S hk hA hE H locs ls hW hd hS hs) (fun c0 => kf c0 S hk hA hE H locs ls hW hd hS hs)

theorem r_if_ne (hd0 : decode cc pc = .ok (.ifCond .ne off, 3)) (ht : (pc : Int) + off = (tgt : Int)) (kt : ¬ x = 0 → V E X R cc nL Ts own k n h lo tgt st) (kf : x = 0 → V E X R cc nL Ts own k n h lo (pc + 3) st) : V E X R cc nL Ts own k n h lo pc (.int x :: st) := by
  obtain ⟨⟨p, l, e, s, m, args, below, meth, c⟩, Q, A, tb⟩ := X
  intro S hk hA hE H locs ls hW hd hS hs
  exact lv_if_ne S.1 S.2.1 hd0 ht (fun c0 => kt c0 S hk hA hE H locs ls hW hd hS hs) (fun c0 => kf c0 S hk hA hE H locs ls hW hd hS hs)

theorem r_if_lt (hd0 : decode cc pc = .ok (.ifCond .lt off, 3)) (ht : (pc : Int) + off = (tgt : Int)) (kt : x < 0 → V E X R cc nL Ts own k n h lo tgt st) (kf : ¬ x < 0 → V E X R cc nL Ts own k n h lo (pc + 3) st) : V E X R cc nL Ts own k n h lo pc (.int x :: st) := by
  obtain ⟨⟨p, l, e, s, m, args, below, meth, c⟩, Q, A, tb⟩ := X
  intro S hk hA hE H locs ls hW hd hS hs
  exact lv_if_lt S.1 S.2.1 hd0 ht (fun c0 => kt c0 S hk hA hE H locs ls hW hd hS hs) (fun c0 => kf c0 S hk hA hE H locs ls hW hd hS hs)

theorem r_if_ge (hd0 : decode cc pc = .ok (.ifCond .ge off, 3)) (ht : (pc : Int) + off = (tgt : Int)) (kt : ¬ x < 0 → V E X R cc nL Ts own k n h lo tgt st) (kf : x < 0 → V E X R cc nL Ts own k n h lo (pc + 3) st) : V E X R cc nL Ts own k n h lo pc (.int x :: st) := by
  obtain ⟨⟨p, l, e, s, m, args, below, meth, c⟩, Q, A, tb⟩ := X
  intro S hk hA hE H locs ls hW hd hS hs
  exact lv_if_ge S.1 S.2.1 hd0 ht (fun c0 => kt (Int32.not_lt.mpr c0) S hk hA hE H locs ls hW hd hS hs) (fun c0 => kf (Int32.not_le.mp c0) S hk hA hE H locs ls hW hd hS hs)

theorem r_if_gt (hd0 : decode cc pc = .ok (.ifCond .gt off, 3)) (ht : (pc : Int) + off = (tgt : Int)) (kt : 0 < x → V E X R cc nL Ts own k n h lo tgt st) (kf : ¬ 0 < x → V E X R cc nL Ts own k n h lo (pc + 3) st) : V E X R cc nL Ts own k n h lo pc (.int x :: st) := by
  obtain ⟨⟨p, l, e, s, m, args, below, meth, c⟩, Q, A, tb⟩ := X
  intro S hk hA hE H locs ls hW hd hS hs
  exact lv_if_gt S.1 S.2.1 hd0 ht (fun c0 => kt c0 S hk hA hE H locs ls hW hd hS hs) (fun c0 => kf c0 S hk hA hE H locs ls hW hd hS hs)

theorem r_if_le (hd0 : decode cc pc = .ok (.ifCond .le off, 3)) (ht : (pc : Int) + off = (tgt : Int)) (kt : ¬ 0 < x → V E X R cc nL Ts own k n h lo tgt st) (kf : 0 < x → V E X R cc nL Ts own k n h lo (pc + 3) st) : V E X R cc nL Ts own k n h lo pc (.int x :: st) := by
  obtain ⟨⟨p, l, e, s, m, args, below, meth, c⟩, Q, A, tb⟩ := X
  intro S hk hA hE H locs ls hW hd hS hs
  exact lv_if_le S.1 S.2.1 hd0 ht (fun c0 => kt (Int32.not_lt.mpr c0) S hk hA hE H locs ls hW hd hS hs) (fun c0 => kf (Int32.not_le.mp c0) S hk hA hE H locs ls hW hd hS hs)

theorem r_acmp_ne {a b : Nat} (hd0 : decode cc pc = .ok (.if_acmp .ne off, 3)) (ht : (pc : Int) + off = (tgt : Int)) (kt : ¬ a = b → V E X R cc nL Ts own k n h lo tgt st) (kf : a = b → V E X R cc nL Ts own k n h lo (pc + 3) st) : V E X R cc nL Ts own k n h lo pc (.ref b :: .ref a :: st) := by
  obtain ⟨⟨p, l, e, s, m, args, below, meth, c⟩, Q, A, tb⟩ := X
  intro S hk hA hE H locs ls hW hd hS hs
  exact lv_acmp_ne (rx := some a) (ry := some b) S.1 S.2.1 hd0 ht (fun c0 => kt (fun z => c0 (by rw [z])) S hk hA hE H locs ls hW hd hS hs) (fun c0 => kf (Option.some.inj c0) S hk hA hE H locs ls hW hd hS hs)

theorem r_acmp_eq {a b : Nat} (hd0 : decode cc pc = .ok (.if_acmp .eq off, 3)) (ht : (pc : Int) + off = (tgt : Int)) (kt : a = b → V E X R cc nL Ts own k n h lo tgt st) (kf : ¬ a = b → V E X R cc nL Ts own k n h lo (pc + 3) st) : V E X R cc nL Ts own k n h lo pc (.ref b :: .ref a :: st) := by
  obtain ⟨⟨p, l, e, s, m, args, below, meth, c⟩, Q, A, tb⟩ := X
  intro S hk hA hE H locs ls hW hd hS hs
  exact lv_acmp_eq (rx := some a) (ry := some b) S.1 S.2.1 hd0 ht (fun c0 => kt (Option.some.inj c0) S hk hA hE H locs ls hW hd hS hs) (fun c0 => kf (fun z => c0 (by rw [z])) S hk hA hE H locs ls hW hd hS hs)

theorem r_ifnull {a : Nat} (hd0 : decode cc pc = .ok (.ifnull off, 3))  (kk : V E X R cc nL Ts own k n h lo (pc + 3) (st)) : V E X R cc nL Ts own k n h lo pc (.ref a :: st) := by
  obtain ⟨⟨p, l, e, s, m, args, below, meth, c⟩, Q, A, tb⟩ := X
  intro S hk hA hE H locs ls hW hd hS hs
  exact lv_ifnull S.1 S.2.1 hd0 (kk S hk hA hE H locs ls hW hd hS hs)

theorem r_ifnullN (hd0 : decode cc pc = .ok (.ifnull off, 3)) (ht : (pc : Int) + off = (tgt : Int)) (kk : V E X R cc nL Ts own k n h lo (tgt) (st)) : V E X R cc nL Ts own k n h lo pc (.null :: st) := by
  obtain ⟨⟨p, l, e, s, m, args, below, meth, c⟩, Q, A, tb⟩ := X
  intro S hk hA hE H locs ls hW hd hS hs
  exact lv_ifnullN S.1 S.2.1 hd0 ht (kk S hk hA hE H locs ls hW hd hS hs)

theorem r_ifnonnull {a : Nat} (hd0 : decode cc pc = .ok (.ifnonnull off, 3)) (ht : (pc : Int) + off = (tgt : Int)) (kk : V E X R cc nL Ts own k n h lo (tgt) (st)) : V E X R cc nL Ts own k n h lo pc (.ref a :: st) := by
  obtain ⟨⟨p, l, e, s, m, args, below, meth, c⟩, Q, A, tb⟩ := X
  intro S hk hA hE H locs ls hW hd hS hs
  exact lv_ifnonnull S.1 S.2.1 hd0 ht (kk S hk hA hE H locs ls hW hd hS hs)

theorem r_ifnonnullN (hd0 : decode cc pc = .ok (.ifnonnull off, 3))  (kk : V E X R cc nL Ts own k n h lo (pc + 3) (st)) : V E X R cc nL Ts own k n h lo pc (.null :: st) := by
  obtain ⟨⟨p, l, e, s, m, args, below, meth, c⟩, Q, A, tb⟩ := X
  intro S hk hA hE H locs ls hW hd hS hs
  exact lv_ifnonnullN S.1 S.2.1 hd0 (kk S hk hA hE H locs ls hW hd hS hs)

theorem r_tableIn {dflt lw hi : Int} {offs : Array Int} {len : Nat} (hd0 : decode cc pc = .ok (.tableswitch dflt lw hi offs, len)) (h1 : ¬ x.toInt < lw) (h2 : ¬ hi < x.toInt) (ho : offs[(x.toInt - lw).toNat]? = some off) (ht : (pc : Int) + off = (tgt : Int)) (kk : V E X R cc nL Ts own k n h lo (tgt) (st)) : V E X R cc nL Ts own k n h lo pc (.int x :: st) := by
  obtain ⟨⟨p, l, e, s, m, args, below, meth, c⟩, Q, A, tb⟩ := X
  intro S hk hA hE H locs ls hW hd hS hs
  exact lv_tableIn S.1 S.2.1 hd0 h1 h2 ho ht (kk S hk hA hE H locs ls hW hd hS hs)

theorem r_tableOut {dflt lw hi : Int} {offs : Array Int} {len : Nat} (hd0 : decode cc pc = .ok (.tableswitch dflt lw hi offs, len)) (h1 : x.toInt < lw ∨ hi < x.toInt) (ht : (pc : Int) + dflt = (tgt : Int)) (kk : V E X R cc nL Ts own k n h lo (tgt) (st)) : V E X R cc nL Ts own k n h lo pc (.int x :: st) := by
  obtain ⟨⟨p, l, e, s, m, args, below, meth, c⟩, Q, A, tb⟩ := X
  intro S hk hA hE H locs ls hW hd hS hs
  exact lv_tableOut S.1 S.2.1 hd0 h1 ht (kk S hk hA hE H locs ls hW hd hS hs)

theorem r_lookup {dflt : Int} {ps : Array (Int × Int)} {len : Nat} (hd0 : decode cc pc = .ok (.lookupswitch dflt ps, len)) (hp : (ps.toList.zip (ps.toList.drop 1)).all (fun (a, next) => a.1 < next.1) = true) (ho : Op.lookupswitch.offset ps.toList dflt x.toInt = off) (ht : (pc : Int) + off = (tgt : Int)) (kk : V E X R cc nL Ts own k n h lo (tgt) (st)) : V E X R cc nL Ts own k n h lo pc (.int x :: st) := by
  obtain ⟨⟨p, l, e, s, m, args, below, meth, c⟩, Q, A, tb⟩ := X
  intro S hk hA hE H locs ls hW hd hS hs
  exact lv_lookup S.1 S.2.1 hd0 hp ho ht (kk S hk hA hE H locs ls hW hd hS hs)

theorem r_get {C ref : String} {T : u_T} {N ci i a : Nat} {fs : List Value} {b : Value} (hd0 : decode cc pc = .ok (.getfield i, 3)) (hin : ∀ w ∈ u_ws C T N, w ∈ Ts) (he : h a = some (.inr (ci, fs))) (hc : kcl[ci]? = some (C, T, N)) (f : Nat) (hf : f < N) (hw : Cond.fieldLink own i ref (T f).2.1 (T f).2.2.1 ∈ Ts) (hr : (T f).1 = ref) (hv : fs[f]? = some b) (kk : V E X R cc nL Ts own k n h lo (pc + 3) (b :: st)) : V E X R cc nL Ts own k n h lo pc (.ref a :: st) := by
  obtain ⟨⟨p, l, e, s, m, args, below, meth, c⟩, Q, A, tb⟩ := X
  intro S hk hA hE H locs ls hW hd hS hs
  exact va_get S.1 S.2.1 S.2.2.2.2 hin S.2.2.2.1 hE.1.1 (kWd_P hW he) 0 rfl hc f hf (S.2.2.2.2 _ hw) (by subst hr; exact fun _ z => z) hv hd0 (kk S hk hA hE H locs ls hW hd hS hs)

theorem r_getS {C ref : String} {T : u_T} {N ci i a : Nat} {fs : List Value} {b : Value} (hd0 : decode cc pc = .ok (.getfield i, 3)) (hin : ∀ w ∈ u_ws C T N, w ∈ Ts) (he : h a = some (.inr (ci, fs))) (hc : kcl[ci]? = some (C, T, N)) (f : Nat) (hf : f < N) (hw : Cond.fieldLink own i ref (T f).2.1 (T f).2.2.1 ∈ Ts) (hr : Cond.sameField ref (T f).1 (T f).2.1 (T f).2.2.1 ∈ Ts) (hv : fs[f]? = some b) (kk : V E X R cc nL Ts own k n h lo (pc + 3) (b :: st)) : V E X R cc nL Ts own k n h lo pc (.ref a :: st) := by
  obtain ⟨⟨p, l, e, s, m, args, below, meth, c⟩, Q, A, tb⟩ := X
  intro S hk hA hE H locs ls hW hd hS hs
  exact va_get S.1 S.2.1 S.2.2.2.2 hin S.2.2.2.1 hE.1.1 (kWd_P hW he) 0 rfl hc f hf (S.2.2.2.2 _ hw) (fun x z => u_same (S.2.2.2.2 _ hr) x z) hv hd0 (kk S hk hA hE H locs ls hW hd hS hs)

theorem r_putF {C ref : String} {T : u_T} {N ci i a : Nat} {fs : List Value} {b : Value} {ty : FieldType} (hd0 : decode cc pc = .ok (.putfield i, 3)) (hin : ∀ w ∈ u_ws C T N, w ∈ Ts) (ty0 : Nat → FieldType) (hty : ∀ k, k < N → parseFieldDescriptor (T k).2.2.1 = some (ty0 k)) (hnm : ∀ a, a < N → ∀ b, b < N → a ≠ b → (T a).2.1 ≠ (T b).2.1) (he : h a = some (.inr (ci, fs))) (hc : kcl[ci]? = some (C, T, N)) (f : Nat) (hf : f < N) (hw : Cond.fieldLink own i ref (T f).2.1 (T f).2.2.1 ∈ Ts) (hr : (T f).1 = ref) (hfi : (T f).2.2.2 = true) (hnmI : kInit X) (hdc : (T f).1 = own) (hde : parseFieldDescriptor (T f).2.2.1 = some ty) (hnw : narrow ty b = b) (hft : fits ty b = true) (hl : f < fs.length) (kk : V E X R cc nL Ts own k n (kup h a (.inr (ci, fs.set f b))) lo (pc + 3) st) : V E X R cc nL Ts own k n h lo pc (b :: .ref a :: st) := by
  obtain ⟨⟨p, l, e, s, m, args, below, meth, c⟩, Q, A, tb⟩ := X
  intro S hk hA hE H locs ls hW hd hS hs
  obtain ⟨q0, hq⟩ := kL_at hW he
  exact va_putF S.1 S.2.1 S.2.2.2.2 hin ty0 hty hnm S.2.2.2.1 hE.1.1 (kL_P hW) (kL_D hd) hS q0 hq hc f hf (S.2.2.2.2 _ hw) (by subst hr; exact fun _ z => z) hfi hnmI hdc hde hnw hft hl hd0 (fun H1 locs1 hP1 hD1 hS1 => kk S hk hA hE H1 locs1 ls (kWd_set hW hq hP1) (kdom_up hd (hd a _ he)) hS1 hs)

theorem r_put {C ref : String} {T : u_T} {N ci i a : Nat} {fs : List Value} {b : Value} {ty : FieldType} (hd0 : decode cc pc = .ok (.putfield i, 3)) (hin : ∀ w ∈ u_ws C T N, w ∈ Ts) (ty0 : Nat → FieldType) (hty : ∀ k, k < N → parseFieldDescriptor (T k).2.2.1 = some (ty0 k)) (hnm : ∀ a, a < N → ∀ b, b < N → a ≠ b → (T a).2.1 ≠ (T b).2.1) (he : h a = some (.inr (ci, fs))) (hc : kcl[ci]? = some (C, T, N)) (f : Nat) (hf : f < N) (hw : Cond.fieldLink own i ref (T f).2.1 (T f).2.2.1 ∈ Ts) (hr : (T f).1 = ref) (hfi : (T f).2.2.2 = false) (hde : parseFieldDescriptor (T f).2.2.1 = some ty) (hnw : narrow ty b = b) (hft : fits ty b = true) (hl : f < fs.length) (kk : V E X R cc nL Ts own k n (kup h a (.inr (ci, fs.set f b))) lo (pc + 3) st) : V E X R cc nL Ts own k n h lo pc (b :: .ref a :: st) := by
  obtain ⟨⟨p, l, e, s, m, args, below, meth, c⟩, Q, A, tb⟩ := X
  intro S hk hA hE H locs ls hW hd hS hs
  obtain ⟨q0, hq⟩ := kL_at hW he
  exact va_put S.1 S.2.1 S.2.2.2.2 hin ty0 hty hnm S.2.2.2.1 hE.1.1 (kL_P hW) (kL_D hd) hS q0 hq hc f hf (S.2.2.2.2 _ hw) (by subst hr; exact fun _ z => z) hfi hde hnw hft hl hd0 (fun H1 locs1 hP1 hD1 hS1 => kk S hk hA hE H1 locs1 ls (kWd_set hW hq hP1) (kdom_up hd (hd a _ he)) hS1 hs)

theorem r_putS {C ref : String} {T : u_T} {N ci i a : Nat} {fs : List Value} {b : Value} {ty : FieldType} (hd0 : decode cc pc = .ok (.putfield i, 3)) (hin : ∀ w ∈ u_ws C T N, w ∈ Ts) (ty0 : Nat → FieldType) (hty : ∀ k, k < N → parseFieldDescriptor (T k).2.2.1 = some (ty0 k)) (hnm : ∀ a, a < N → ∀ b, b < N → a ≠ b → (T a).2.1 ≠ (T b).2.1) (he : h a = some (.inr (ci, fs))) (hc : kcl[ci]? = some (C, T, N)) (f : Nat) (hf : f < N) (hw : Cond.fieldLink own i ref (T f).2.1 (T f).2.2.1 ∈ Ts) (hr : Cond.sameField ref (T f).1 (T f).2.1 (T f).2.2.1 ∈ Ts) (hfi : (T f).2.2.2 = false) (hde : parseFieldDescriptor (T f).2.2.1 = some ty) (hnw : narrow ty b = b) (hft : fits ty b = true) (hl : f < fs.length) (kk : V E X R cc nL Ts own k n (kup h a (.inr (ci, fs.set f b))) lo (pc + 3) st) : V E X R cc nL Ts own k n h lo pc (b :: .ref a :: st) := by
  obtain ⟨⟨p, l, e, s, m, args, below, meth, c⟩, Q, A, tb⟩ := X
  intro S hk hA hE H locs ls hW hd hS hs
  obtain ⟨q0, hq⟩ := kL_at hW he
  exact va_put S.1 S.2.1 S.2.2.2.2 hin ty0 hty hnm S.2.2.2.1 hE.1.1 (kL_P hW) (kL_D hd) hS q0 hq hc f hf (S.2.2.2.2 _ hw) (fun x z => u_same (S.2.2.2.2 _ hr) x z) hfi hde hnw hft hl hd0 (fun H1 locs1 hP1 hD1 hS1 => kk S hk hA hE H1 locs1 ls (kWd_set hW hq hP1) (kdom_up hd (hd a _ he)) hS1 hs)

theorem r_iald {a N : Nat} {f : Nat → Int32} (hd0 : decode cc pc = .ok (.iaload, 1)) (he : h a = some (.inl (kI E, N, .inl f))) (hi : vp_in x N) (kk : V E X R cc nL Ts own k n h lo (pc + 1) (.int (f x.toNatClampNeg) :: st)) : V E X R cc nL Ts own k n h lo pc (.int x :: .ref a :: st) := by
  obtain ⟨⟨p, l, e, s, m, args, below, meth, c⟩, Q, A, tb⟩ := X
  intro S hk hA hE H locs ls hW hd hS hs
  exact va_iald S.1 S.2.1 hE.1.1 (kWd_P hW he) 0 0 rfl rfl hi hd0 (kk S hk hA hE H locs ls hW hd hS hs)

theorem r_zald {a N : Nat} {f : Nat → Int32} (hd0 : decode cc pc = .ok (.baload, 1)) (he : h a = some (.inl (kZ E, N, .inl f))) (hi : vp_in x N) (kk : V E X R cc nL Ts own k n h lo (pc + 1) (.int (f x.toNatClampNeg) :: st)) : V E X R cc nL Ts own k n h lo pc (.int x :: .ref a :: st) := by
  obtain ⟨⟨p, l, e, s, m, args, below, meth, c⟩, Q, A, tb⟩ := X
  intro S hk hA hE H locs ls hW hd hS hs
  exact va_zald S.1 S.2.1 hE.1.1 (kWd_P hW he) 0 1 rfl rfl hi hd0 (kk S hk hA hE H locs ls hW hd hS hs)

theorem r_lald {a N : Nat} {f : Nat → Int64} (hd0 : decode cc pc = .ok (.laload, 1)) (he : h a = some (.inl (kJ E, N, .inr (.inl f)))) (hi : vp_in x N) (kk : V E X R cc nL Ts own k n h lo (pc + 1) (.long (f x.toNatClampNeg) :: st)) : V E X R cc nL Ts own k n h lo pc (.int x :: .ref a :: st) := by
  obtain ⟨⟨p, l, e, s, m, args, below, meth, c⟩, Q, A, tb⟩ := X
  intro S hk hA hE H locs ls hW hd hS hs
  exact va_lald S.1 S.2.1 hE.1.1 (kWd_P hW he) 0 3 rfl rfl hi hd0 (kk S hk hA hE H locs ls hW hd hS hs)

theorem r_aald {a N : Nat} {f : Nat → Option Nat} (hd0 : decode cc pc = .ok (.aaload, 1)) (he : h a = some (.inl (kO E, N, .inr (.inr (.inr (.inr f)))))) (hi : vp_in x N) (kk : V E X R cc nL Ts own k n h lo (pc + 1) (va_rf (f x.toNatClampNeg) :: st)) : V E X R cc nL Ts own k n h lo pc (.int x :: .ref a :: st) := by
  obtain ⟨⟨p, l, e, s, m, args, below, meth, c⟩, Q, A, tb⟩ := X
  intro S hk hA hE H locs ls hW hd hS hs
  exact va_aldq S.1 S.2.1 hE.1.1 (kWd_P hW he) 0 2 rfl rfl hi hd0 (kk S hk hA hE H locs ls hW hd hS hs)

theorem r_iast {a N : Nat} {f : Nat → Int32} {x2 : Int32} (hd0 : decode cc pc = .ok (.iastore, 1)) (he : h a = some (.inl (kI E, N, .inl f))) (hi : vp_in x N) (kk : V E X R cc nL Ts own k n (kup h a (.inl (kI E, N, .inl (upd f x.toNatClampNeg x2)))) lo (pc + 1) st) : V E X R cc nL Ts own k n h lo pc (.int x2 :: .int x :: .ref a :: st) := by
  obtain ⟨⟨p, l, e, s, m, args, below, meth, c⟩, Q, A, tb⟩ := X
  intro S hk hA hE H locs ls hW hd hS hs
  obtain ⟨q0, hq⟩ := kL_at hW he
  exact va_iast S.1 S.2.1 hE.1.1 (kL_P hW) (kL_D hd) hS q0 0 hq rfl hi hd0 (fun H1 locs1 hP1 hD1 hS1 => kk S hk hA hE H1 locs1 ls (kWd_set hW hq hP1) (kdom_up hd (hd a _ he)) hS1 hs)

theorem r_zast {a N : Nat} {f : Nat → Int32} {x2 : Int32} (hd0 : decode cc pc = .ok (.bastore, 1)) (he : h a = some (.inl (kZ E, N, .inl f))) (hi : vp_in x N) (kk : V E X R cc nL Ts own k n (kup h a (.inl (kZ E, N, .inl (upd f x.toNatClampNeg (vp_nar .boolean x2))))) lo (pc + 1) st) : V E X R cc nL Ts own k n h lo pc (.int x2 :: .int x :: .ref a :: st) := by
  obtain ⟨⟨p, l, e, s, m, args, below, meth, c⟩, Q, A, tb⟩ := X
  intro S hk hA hE H locs ls hW hd hS hs
  obtain ⟨q0, hq⟩ := kL_at hW he
  exact va_zast S.1 S.2.1 hE.1.1 (kL_P hW) (kL_D hd) hS q0 1 hq rfl hi hd0 (fun H1 locs1 hP1 hD1 hS1 => kk S hk hA hE H1 locs1 ls (kWd_set hW hq hP1) (kdom_up hd (hd a _ he)) hS1 hs)

theorem r_last {a N : Nat} {f : Nat → Int64} {x2 : Int64} (hd0 : decode cc pc = .ok (.lastore, 1)) (he : h a = some (.inl (kJ E, N, .inr (.inl f)))) (hi : vp_in x N) (kk : V E X R cc nL Ts own k n (kup h a (.inl (kJ E, N, .inr (.inl (vp_updL f x.toNatClampNeg x2))))) lo (pc + 1) st) : V E X R cc nL Ts own k n h lo pc (.long x2 :: .int x :: .ref a :: st) := by
  obtain ⟨⟨p, l, e, s, m, args, below, meth, c⟩, Q, A, tb⟩ := X
  intro S hk hA hE H locs ls hW hd hS hs
  obtain ⟨q0, hq⟩ := kL_at hW he
  exact va_last S.1 S.2.1 hE.1.1 (kL_P hW) (kL_D hd) hS q0 3 hq rfl hi hd0 (fun H1 locs1 hP1 hD1 hS1 => kk S hk hA hE H1 locs1 ls (kWd_set hW hq hP1) (kdom_up hd (hd a _ he)) hS1 hs)

theorem r_alen {a N : Nat} {f : Nat → Option Nat} (hd0 : decode cc pc = .ok (.arraylength, 1)) (he : h a = some (.inl (kO E, N, .inr (.inr (.inr (.inr f)))))) (kk : V E X R cc nL Ts own k n h lo (pc + 1) (.int (Int32.ofNat N) :: st)) : V E X R cc nL Ts own k n h lo pc (.ref a :: st) := by
  obtain ⟨⟨p, l, e, s, m, args, below, meth, c⟩, Q, A, tb⟩ := X
  intro S hk hA hE H locs ls hW hd hS hs
  exact va_alen S.1 S.2.1 hE.1.1 (kWd_P hW he) 0 2 rfl rfl rfl hd0 (kk S hk hA hE H locs ls hW hd hS hs)

theorem r_new {C : String} {T : u_T} {N ci i : Nat} {fs : List Value} (hd0 : decode cc pc = .ok (.new i, 3)) (hin : ∀ w ∈ u_ws C T N, w ∈ Ts) (ty0 : Nat → FieldType) (hty : ∀ k, k < N → parseFieldDescriptor (T k).2.2.1 = some (ty0 k)) (hcl : Cond.classLink own i C ∈ Ts) (hins : Cond.instantiable C N ∈ Ts) (hini : Cond.initialized C ∈ Ts) (hc : kcl[ci]? = some (C, T, N)) (hfs : ∀ j, j < N → defaultValue (ty0 j) = vp_V fs j) (hk1 : k + 1 ≤ R.cells) (hn1 : n + N ≤ R.slots)
    (kk : ∀ q, h q = none → V E X R cc nL Ts own (k + 1) (n + N) (kup h q (.inr (ci, fs))) lo (pc + 3) (.ref q :: st)) : V E X R cc nL Ts own k n h lo pc st := by
  obtain ⟨⟨p, l, e, s, m, args, below, meth, c⟩, Q, A, tb⟩ := X
  intro S hk hA hE H locs ls hW hd hS hs
  exact va_new S.1 S.2.1 S.2.2.2.2 hin ty0 hty S.2.2.2.1 (S.2.2.2.2 _ hcl) (S.2.2.2.2 _ hins) (S.2.2.2.2 _ hini) hE.1.1 (kL_P hW) (kL_D hd) hS hA hc hfs hk1 hn1 hd0 (fun q H1 hP1 hD1 hS1 => kk q (kfresh hW hD1) S hk hA hE H1 locs ls (kWd_app (A := A) hW hP1) (kdom_up hd (hD1.2 (kL h H.size).length (q, .inr (ci, fs)) (by rw [List.getElem?_append_right (Nat.le_refl _), Nat.sub_self]; rfl))) hS1 hs)
theorem kcI {E : kE} {s : State} {cA : ClassId} {tys : List (ClassId × FieldType)} (hK : va_K E.1 kcl (ktys E) s) (h : va_K E.1 kcl (ktys E ++ [(cA, .int)]) s) : cA = kI E := by
  have a1 := (h.2 4 (cA, .int) rfl).2
  have a2 := (hK.2 0 (kI E, .int) rfl).2
  exact Option.some.inj (a1.symm.trans a2)
theorem kcZ {E : kE} {s : State} {cA : ClassId} {tys : List (ClassId × FieldType)} (hK : va_K E.1 kcl (ktys E) s) (h : va_K E.1 kcl (ktys E ++ [(cA, .boolean)]) s) : cA = kZ E := by
  have a1 := (h.2 4 (cA, .boolean) rfl).2
  have a2 := (hK.2 1 (kZ E, .boolean) rfl).2
  exact Option.some.inj (a1.symm.trans a2)
theorem kcJ {E : kE} {s : State} {cA : ClassId} {tys : List (ClassId × FieldType)} (hK : va_K E.1 kcl (ktys E) s) (h : va_K E.1 kcl (ktys E ++ [(cA, .long)]) s) : cA = kJ E := by
  have a1 := (h.2 4 (cA, .long) rfl).2
  have a2 := (hK.2 3 (kJ E, .long) rfl).2
  exact Option.some.inj (a1.symm.trans a2)
theorem kcO {E : kE} {s : State} {cA : ClassId} {tys : List (ClassId × FieldType)} (hK : va_K E.1 kcl (ktys E) s) (h : va_K E.1 kcl (ktys E ++ [(cA, .object "java/lang/Object")]) s) : cA = kO E := by
  obtain ⟨_, _, _, _, _, a1⟩ := (h.2 4 (cA, .object "java/lang/Object") rfl).2
  obtain ⟨_, _, _, _, _, a2⟩ := (hK.2 2 (kO E, .object "java/lang/Object") rfl).2
  exact Option.some.inj (a1.symm.trans a2)
theorem kcell_i (cA : ClassId) (N : Nat) : vp_cell cA (N, .inl (fun _ => 0)) = arrV cA N (fun _ => Value.int 0) := by rw [vp_cell_i]
theorem r_newI {N : Nat} (hd0 : decode cc pc = .ok (.newarray .int, 2)) (hac : Cond.arrayClass .int ∈ Ts) (hx : ¬ x < 0) (hN : x.toNatClampNeg = N) (hb : N * 4 ≤ 536870912) (hk1 : k + 1 ≤ R.cells) (hn1 : n + N ≤ R.slots)
    (kk : ∀ q, h q = none → V E X R cc nL Ts own (k + 1) (n + N) (kup h q (.inl (kI E, N, .inl (fun _ => 0)))) lo (pc + 2) (.ref q :: st)) : V E X R cc nL Ts own k n h lo pc (.int x :: st) := by
  obtain ⟨⟨p, l, e, s, m, args, below, meth, c⟩, Q, A, tb⟩ := X
  intro S hk hA hE H locs ls hW hd hS hs
  refine va_newa (atype := .int) (ty := .int) (a0 := (N, .inl (fun _ => 0))) S.1 S.2.1 (S.2.2.2.2 _ hac) rfl hE.1.1 (kL_P hW) (kL_D hd) hS hA (fun cA => kcell_i cA N) hx hN hb hk1 hn1 hd0 (fun q cA H1 hK1 hP1 hD1 hS1 => ?_)
  obtain rfl := kcI (tys := []) hE.1.1 hK1
  exact kk q (kfresh hW hD1) S hk hA hE H1 locs ls (kWd_app (A := A) hW hP1) (kdom_up hd (hD1.2 (kL h H.size).length (q, .inl (kI E, N, .inl (fun _ => 0))) (by rw [List.getElem?_append_right (Nat.le_refl _), Nat.sub_self]; rfl))) hS1 hs
theorem r_newZ {N : Nat} (hd0 : decode cc pc = .ok (.newarray .boolean, 2)) (hac : Cond.arrayClass .boolean ∈ Ts) (hx : ¬ x < 0) (hN : x.toNatClampNeg = N) (hb : N * 1 ≤ 536870912) (hk1 : k + 1 ≤ R.cells) (hn1 : n + N ≤ R.slots)
    (kk : ∀ q, h q = none → V E X R cc nL Ts own (k + 1) (n + N) (kup h q (.inl (kZ E, N, .inl (fun _ => 0)))) lo (pc + 2) (.ref q :: st)) : V E X R cc nL Ts own k n h lo pc (.int x :: st) := by
  obtain ⟨⟨p, l, e, s, m, args, below, meth, c⟩, Q, A, tb⟩ := X
  intro S hk hA hE H locs ls hW hd hS hs
  refine va_newa (atype := .boolean) (ty := .boolean) (a0 := (N, .inl (fun _ => 0))) S.1 S.2.1 (S.2.2.2.2 _ hac) rfl hE.1.1 (kL_P hW) (kL_D hd) hS hA (fun cA => kcell_i cA N) hx hN hb hk1 hn1 hd0 (fun q cA H1 hK1 hP1 hD1 hS1 => ?_)
  obtain rfl := kcZ (tys := []) hE.1.1 hK1
  exact kk q (kfresh hW hD1) S hk hA hE H1 locs ls (kWd_app (A := A) hW hP1) (kdom_up hd (hD1.2 (kL h H.size).length (q, .inl (kZ E, N, .inl (fun _ => 0))) (by rw [List.getElem?_append_right (Nat.le_refl _), Nat.sub_self]; rfl))) hS1 hs
theorem r_newJ {N : Nat} (hd0 : decode cc pc = .ok (.newarray .long, 2)) (hac : Cond.arrayClass .long ∈ Ts) (hx : ¬ x < 0) (hN : x.toNatClampNeg = N) (hb : N * 8 ≤ 536870912) (hk1 : k + 1 ≤ R.cells) (hn1 : n + N ≤ R.slots)
    (kk : ∀ q, h q = none → V E X R cc nL Ts own (k + 1) (n + N) (kup h q (.inl (kJ E, N, .inr (.inl (fun _ => 0))))) lo (pc + 2) (.ref q :: st)) : V E X R cc nL Ts own k n h lo pc (.int x :: st) := by
  obtain ⟨⟨p, l, e, s, m, args, below, meth, c⟩, Q, A, tb⟩ := X
  intro S hk hA hE H locs ls hW hd hS hs
  refine va_newa (atype := .long) (ty := .long) (a0 := (N, .inr (.inl (fun _ => 0)))) S.1 S.2.1 (S.2.2.2.2 _ hac) rfl hE.1.1 (kL_P hW) (kL_D hd) hS hA (fun cA => by rw [vp_cell_l]; rfl) hx hN hb hk1 hn1 hd0 (fun q cA H1 hK1 hP1 hD1 hS1 => ?_)
  obtain rfl := kcJ (tys := []) hE.1.1 hK1
  exact kk q (kfresh hW hD1) S hk hA hE H1 locs ls (kWd_app (A := A) hW hP1) (kdom_up hd (hD1.2 (kL h H.size).length (q, .inl (kJ E, N, .inr (.inl (fun _ => 0)))) (by rw [List.getElem?_append_right (Nat.le_refl _), Nat.sub_self]; rfl))) hS1 hs
theorem r_newO {N i : Nat} (hd0 : decode cc pc = .ok (.anewarray i, 3)) (hcl : Cond.classLink own i "java/lang/Object" ∈ Ts) (hx : ¬ x < 0) (hN : x.toNatClampNeg = N) (hb : N * 4 ≤ 536870912) (hk1 : k + 1 ≤ R.cells) (hn1 : n + N ≤ R.slots)
    (kk : ∀ q, h q = none → V E X R cc nL Ts own (k + 1) (n + N) (kup h q (.inl (kO E, N, .inr (.inr (.inr (.inr (fun _ => none))))))) lo (pc + 3) (.ref q :: st)) : V E X R cc nL Ts own k n h lo pc (.int x :: st) := by
  obtain ⟨⟨p, l, e, s, m, args, below, meth, c⟩, Q, A, tb⟩ := X
  intro S hk hA hE H locs ls hW hd hS hs
  refine va_newq S.1 S.2.1 S.2.2.2.1 (S.2.2.2.2 _ hcl) hE.1.2.2.2.2.2.1 hE.1.1 (kL_P hW) (kL_D hd) hS hA hx hN hb hk1 hn1 hd0 (fun q cA H1 hK1 hP1 hD1 hS1 => ?_)
  obtain rfl := kcO (tys := []) hE.1.1 hK1
  exact kk q (kfresh hW hD1) S hk hA hE H1 locs ls (kWd_app (A := A) hW hP1) (kdom_up hd (hD1.2 (kL h H.size).length (q, .inl (kO E, N, .inr (.inr (.inr (.inr (fun _ => none)))))) (by rw [List.getElem?_append_right (Nat.le_refl _), Nat.sub_self]; rfl))) hS1 hs
theorem r_mmax {i : Nat} (hd0 : decode cc pc = .ok (.invokestatic i, 3)) (h1 : Cond.methodLink own i Lib.Math.max.name ∈ Ts) (h2 : Cond.static Lib.Math.max.name ∈ Ts) (h3 : Cond.initialized "java/lang/Math" ∈ Ts) (h4 : Cond.code Lib.Math.max.name Lib.Math.max.code 2 (some .int) ∈ Ts) (hf : 1 ≤ R.frames) (hlo : (st.map fun v => v.category).sum + 13 ≤ R.locals) (hk1 : k ≤ R.cells) (hn1 : n ≤ R.slots)
    (kk : V E X R cc nL Ts own k n h lo (pc + 3) (.int (if x < y then y else x) :: st)) : V E X R cc nL Ts own k n h lo pc (.int y :: .int x :: st) := by
  obtain ⟨⟨p, l, e, s, m, args, below, meth, c⟩, Q, A, tb⟩ := X
  intro S hk hA hE H locs ls hW hd hS hs
  exact va_mmax S.1 S.2.1 (S.2.2.1.trans hs.1.symm) S.2.2.2.1 (S.2.2.2.2 _ h1) (S.2.2.2.2 _ h2) (S.2.2.2.2 _ h3) (S.2.2.2.2 _ h4) hf hlo hk1 hn1 hd0 (kk S hk hA hE H locs ls hW hd hS hs)
theorem r_cast {C : String} {T : u_T} {N ci i a : Nat} {fs : List Value} (hd0 : decode cc pc = .ok (.checkcast i, 3)) (hcl : Cond.classLink own i C ∈ Ts) (he : h a = some (.inr (ci, fs))) (hc : kcl[ci]? = some (C, T, N)) (kk : V E X R cc nL Ts own k n h lo (pc + 3) (.ref a :: st)) : V E X R cc nL Ts own k n h lo pc (.ref a :: st) := by
  obtain ⟨⟨p, l, e, s, m, args, below, meth, c⟩, Q, A, tb⟩ := X
  intro S hk hA hE H locs ls hW hd hS hs
  exact va_castS S.1 S.2.1 S.2.2.2.1 (S.2.2.2.2 _ hcl) (hE.1.1.1 ci _ hc).2 (va_recv hE.1.1 (kWd_P hW he) (q0 := 0) hc rfl) hd0 (kk S hk hA hE H locs ls hW hd hS hs)
theorem r_objInit {i a : Nat} (hd0 : decode cc pc = .ok (.invokespecial i, 3)) (h1 : Cond.methodLink own i objectInit ∈ Ts) (h2 : Cond.instanceMethod objectInit ∈ Ts) (h3 : Cond.code objectInit ⟨#[0xb1]⟩ 1 none ∈ Ts) (hf : 1 ≤ R.frames) (hlo : 2 * 0 + ((st).map fun v => v.category).sum + 12 ≤ R.locals) (kk : V E X R cc nL Ts own k n h lo (pc + 3) st) : V E X R cc nL Ts own k n h lo pc (.ref a :: st) := by
  obtain ⟨⟨p, l, e, s, m, args, below, meth, c⟩, Q, A, tb⟩ := X
  intro S hk hA hE H locs ls hW hd hS hs
  exact W.objInit S.1 S.2.1 S.2.2.2.1 (S.2.2.2.2 _ h1) (S.2.2.2.2 _ h2) (S.2.2.2.2 _ h3) rfl (by rw [S.2.2.1]; exact hs.1) rfl hd0 hf hlo (kk S hk hA hE H locs ls hW hd hS hs)

end KR
end
section
section
variable {p : Program} {l : Launch} {e : Env} {R : Room} {s : State} {m : MethodId} {args : Array Value} {below : List Frame} {meth : Method} {c : Code} {H : Heap} {locs : List Loc} {cells slots : Nat} {Q : State → Prop}
variable {mc ms : Nat} {free : Addr → Prop} {A0 A1 : Nat → Prop} {H0 : Heap} {a : Array Value} {pc : Nat} {ls : Array Slot} {st0 rest : List Value}
theorem vx_callq {S SX : Type} {post : Option Nat → S → Prop} {px : SX → Prop} {B : S → State → Prop} {BX : String → SX → State → Prop} {AX : Nat → Prop} (hr : vx_Run p l e R s m args below meth c H locs cells slots mc ms (F0 m pc ls st0) rest (va_Qq post B A1 a) (vx_X px BX AX) free) (hS : va_S A0 H0 H locs) (hA : ∀ q, q < H.size → A1 q → A0 q) (hf : ∀ q, free q → A0 q) (hAX : ∀ q, q < H.size → AX q → A0 q)
    (kx : ∀ (E : String) (ce : Cell) (q9 : Addr) (u : SX) (t : State) (H1 : Heap) (locs1 : List Loc), t.heap = H1 → s.vm.Alike t.vm → px u → BX E u t → H.size ≤ H1.size → (∀ q : Nat, q < H.size → ¬ AX q → H1[q]? = H[q]?) → va_S A0 H0 H1 locs1 → H1[q9]? = some ce → ce.vm = .none → s.vm.findClass E = some ce.cls → vx_W p l e R s m args below meth c H1 locs1 (cells + mc) (slots + ms) Q (F0 m pc ls rest) q9)
    (kk : ∀ (r : Option Nat) (u : S) (t : State) (H1 : Heap) (locs1 : List Loc), t.heap = H1 → s.vm.Alike t.vm → post r u → B u t → H.size ≤ H1.size → (∀ q : Nat, q < H.size → ¬ A1 q → H1[q]? = H[q]?) → va_S A0 H0 H1 locs1 → W p l e R s m args below meth c H1 locs1 (cells + mc) (slots + ms) Q (F0 m (pc + 3) ls (va_rf r :: rest))) : W p l e R s m args below meth c H locs cells slots Q (F0 m pc ls st0) := by
  intro T hT X
  rcases hr T hT X with ⟨v, st₀, t, T', L, h0, X', hL, e1, e2, ⟨⟨r, u, hv, hp, hb⟩, hF⟩, st⟩ | ⟨q, st₀, t, T', L, E, ce, h0, X', hL, e1, e2, ⟨u, hp, hb, hF⟩, hce, hcv, hcl, st⟩
  · cases hv
    obtain ⟨k1, k2, k3⟩ := vx_keep h0 e1 hS hA hf hL hF
    obtain ⟨t2, a1, b1⟩ := kk r u t T'.heap (locs ++ L) e1.symm (by rw [← e2]; exact X'.warmed.alike) hp hb k1 k2 k3 T' rfl X'
    exact ⟨t2, st t2 a1, b1⟩
  · obtain ⟨k1, k2, k3⟩ := vx_keep h0 e1 hS hAX hf hL hF
    obtain ⟨t2, a1, b1⟩ := kx E ce q u t T'.heap (locs ++ L) e1.symm (by rw [← e2]; exact X'.warmed.alike) hp hb k1 k2 k3 (by rw [e1]; exact hce) hcv hcl T' rfl X'
    exact ⟨t2, st.trans a1, b1⟩
end
/-! ===== END ===== -/
end
section
/-! contracts over the map, and calls of them -/
def kPc (E : kE) (h : kH) (sz : Nat) : State → Prop := fun U => U.heap.size = sz ∧ kT E U ∧ kZs E (kA h sz) U U.heap ∧ kWd E h U.heap
def kB (E : kE) (h0 : kH) (sz : Nat) (h' : kH) (t : State) : Prop := kWd E h' t.heap ∧ ∀ q z, h' q = some z → kA h0 sz q
def kXQ (E : kE) (h0 : kH) (sz : Nat) (px : String → kH → Prop) : String → State → State → Prop := vx_X (fun u : String × kH => px u.1 u.2) (fun Ec u t => Ec = u.1 ∧ kB E h0 sz u.2 t) (kA h0 sz)
abbrev kQi (E : kE) (h : kH) (sz : Nat) (post : Int32 → kH → Prop) := va_Qi post (kB E h sz) (kA h sz)
abbrev kQq (E : kE) (h : kH) (sz : Nat) (post : Option Nat → kH → Prop) := va_Qq post (kB E h sz) (kA h sz)
abbrev kQv (E : kE) (h : kH) (sz : Nat) (post : kH → Prop) := va_Qv post (kB E h sz) (kA h sz)

def kCi (E : kE) (y : MethodName) (ws : List Cond) (rm : Room) (mc ms : Nat) (av : List Value) (h : kH) (post : Int32 → kH → Prop) : Prop := ∀ (l : Launch) (sz : Nat), l.stackTraces = false → Met l y ws rm (va_Pc av (kPc E h sz)) (kQi E h sz post) mc ms (kA h sz)
def kXi (E : kE) (y : MethodName) (ws : List Cond) (rm : Room) (mc ms : Nat) (av : List Value) (h : kH) (px : String → kH → Prop) (post : Int32 → kH → Prop) : Prop := ∀ (l : Launch) (sz : Nat), l.stackTraces = false → vx_Met l y ws rm (va_Pc av (kPc E h sz)) (kQi E h sz post) (kXQ E h sz px) mc ms (kA h sz)
def kCq (E : kE) (y : MethodName) (ws : List Cond) (rm : Room) (mc ms : Nat) (av : List Value) (h : kH) (post : Option Nat → kH → Prop) : Prop := ∀ (l : Launch) (sz : Nat), l.stackTraces = false → Met l y ws rm (va_Pc av (kPc E h sz)) (kQq E h sz post) mc ms (kA h sz)
def kXq (E : kE) (y : MethodName) (ws : List Cond) (rm : Room) (mc ms : Nat) (av : List Value) (h : kH) (px : String → kH → Prop) (post : Option Nat → kH → Prop) : Prop := ∀ (l : Launch) (sz : Nat), l.stackTraces = false → vx_Met l y ws rm (va_Pc av (kPc E h sz)) (kQq E h sz post) (kXQ E h sz px) mc ms (kA h sz)
def kCv (E : kE) (y : MethodName) (ws : List Cond) (rm : Room) (mc ms : Nat) (av : List Value) (h : kH) (post : kH → Prop) : Prop := ∀ (l : Launch) (sz : Nat), l.stackTraces = false → Met l y ws rm (va_Pc av (kPc E h sz)) (kQv E h sz post) mc ms (kA h sz)
def kXv (E : kE) (y : MethodName) (ws : List Cond) (rm : Room) (mc ms : Nat) (av : List Value) (h : kH) (px : String → kH → Prop) (post : kH → Prop) : Prop := ∀ (l : Launch) (sz : Nat), l.stackTraces = false → vx_Met l y ws rm (va_Pc av (kPc E h sz)) (kQv E h sz post) (kXQ E h sz px) mc ms (kA h sz)
theorem kPc_blind {E : kE} {h : kH} {sz : Nat} {av : List Value} : FrameBlind (va_Pc av (kPc E h sz)) := fun a U g mk q => ⟨q.1, q.2.1, kT_same (U := U.calling g mk a) rfl q.2.2.1, kZs_moved (U := U.calling g mk a) (Vm.Alike.refl U.vm) q.2.2.2.1, q.2.2.2.2⟩
theorem kAq {A : Nat → Prop} {h : kH} {H0 H : Heap} {locs : List Loc} (hA : ∀ q, H0.size ≤ q → A q) (hd : ∀ q z, h q = some z → A q) (hS : va_S A H0 H locs) : ∀ q, kA h H.size q → A q := by
  intro q hq
  rcases hq with hq | hq
  · cases c : h q with
    | none => exact absurd c hq
    | some z => exact hd q z c
  · exact hA q (Nat.le_trans hS.1 hq)
theorem kPc_at {E : kE} {A : Nat → Prop} {h : kH} {s U : State} {H : Heap} {locs : List Loc} {av : List Value} (hA : ∀ q, s.heap.size ≤ q → A q) (hE : kT E s ∧ kZs E A s s.heap) (hW : kWd E h H) (hd : ∀ q z, h q = some z → A q) (hS : va_S A s.heap H locs) (hU : U.heap = H) (hw : s.WarmedH U.vm) : va_Pc av (kPc E h H.size) av.toArray U := by
  subst hU
  exact ⟨rfl, rfl, kT_warm hw hE.1, kZs_moved hw.alike (kZs_narrow (kZs_kept hE.2 (fun a h1 h2 => hS.2.1 a h1 h2)) (kAq hA hd hS)), hW⟩
theorem kdom0 {h : kH} {sz : Nat} : ∀ q z, h q = some z → kA h sz q := fun q z hz => Or.inl (by rw [hz]; simp)
section KC
variable {E : kE} {X : kX} {R : Room} {cc : ByteArray} {nL : Nat} {Ts : List Cond} {own : String} {k n : Nat} {h : kH} {lo lo' : List (Nat × Value)} {pc tgt : Nat} {st : List Value} {x v : Int32}
variable {y : MethodName} {bytes : ByteArray} {maxL mc ms nn i ci b : Nat} {ret : Option FieldType} {ws ws' : List Cond} {rm : Room} {C : String} {T : u_T} {N : Nat} {As stk : List Value} {fs : List Value} {px : String → kH → Prop}

theorem r_callVi {post : Int32 → kH → Prop} (hd0 : decode cc pc = .ok (.invokevirtual i, 3)) (hC : kCi E y ws rm mc ms (.ref b :: As) h post) (hg : GoodIn Ts (wsV own i C y ws)) (hw : ws = Cond.code y bytes maxL ret :: ws') (hy : y.cls = C ∧ y.cls ≠ "java/lang/invoke/MethodHandle" ∧ y.cls ≠ "java/lang/invoke/VarHandle" ∧ (parseMethodDescriptor y.desc).map (fun d => d.parameters.length) = some nn) (hR : rm.frames + 1 ≤ R.frames ∧ 8 + (maxL + 11) + rm.locals ≤ R.locals) (hrm : rm.cells = mc ∧ rm.slots = ms) (he : h b = some (.inr (ci, fs))) (hc : kcl[ci]? = some (C, T, N)) (hn : As.length = nn) (hcat : (st.map fun v => v.category).sum ≤ 8) (hroom : k + mc ≤ R.cells ∧ n + ms ≤ R.slots) (hst : stk = As.reverse ++ .ref b :: st)
    (kk : ∀ r h', post r h' → V E X R cc nL Ts own (k + mc) (n + ms) h' lo (pc + 3) (.int r :: st)) : V E X R cc nL Ts own k n h lo pc stk := by
  obtain ⟨⟨p, l, e, s, m, args, below, meth, c⟩, Q, A, tb⟩ := X
  intro S hk hA hE H locs ls hW hd hS hs
  subst hst
  exact va_calli (va_runV (As := As) (rest := st) ⟨S.1, S.2.1, S.2.2.1, S.2.2.2.1, S.2.2.2.2⟩ (hC l H.size hk.2.1) (cwV nn S.2.2.2.2 hg hw hrm.1 hrm.2 hy hR) ⟨kPc_blind, va_recv hE.1.1 (kWd_P hW he) (q0 := 0) hc rfl, fun U hU hw2 => kPc_at hA hE hW hd hS hU hw2⟩ rfl hn hs.1 rfl (lv_room hcat) hd0 hroom) hS (fun q _ hq => kAq hA hd hS q hq) (fun q hq => kAq hA hd hS q hq) (fun r h' t H1 locs1 ht hvm hp hB hz hkeep hS1 => kk r h' hp S hk hA hE H1 locs1 ls (by rw [← ht]; exact hB.1) (fun q z hz9 => kAq hA hd hS q (hB.2 q z hz9)) hS1 hs)

theorem r_callSi {post : Int32 → kH → Prop} (hd0 : decode cc pc = .ok (.invokestatic i, 3)) (hC : kCi E y ws rm mc ms As h post) (hg : GoodIn Ts (va_wsS own i y ws)) (hw : ws = Cond.code y bytes maxL ret :: ws') (hy : y.cls ≠ "java/lang/invoke/MethodHandle" ∧ y.cls ≠ "java/lang/invoke/VarHandle" ∧ (parseMethodDescriptor y.desc).map (fun d => d.parameters.length) = some nn) (hR : rm.frames + 1 ≤ R.frames ∧ 8 + (maxL + 11) + rm.locals ≤ R.locals) (hrm : rm.cells = mc ∧ rm.slots = ms) (hn : As.length = nn) (hcat : (st.map fun v => v.category).sum ≤ 8) (hroom : k + mc ≤ R.cells ∧ n + ms ≤ R.slots) (hst : stk = As.reverse ++ st)
    (kk : ∀ r h', post r h' → V E X R cc nL Ts own (k + mc) (n + ms) h' lo (pc + 3) (.int r :: st)) : V E X R cc nL Ts own k n h lo pc stk := by
  obtain ⟨⟨p, l, e, s, m, args, below, meth, c⟩, Q, A, tb⟩ := X
  intro S hk hA hE H locs ls hW hd hS hs
  subst hst
  exact va_calli (va_runS (As := As) (rest := st) ⟨S.1, S.2.1, S.2.2.1, S.2.2.2.1, S.2.2.2.2⟩ (hC l H.size hk.2.1) (va_cwS nn S.2.2.2.2 hg hw hrm.1 hrm.2 hy hR) ⟨kPc_blind, fun U hU hw2 => kPc_at hA hE hW hd hS hU hw2⟩ rfl hn hs.1 rfl (lv_room hcat) hd0 hroom) hS (fun q _ hq => kAq hA hd hS q hq) (fun q hq => kAq hA hd hS q hq) (fun r h' t H1 locs1 ht hvm hp hB hz hkeep hS1 => kk r h' hp S hk hA hE H1 locs1 ls (by rw [← ht]; exact hB.1) (fun q z hz9 => kAq hA hd hS q (hB.2 q z hz9)) hS1 hs)

theorem r_callXVi {post : Int32 → kH → Prop} (hd0 : decode cc pc = .ok (.invokevirtual i, 3)) (hC : kXi E y ws rm mc ms (.ref b :: As) h px post) (hg : GoodIn Ts (wsV own i C y ws)) (hw : ws = Cond.code y bytes maxL ret :: ws') (hy : y.cls = C ∧ y.cls ≠ "java/lang/invoke/MethodHandle" ∧ y.cls ≠ "java/lang/invoke/VarHandle" ∧ (parseMethodDescriptor y.desc).map (fun d => d.parameters.length) = some nn) (hR : rm.frames + 1 ≤ R.frames ∧ 8 + (maxL + 11) + rm.locals ≤ R.locals) (hrm : rm.cells = mc ∧ rm.slots = ms) (he : h b = some (.inr (ci, fs))) (hc : kcl[ci]? = some (C, T, N)) (hn : As.length = nn) (hcat : (st.map fun v => v.category).sum ≤ 8) (hroom : k + mc ≤ R.cells ∧ n + ms ≤ R.slots) (hst : stk = As.reverse ++ .ref b :: st)
    (kx : ∀ Ec h', px Ec h' → VX E X R cc nL Ts own (k + mc) (n + ms) h' lo pc Ec) (kk : ∀ r h', post r h' → V E X R cc nL Ts own (k + mc) (n + ms) h' lo (pc + 3) (.int r :: st)) : V E X R cc nL Ts own k n h lo pc stk := by
  obtain ⟨⟨p, l, e, s, m, args, below, meth, c⟩, Q, A, tb⟩ := X
  intro S hk hA hE H locs ls hW hd hS hs
  subst hst
  exact vx_calli (vx_runV (As := As) (rest := st) ⟨S.1, S.2.1, S.2.2.1, S.2.2.2.1, S.2.2.2.2⟩ (hC l H.size hk.2.1) (cwV nn S.2.2.2.2 hg hw hrm.1 hrm.2 hy hR) ⟨kPc_blind, va_recv hE.1.1 (kWd_P hW he) (q0 := 0) hc rfl, fun U hU hw2 => kPc_at hA hE hW hd hS hU hw2⟩ rfl hn hs.1 rfl (lv_room hcat) hd0 hroom) hS (fun q _ hq => kAq hA hd hS q hq) (fun q hq => kAq hA hd hS q hq) (fun q _ hq => kAq hA hd hS q hq) (fun Ec ce q9 u t H1 locs1 ht hvm hp hB hz hkeep hS1 hc1 hc2 hc3 => by obtain ⟨rfl, hB1, hB2⟩ := hB; exact kx _ u.2 hp S hk hA hE H1 locs1 ls _ ce q9 (by rw [← ht]; exact hB1) (fun q z hz9 => kAq hA hd hS q (hB2 q z hz9)) hS1 hs hc1 hc2 hc3) (fun r h' t H1 locs1 ht hvm hp hB hz hkeep hS1 => kk r h' hp S hk hA hE H1 locs1 ls (by rw [← ht]; exact hB.1) (fun q z hz9 => kAq hA hd hS q (hB.2 q z hz9)) hS1 hs)

theorem r_callXSi {post : Int32 → kH → Prop} (hd0 : decode cc pc = .ok (.invokestatic i, 3)) (hC : kXi E y ws rm mc ms As h px post) (hg : GoodIn Ts (va_wsS own i y ws)) (hw : ws = Cond.code y bytes maxL ret :: ws') (hy : y.cls ≠ "java/lang/invoke/MethodHandle" ∧ y.cls ≠ "java/lang/invoke/VarHandle" ∧ (parseMethodDescriptor y.desc).map (fun d => d.parameters.length) = some nn) (hR : rm.frames + 1 ≤ R.frames ∧ 8 + (maxL + 11) + rm.locals ≤ R.locals) (hrm : rm.cells = mc ∧ rm.slots = ms) (hn : As.length = nn) (hcat : (st.map fun v => v.category).sum ≤ 8) (hroom : k + mc ≤ R.cells ∧ n + ms ≤ R.slots) (hst : stk = As.reverse ++ st)
    (kx : ∀ Ec h', px Ec h' → VX E X R cc nL Ts own (k + mc) (n + ms) h' lo pc Ec) (kk : ∀ r h', post r h' → V E X R cc nL Ts own (k + mc) (n + ms) h' lo (pc + 3) (.int r :: st)) : V E X R cc nL Ts own k n h lo pc stk := by
  obtain ⟨⟨p, l, e, s, m, args, below, meth, c⟩, Q, A, tb⟩ := X
  intro S hk hA hE H locs ls hW hd hS hs
  subst hst
  exact vx_calli (vx_runS (As := As) (rest := st) ⟨S.1, S.2.1, S.2.2.1, S.2.2.2.1, S.2.2.2.2⟩ (hC l H.size hk.2.1) (va_cwS nn S.2.2.2.2 hg hw hrm.1 hrm.2 hy hR) ⟨kPc_blind, fun U hU hw2 => kPc_at hA hE hW hd hS hU hw2⟩ rfl hn hs.1 rfl (lv_room hcat) hd0 hroom) hS (fun q _ hq => kAq hA hd hS q hq) (fun q hq => kAq hA hd hS q hq) (fun q _ hq => kAq hA hd hS q hq) (fun Ec ce q9 u t H1 locs1 ht hvm hp hB hz hkeep hS1 hc1 hc2 hc3 => by obtain ⟨rfl, hB1, hB2⟩ := hB; exact kx _ u.2 hp S hk hA hE H1 locs1 ls _ ce q9 (by rw [← ht]; exact hB1) (fun q z hz9 => kAq hA hd hS q (hB2 q z hz9)) hS1 hs hc1 hc2 hc3) (fun r h' t H1 locs1 ht hvm hp hB hz hkeep hS1 => kk r h' hp S hk hA hE H1 locs1 ls (by rw [← ht]; exact hB.1) (fun q z hz9 => kAq hA hd hS q (hB.2 q z hz9)) hS1 hs)

theorem r_callVq {post : Option Nat → kH → Prop} (hd0 : decode cc pc = .ok (.invokevirtual i, 3)) (hC : kCq E y ws rm mc ms (.ref b :: As) h post) (hg : GoodIn Ts (wsV own i C y ws)) (hw : ws = Cond.code y bytes maxL ret :: ws') (hy : y.cls = C ∧ y.cls ≠ "java/lang/invoke/MethodHandle" ∧ y.cls ≠ "java/lang/invoke/VarHandle" ∧ (parseMethodDescriptor y.desc).map (fun d => d.parameters.length) = some nn) (hR : rm.frames + 1 ≤ R.frames ∧ 8 + (maxL + 11) + rm.locals ≤ R.locals) (hrm : rm.cells = mc ∧ rm.slots = ms) (he : h b = some (.inr (ci, fs))) (hc : kcl[ci]? = some (C, T, N)) (hn : As.length = nn) (hcat : (st.map fun v => v.category).sum ≤ 8) (hroom : k + mc ≤ R.cells ∧ n + ms ≤ R.slots) (hst : stk = As.reverse ++ .ref b :: st)
    (kk : ∀ r h', post r h' → V E X R cc nL Ts own (k + mc) (n + ms) h' lo (pc + 3) (va_rf r :: st)) : V E X R cc nL Ts own k n h lo pc stk := by
  obtain ⟨⟨p, l, e, s, m, args, below, meth, c⟩, Q, A, tb⟩ := X
  intro S hk hA hE H locs ls hW hd hS hs
  subst hst
  exact va_callq (va_runV (As := As) (rest := st) ⟨S.1, S.2.1, S.2.2.1, S.2.2.2.1, S.2.2.2.2⟩ (hC l H.size hk.2.1) (cwV nn S.2.2.2.2 hg hw hrm.1 hrm.2 hy hR) ⟨kPc_blind, va_recv hE.1.1 (kWd_P hW he) (q0 := 0) hc rfl, fun U hU hw2 => kPc_at hA hE hW hd hS hU hw2⟩ rfl hn hs.1 rfl (lv_room hcat) hd0 hroom) hS (fun q _ hq => kAq hA hd hS q hq) (fun q hq => kAq hA hd hS q hq) (fun r h' t H1 locs1 ht hvm hp hB hz hkeep hS1 => kk r h' hp S hk hA hE H1 locs1 ls (by rw [← ht]; exact hB.1) (fun q z hz9 => kAq hA hd hS q (hB.2 q z hz9)) hS1 hs)

theorem r_callSq {post : Option Nat → kH → Prop} (hd0 : decode cc pc = .ok (.invokestatic i, 3)) (hC : kCq E y ws rm mc ms As h post) (hg : GoodIn Ts (va_wsS own i y ws)) (hw : ws = Cond.code y bytes maxL ret :: ws') (hy : y.cls ≠ "java/lang/invoke/MethodHandle" ∧ y.cls ≠ "java/lang/invoke/VarHandle" ∧ (parseMethodDescriptor y.desc).map (fun d => d.parameters.length) = some nn) (hR : rm.frames + 1 ≤ R.frames ∧ 8 + (maxL + 11) + rm.locals ≤ R.locals) (hrm : rm.cells = mc ∧ rm.slots = ms) (hn : As.length = nn) (hcat : (st.map fun v => v.category).sum ≤ 8) (hroom : k + mc ≤ R.cells ∧ n + ms ≤ R.slots) (hst : stk = As.reverse ++ st)
    (kk : ∀ r h', post r h' → V E X R cc nL Ts own (k + mc) (n + ms) h' lo (pc + 3) (va_rf r :: st)) : V E X R cc nL Ts own k n h lo pc stk := by
  obtain ⟨⟨p, l, e, s, m, args, below, meth, c⟩, Q, A, tb⟩ := X
  intro S hk hA hE H locs ls hW hd hS hs
  subst hst
  exact va_callq (va_runS (As := As) (rest := st) ⟨S.1, S.2.1, S.2.2.1, S.2.2.2.1, S.2.2.2.2⟩ (hC l H.size hk.2.1) (va_cwS nn S.2.2.2.2 hg hw hrm.1 hrm.2 hy hR) ⟨kPc_blind, fun U hU hw2 => kPc_at hA hE hW hd hS hU hw2⟩ rfl hn hs.1 rfl (lv_room hcat) hd0 hroom) hS (fun q _ hq => kAq hA hd hS q hq) (fun q hq => kAq hA hd hS q hq) (fun r h' t H1 locs1 ht hvm hp hB hz hkeep hS1 => kk r h' hp S hk hA hE H1 locs1 ls (by rw [← ht]; exact hB.1) (fun q z hz9 => kAq hA hd hS q (hB.2 q z hz9)) hS1 hs)

theorem r_callXVq {post : Option Nat → kH → Prop} (hd0 : decode cc pc = .ok (.invokevirtual i, 3)) (hC : kXq E y ws rm mc ms (.ref b :: As) h px post) (hg : GoodIn Ts (wsV own i C y ws)) (hw : ws = Cond.code y bytes maxL ret :: ws') (hy : y.cls = C ∧ y.cls ≠ "java/lang/invoke/MethodHandle" ∧ y.cls ≠ "java/lang/invoke/VarHandle" ∧ (parseMethodDescriptor y.desc).map (fun d => d.parameters.length) = some nn) (hR : rm.frames + 1 ≤ R.frames ∧ 8 + (maxL + 11) + rm.locals ≤ R.locals) (hrm : rm.cells = mc ∧ rm.slots = ms) (he : h b = some (.inr (ci, fs))) (hc : kcl[ci]? = some (C, T, N)) (hn : As.length = nn) (hcat : (st.map fun v => v.category).sum ≤ 8) (hroom : k + mc ≤ R.cells ∧ n + ms ≤ R.slots) (hst : stk = As.reverse ++ .ref b :: st)
    (kx : ∀ Ec h', px Ec h' → VX E X R cc nL Ts own (k + mc) (n + ms) h' lo pc Ec) (kk : ∀ r h', post r h' → V E X R cc nL Ts own (k + mc) (n + ms) h' lo (pc + 3) (va_rf r :: st)) : V E X R cc nL Ts own k n h lo pc stk := by
  obtain ⟨⟨p, l, e, s, m, args, below, meth, c⟩, Q, A, tb⟩ := X
  intro S hk hA hE H locs ls hW hd hS hs
  subst hst
  exact vx_callq (vx_runV (As := As) (rest := st) ⟨S.1, S.2.1, S.2.2.1, S.2.2.2.1, S.2.2.2.2⟩ (hC l H.size hk.2.1) (cwV nn S.2.2.2.2 hg hw hrm.1 hrm.2 hy hR) ⟨kPc_blind, va_recv hE.1.1 (kWd_P hW he) (q0 := 0) hc rfl, fun U hU hw2 => kPc_at hA hE hW hd hS hU hw2⟩ rfl hn hs.1 rfl (lv_room hcat) hd0 hroom) hS (fun q _ hq => kAq hA hd hS q hq) (fun q hq => kAq hA hd hS q hq) (fun q _ hq => kAq hA hd hS q hq) (fun Ec ce q9 u t H1 locs1 ht hvm hp hB hz hkeep hS1 hc1 hc2 hc3 => by obtain ⟨rfl, hB1, hB2⟩ := hB; exact kx _ u.2 hp S hk hA hE H1 locs1 ls _ ce q9 (by rw [← ht]; exact hB1) (fun q z hz9 => kAq hA hd hS q (hB2 q z hz9)) hS1 hs hc1 hc2 hc3) (fun r h' t H1 locs1 ht hvm hp hB hz hkeep hS1 => kk r h' hp S hk hA hE H1 locs1 ls (by rw [← ht]; exact hB.1) (fun q z hz9 => kAq hA hd hS q (hB.2 q z hz9)) hS1 hs)

theorem r_callXSq {post : Option Nat → kH → Prop} (hd0 : decode cc pc = .ok (.invokestatic i, 3)) (hC : kXq E y ws rm mc ms As h px post) (hg : GoodIn Ts (va_wsS own i y ws)) (hw : ws = Cond.code y bytes maxL ret :: ws') (hy : y.cls ≠ "java/lang/invoke/MethodHandle" ∧ y.cls ≠ "java/lang/invoke/VarHandle" ∧ (parseMethodDescriptor y.desc).map (fun d => d.parameters.length) = some nn) (hR : rm.frames + 1 ≤ R.frames ∧ 8 + (maxL + 11) + rm.locals ≤ R.locals) (hrm : rm.cells = mc ∧ rm.slots = ms) (hn : As.length = nn) (hcat : (st.map fun v => v.category).sum ≤ 8) (hroom : k + mc ≤ R.cells ∧ n + ms ≤ R.slots) (hst : stk = As.reverse ++ st)
    (kx : ∀ Ec h', px Ec h' → VX E X R cc nL Ts own (k + mc) (n + ms) h' lo pc Ec) (kk : ∀ r h', post r h' → V E X R cc nL Ts own (k + mc) (n + ms) h' lo (pc + 3) (va_rf r :: st)) : V E X R cc nL Ts own k n h lo pc stk := by
  obtain ⟨⟨p, l, e, s, m, args, below, meth, c⟩, Q, A, tb⟩ := X
  intro S hk hA hE H locs ls hW hd hS hs
  subst hst
  exact vx_callq (vx_runS (As := As) (rest := st) ⟨S.1, S.2.1, S.2.2.1, S.2.2.2.1, S.2.2.2.2⟩ (hC l H.size hk.2.1) (va_cwS nn S.2.2.2.2 hg hw hrm.1 hrm.2 hy hR) ⟨kPc_blind, fun U hU hw2 => kPc_at hA hE hW hd hS hU hw2⟩ rfl hn hs.1 rfl (lv_room hcat) hd0 hroom) hS (fun q _ hq => kAq hA hd hS q hq) (fun q hq => kAq hA hd hS q hq) (fun q _ hq => kAq hA hd hS q hq) (fun Ec ce q9 u t H1 locs1 ht hvm hp hB hz hkeep hS1 hc1 hc2 hc3 => by obtain ⟨rfl, hB1, hB2⟩ := hB; exact kx _ u.2 hp S hk hA hE H1 locs1 ls _ ce q9 (by rw [← ht]; exact hB1) (fun q z hz9 => kAq hA hd hS q (hB2 q z hz9)) hS1 hs hc1 hc2 hc3) (fun r h' t H1 locs1 ht hvm hp hB hz hkeep hS1 => kk r h' hp S hk hA hE H1 locs1 ls (by rw [← ht]; exact hB.1) (fun q z hz9 => kAq hA hd hS q (hB.2 q z hz9)) hS1 hs)

theorem r_callVv {post : kH → Prop} (hd0 : decode cc pc = .ok (.invokevirtual i, 3)) (hC : kCv E y ws rm mc ms (.ref b :: As) h post) (hg : GoodIn Ts (wsV own i C y ws)) (hw : ws = Cond.code y bytes maxL ret :: ws') (hy : y.cls = C ∧ y.cls ≠ "java/lang/invoke/MethodHandle" ∧ y.cls ≠ "java/lang/invoke/VarHandle" ∧ (parseMethodDescriptor y.desc).map (fun d => d.parameters.length) = some nn) (hR : rm.frames + 1 ≤ R.frames ∧ 8 + (maxL + 11) + rm.locals ≤ R.locals) (hrm : rm.cells = mc ∧ rm.slots = ms) (he : h b = some (.inr (ci, fs))) (hc : kcl[ci]? = some (C, T, N)) (hn : As.length = nn) (hcat : (st.map fun v => v.category).sum ≤ 8) (hroom : k + mc ≤ R.cells ∧ n + ms ≤ R.slots) (hst : stk = As.reverse ++ .ref b :: st)
    (kk : ∀ h', post h' → V E X R cc nL Ts own (k + mc) (n + ms) h' lo (pc + 3) st) : V E X R cc nL Ts own k n h lo pc stk := by
  obtain ⟨⟨p, l, e, s, m, args, below, meth, c⟩, Q, A, tb⟩ := X
  intro S hk hA hE H locs ls hW hd hS hs
  subst hst
  exact va_callv (va_runV (As := As) (rest := st) ⟨S.1, S.2.1, S.2.2.1, S.2.2.2.1, S.2.2.2.2⟩ (hC l H.size hk.2.1) (cwV nn S.2.2.2.2 hg hw hrm.1 hrm.2 hy hR) ⟨kPc_blind, va_recv hE.1.1 (kWd_P hW he) (q0 := 0) hc rfl, fun U hU hw2 => kPc_at hA hE hW hd hS hU hw2⟩ rfl hn hs.1 rfl (lv_room hcat) hd0 hroom) hS (fun q _ hq => kAq hA hd hS q hq) (fun q hq => kAq hA hd hS q hq) (fun h' t H1 locs1 ht hvm hp hB hz hkeep hS1 => kk h' hp S hk hA hE H1 locs1 ls (by rw [← ht]; exact hB.1) (fun q z hz9 => kAq hA hd hS q (hB.2 q z hz9)) hS1 hs)

theorem r_callSv {post : kH → Prop} (hd0 : decode cc pc = .ok (.invokestatic i, 3)) (hC : kCv E y ws rm mc ms As h post) (hg : GoodIn Ts (va_wsS own i y ws)) (hw : ws = Cond.code y bytes maxL ret :: ws') (hy : y.cls ≠ "java/lang/invoke/MethodHandle" ∧ y.cls ≠ "java/lang/invoke/VarHandle" ∧ (parseMethodDescriptor y.desc).map (fun d => d.parameters.length) = some nn) (hR : rm.frames + 1 ≤ R.frames ∧ 8 + (maxL + 11) + rm.locals ≤ R.locals) (hrm : rm.cells = mc ∧ rm.slots = ms) (hn : As.length = nn) (hcat : (st.map fun v => v.category).sum ≤ 8) (hroom : k + mc ≤ R.cells ∧ n + ms ≤ R.slots) (hst : stk = As.reverse ++ st)
    (kk : ∀ h', post h' → V E X R cc nL Ts own (k + mc) (n + ms) h' lo (pc + 3) st) : V E X R cc nL Ts own k n h lo pc stk := by
  obtain ⟨⟨p, l, e, s, m, args, below, meth, c⟩, Q, A, tb⟩ := X
  intro S hk hA hE H locs ls hW hd hS hs
  subst hst
  exact va_callv (va_runS (As := As) (rest := st) ⟨S.1, S.2.1, S.2.2.1, S.2.2.2.1, S.2.2.2.2⟩ (hC l H.size hk.2.1) (va_cwS nn S.2.2.2.2 hg hw hrm.1 hrm.2 hy hR) ⟨kPc_blind, fun U hU hw2 => kPc_at hA hE hW hd hS hU hw2⟩ rfl hn hs.1 rfl (lv_room hcat) hd0 hroom) hS (fun q _ hq => kAq hA hd hS q hq) (fun q hq => kAq hA hd hS q hq) (fun h' t H1 locs1 ht hvm hp hB hz hkeep hS1 => kk h' hp S hk hA hE H1 locs1 ls (by rw [← ht]; exact hB.1) (fun q z hz9 => kAq hA hd hS q (hB.2 q z hz9)) hS1 hs)

theorem r_callIv {post : kH → Prop} (hd0 : decode cc pc = .ok (.invokespecial i, 3)) (hC : kCv E y ws rm mc ms (.ref b :: As) h post) (hg : GoodIn Ts ws) (hini : Cond.initialized y.cls ∈ Ts) (hli : Cond.methodLink own i y ∈ Ts) (hinst : Cond.instanceMethod y ∈ Ts) (hyi : y.name = "<init>") (hw : ws = Cond.code y bytes maxL none :: ws') (hy : y.cls ≠ "java/lang/invoke/MethodHandle" ∧ y.cls ≠ "java/lang/invoke/VarHandle" ∧ (parseMethodDescriptor y.desc).map (fun d => d.parameters.length) = some nn) (hR : rm.frames + 1 ≤ R.frames ∧ 8 + (maxL + 11) + rm.locals ≤ R.locals) (hrm : rm.cells = mc ∧ rm.slots = ms) (hn : As.length = nn) (hcat : (st.map fun v => v.category).sum ≤ 8) (hroom : k + mc ≤ R.cells ∧ n + ms ≤ R.slots) (hst : stk = As.reverse ++ .ref b :: st)
    (kk : ∀ h', post h' → V E X R cc nL Ts own (k + mc) (n + ms) h' lo (pc + 3) st) : V E X R cc nL Ts own k n h lo pc stk := by
  obtain ⟨⟨p, l, e, s, m, args, below, meth, c⟩, Q, A, tb⟩ := X
  intro S hk hA hE H locs ls hW hd hS hs
  subst hst
  exact va_callv (va_runI (As := As) (rest := st) ⟨S.1, S.2.1, S.2.2.1, S.2.2.2.1, S.2.2.2.2⟩ (hC l H.size hk.2.1) (cwI nn S.2.2.2.2 hg hw hrm.1 hrm.2 (S.2.2.2.2 _ hini) (S.2.2.2.2 _ hli) (S.2.2.2.2 _ hinst) hyi hy hR) ⟨kPc_blind, fun U hU hw2 => kPc_at hA hE hW hd hS hU hw2⟩ rfl hn hs.1 rfl (lv_room hcat) hd0 hroom) hS (fun q _ hq => kAq hA hd hS q hq) (fun q hq => kAq hA hd hS q hq) (fun h' t H1 locs1 ht hvm hp hB hz hkeep hS1 => kk h' hp S hk hA hE H1 locs1 ls (by rw [← ht]; exact hB.1) (fun q z hz9 => kAq hA hd hS q (hB.2 q z hz9)) hS1 hs)

theorem r_callXVv {post : kH → Prop} (hd0 : decode cc pc = .ok (.invokevirtual i, 3)) (hC : kXv E y ws rm mc ms (.ref b :: As) h px post) (hg : GoodIn Ts (wsV own i C y ws)) (hw : ws = Cond.code y bytes maxL ret :: ws') (hy : y.cls = C ∧ y.cls ≠ "java/lang/invoke/MethodHandle" ∧ y.cls ≠ "java/lang/invoke/VarHandle" ∧ (parseMethodDescriptor y.desc).map (fun d => d.parameters.length) = some nn) (hR : rm.frames + 1 ≤ R.frames ∧ 8 + (maxL + 11) + rm.locals ≤ R.locals) (hrm : rm.cells = mc ∧ rm.slots = ms) (he : h b = some (.inr (ci, fs))) (hc : kcl[ci]? = some (C, T, N)) (hn : As.length = nn) (hcat : (st.map fun v => v.category).sum ≤ 8) (hroom : k + mc ≤ R.cells ∧ n + ms ≤ R.slots) (hst : stk = As.reverse ++ .ref b :: st)
    (kx : ∀ Ec h', px Ec h' → VX E X R cc nL Ts own (k + mc) (n + ms) h' lo pc Ec) (kk : ∀ h', post h' → V E X R cc nL Ts own (k + mc) (n + ms) h' lo (pc + 3) st) : V E X R cc nL Ts own k n h lo pc stk := by
  obtain ⟨⟨p, l, e, s, m, args, below, meth, c⟩, Q, A, tb⟩ := X
  intro S hk hA hE H locs ls hW hd hS hs
  subst hst
  exact vx_callv (vx_runV (As := As) (rest := st) ⟨S.1, S.2.1, S.2.2.1, S.2.2.2.1, S.2.2.2.2⟩ (hC l H.size hk.2.1) (cwV nn S.2.2.2.2 hg hw hrm.1 hrm.2 hy hR) ⟨kPc_blind, va_recv hE.1.1 (kWd_P hW he) (q0 := 0) hc rfl, fun U hU hw2 => kPc_at hA hE hW hd hS hU hw2⟩ rfl hn hs.1 rfl (lv_room hcat) hd0 hroom) hS (fun q _ hq => kAq hA hd hS q hq) (fun q hq => kAq hA hd hS q hq) (fun q _ hq => kAq hA hd hS q hq) (fun Ec ce q9 u t H1 locs1 ht hvm hp hB hz hkeep hS1 hc1 hc2 hc3 => by obtain ⟨rfl, hB1, hB2⟩ := hB; exact kx _ u.2 hp S hk hA hE H1 locs1 ls _ ce q9 (by rw [← ht]; exact hB1) (fun q z hz9 => kAq hA hd hS q (hB2 q z hz9)) hS1 hs hc1 hc2 hc3) (fun h' t H1 locs1 ht hvm hp hB hz hkeep hS1 => kk h' hp S hk hA hE H1 locs1 ls (by rw [← ht]; exact hB.1) (fun q z hz9 => kAq hA hd hS q (hB.2 q z hz9)) hS1 hs)

theorem r_callXSv {post : kH → Prop} (hd0 : decode cc pc = .ok (.invokestatic i, 3)) (hC : kXv E y ws rm mc ms As h px post) (hg : GoodIn Ts (va_wsS own i y ws)) (hw : ws = Cond.code y bytes maxL ret :: ws') (hy : y.cls ≠ "java/lang/invoke/MethodHandle" ∧ y.cls ≠ "java/lang/invoke/VarHandle" ∧ (parseMethodDescriptor y.desc).map (fun d => d.parameters.length) = some nn) (hR : rm.frames + 1 ≤ R.frames ∧ 8 + (maxL + 11) + rm.locals ≤ R.locals) (hrm : rm.cells = mc ∧ rm.slots = ms) (hn : As.length = nn) (hcat : (st.map fun v => v.category).sum ≤ 8) (hroom : k + mc ≤ R.cells ∧ n + ms ≤ R.slots) (hst : stk = As.reverse ++ st)
    (kx : ∀ Ec h', px Ec h' → VX E X R cc nL Ts own (k + mc) (n + ms) h' lo pc Ec) (kk : ∀ h', post h' → V E X R cc nL Ts own (k + mc) (n + ms) h' lo (pc + 3) st) : V E X R cc nL Ts own k n h lo pc stk := by
  obtain ⟨⟨p, l, e, s, m, args, below, meth, c⟩, Q, A, tb⟩ := X
  intro S hk hA hE H locs ls hW hd hS hs
  subst hst
  exact vx_callv (vx_runS (As := As) (rest := st) ⟨S.1, S.2.1, S.2.2.1, S.2.2.2.1, S.2.2.2.2⟩ (hC l H.size hk.2.1) (va_cwS nn S.2.2.2.2 hg hw hrm.1 hrm.2 hy hR) ⟨kPc_blind, fun U hU hw2 => kPc_at hA hE hW hd hS hU hw2⟩ rfl hn hs.1 rfl (lv_room hcat) hd0 hroom) hS (fun q _ hq => kAq hA hd hS q hq) (fun q hq => kAq hA hd hS q hq) (fun q _ hq => kAq hA hd hS q hq) (fun Ec ce q9 u t H1 locs1 ht hvm hp hB hz hkeep hS1 hc1 hc2 hc3 => by obtain ⟨rfl, hB1, hB2⟩ := hB; exact kx _ u.2 hp S hk hA hE H1 locs1 ls _ ce q9 (by rw [← ht]; exact hB1) (fun q z hz9 => kAq hA hd hS q (hB2 q z hz9)) hS1 hs hc1 hc2 hc3) (fun h' t H1 locs1 ht hvm hp hB hz hkeep hS1 => kk h' hp S hk hA hE H1 locs1 ls (by rw [← ht]; exact hB.1) (fun q z hz9 => kAq hA hd hS q (hB.2 q z hz9)) hS1 hs)

end KC
/-- where an exception with a text is thrown -/
abbrev kNm : List String := ["java/lang/RuntimeException", "java/lang/Exception"]
abbrev kBad (cls : String) : List Cond := [.castable cls cls, .declares ⟨"java/lang/RuntimeException", "<init>", "(Ljava/lang/String;)V"⟩, .declares ⟨"java/lang/Exception", "<init>", "(Ljava/lang/String;)V"⟩, .declares ⟨"java/lang/Throwable", "<init>", "(Ljava/lang/String;)V"⟩]
def kSt (cls : String) (ik ic : Nat) : Prop := Bundle.fit cls = true ∧ (∀ n ∈ kNm, Bundle.fit n = true) ∧ (∀ w ∈ (vx_atS RX3 ic cls kNm).filter (fun w => !goodWord w), w ∈ kBad cls) ∧ (∀ w ∈ Cond.classLink RX3 ik cls :: Cond.initialized cls :: vx_atS RX3 ic cls kNm, vx_ot w = true) ∧ (cls, cls) ∈ kCast
theorem kSt_B : kSt "java/lang/IndexOutOfBoundsException" 180 184 := ⟨by decide +kernel, by decide +kernel, by decide +kernel, by decide +kernel, by decide +kernel⟩
theorem kSt_A : kSt "java/lang/IllegalArgumentException" 62 66 := ⟨by decide +kernel, by decide +kernel, by decide +kernel, by decide +kernel, by decide +kernel⟩
theorem kSt_S : kSt "java/lang/IllegalStateException" 106 110 := ⟨by decide +kernel, by decide +kernel, by decide +kernel, by decide +kernel, by decide +kernel⟩
theorem kbad_ok {E : kE} {s : State} {args : Array Value} {cls : String} (h : kT E s) (hc : (cls, cls) ∈ kCast) : ∀ w ∈ kBad cls, w.before args s = true := vx_c (va_Nw.use rfl (h.2.2.1 _ hc)) (vx_c (va_Nw.use rfl (h.2.2.2.1 _ (List.mem_of_getElem? (i := 0) rfl))) (vx_c (va_Nw.use rfl (h.2.2.2.1 _ (List.mem_of_getElem? (i := 1) rfl))) (vx_c (va_Nw.use rfl (h.2.2.2.1 _ (List.mem_of_getElem? (i := 2) rfl))) vx_n)))
def kSite (cc : ByteArray) (Ts : List Cond) (own : String) (R : Room) (pc : Nat) (st : List Value) (cls : String) : Prop := ∃ (text : String) (ik is ic d : Nat), kSt cls ik ic ∧ own = RX3 ∧ Cond.classLink RX3 ik cls ∈ Ts ∧ Cond.initialized cls ∈ Ts ∧ (is, text) ∈ kStr ∧ (∀ w ∈ (vx_atS RX3 ic cls kNm).filter goodWord, w ∈ Ts) ∧ decode cc pc = .ok (.new ik, 3) ∧ decode cc (pc + 3) = .ok (.dup, 1) ∧ ((d = 6 ∧ decode cc (pc + 4) = .ok (.ldc is, 2)) ∨ (d = 7 ∧ decode cc (pc + 4) = .ok (.ldc_w is, 3))) ∧ decode cc (pc + d) = .ok (.invokespecial ic, 3) ∧ decode cc (pc + d + 3) = .ok (.athrow, 1) ∧ 5 < R.frames ∧ (st.map fun v => v.category).sum + 82 ≤ R.locals
theorem kWd_more {E : kE} {h : kH} {H H1 : Heap} (hW : kWd E h H) (hk : ∀ q : Nat, q < H.size → H1[q]? = H[q]?) : kWd E h H1 := fun a e ha => va_at.kept (hW a e ha) (hk a (kWd_lt hW ha))

theorem kCi_of {E : kE} {y : MethodName} {ws ws' : List Cond} {rm : Room} {mc ms : Nat} {av : List Value} {h : kH} {post : Int32 → kH → Prop} {cc : ByteArray} {maxL : Nat} {own : String} {rt : FieldType} (hy : plainName y.cls = true) (ho : y.cls = own) (hw : ws = Cond.code y cc maxL (some rt) :: ws') (hav : (lg_sl av).length ≤ maxL)
    (walk : ∀ X : kX, (y.name = "<init>" → kInit X) → (∀ (k n : Nat) (h' : kH) (lo : List (Nat × Value)) (pc : Nat) (r : Int32), k ≤ mc → n ≤ ms → decode cc pc = .ok (.ireturn, 1) → narrow rt (.int r) = .int r → post r h' → V E X rm cc maxL ws own k n h' lo pc [.int r]) → V E X rm cc maxL ws own 0 0 h (lv_args 0 av) 0 []) : kCi E y ws rm mc ms av h post := by
  intro l sz hl
  refine Met.ofW (cc := cc) (maxL := maxL) (ret := (some rt)) hy hw ?_
  intro p e s m args below meth c s₁ B hml hv
  obtain ⟨rfl, hsz, hT, hZ, hW⟩ := hv
  have hts := atoms_spec (ws := ws) B.pre
  have hown : s.vm.findClass own = some m.cls := by rw [← ho]; exact findClass_of_methodNamed B.named
  have hlk := B.notSynchronized
  subst hsz
  rw [lg_entry_eq]
  have K := walk ((p, l, e, s, m, av.toArray, below, meth, c), MQ below (kQi E h s.heap.size post) av.toArray s mc ms (kA h s.heap.size), kA h s.heap.size, c.exceptionTable.toList) (fun hi => (name_of_methodNamed B.named B.method).1.trans hi) ?_
  · exact K ⟨B.exec, B.bytes, hml, hown, hts⟩ ⟨hlk, hl, rfl⟩ (fun q hq => Or.inr hq) ⟨hT, hZ⟩ s.heap [] _ hW kdom0 va_S.rf (lv_entry av hav)
  · intro k n h' lo pc r hk hn hdc hnr hp S hk' hA hE H locs ls hW hd hS hs
    refine W.widen hk hn ?_
    exact W.zret S.1 S.2.1 B.returns hnr (fun t ht hw' => ⟨⟨r, h', rfl, hp, ⟨by rw [ht]; exact hW, hd⟩⟩, hS.F ht⟩) hS.2.2 hdc hlk
theorem kXi_of {E : kE} {y : MethodName} {ws ws' : List Cond} {rm : Room} {mc ms : Nat} {av : List Value} {h : kH} {post : Int32 → kH → Prop} {px : String → kH → Prop} {cc : ByteArray} {maxL : Nat} {own : String} {rt : FieldType} (hy : plainName y.cls = true) (ho : y.cls = own) (hw : ws = Cond.code y cc maxL (some rt) :: ws') (hrm : rm.cells = mc ∧ rm.slots = ms) (hav : (lg_sl av).length ≤ maxL)
    (walk : ∀ X : kX, (∀ (k n : Nat) (h' : kH) (lo : List (Nat × Value)) (pc : Nat) (r : Int32), k ≤ mc → n ≤ ms → decode cc pc = .ok (.ireturn, 1) → narrow rt (.int r) = .int r → post r h' → V E X rm cc maxL ws own k n h' lo pc [.int r]) → (∀ (k n : Nat) (h' : kH) (lo : List (Nat × Value)) (pc : Nat) (st : List Value) (cls : String), k + 1 ≤ mc → n + 6 ≤ ms → kSite cc ws own rm pc st cls → px cls h' → V E X rm cc maxL ws own k n h' lo pc st) → (∀ (k n : Nat) (h' : kH) (lo : List (Nat × Value)) (pc : Nat) (Ec : String), k ≤ mc → n ≤ ms → px Ec h' → VX E X rm cc maxL ws own k n h' lo pc Ec) → V E X rm cc maxL ws own 0 0 h (lv_args 0 av) 0 []) : kXi E y ws rm mc ms av h px post := by
  intro l sz hl
  refine vx_ofW (cc := cc) (maxL := maxL) (ret := (some rt)) hy hw ?_
  intro p e s m args below meth c s₁ B hml hex hv
  obtain ⟨rfl, hsz, hT, hZ, hW⟩ := hv
  have hts := atoms_spec (ws := ws) B.pre
  have hown : s.vm.findClass own = some m.cls := by rw [← ho]; exact findClass_of_methodNamed B.named
  have hlk := B.notSynchronized
  have hnx : ∀ pc0, ∀ x ∈ c.exceptionTable.toList, covers x pc0 = false := fun pc0 x hx => (hex x hx).elim
  subst hsz
  rw [lg_entry_eq]
  have K := walk ((p, l, e, s, m, av.toArray, below, meth, c), vx_MQ below (kQi E h s.heap.size post) (kXQ E h s.heap.size px) av.toArray s mc ms (kA h s.heap.size), kA h s.heap.size, c.exceptionTable.toList) ?_ ?_ ?_
  · exact K ⟨B.exec, B.bytes, hml, hown, hts⟩ ⟨hlk, hl, rfl⟩ (fun q hq => Or.inr hq) ⟨hT, hZ⟩ s.heap [] _ hW kdom0 va_S.rf (lv_entry av hav)
  · intro k n h' lo pc r hk hn hdc hnr hp S hk' hA hE H locs ls hW hd hS hs
    refine W.widen hk hn (vx_ret ?_)
    exact W.zret S.1 S.2.1 B.returns hnr (fun t ht hw' => ⟨⟨r, h', rfl, hp, ⟨by rw [ht]; exact hW, hd⟩⟩, hS.F ht⟩) hS.2.2 hdc hlk
  · intro k n h' lo pc st cls hk hn hsite hp S hk' hA hE H locs ls hW hd hS hs
    obtain ⟨text, ik, is, ic, d, ⟨hf1, hf2, hbad, hot, hcs⟩, hoR, hcl, hin, hstr, hgood, d0, d3, dl, di, da, hfr, hlo⟩ := hsite
    obtain ⟨sa, hsa⟩ := hE.1.2.1 _ hstr
    subst hoR
    have hhat := vx_hat (args := av.toArray) (s := s) (L := vx_atS RX3 ic cls kNm) (B := kBad cls) (fun w hw => hts w (hgood w hw)) hbad (kbad_ok hE.1 hcs)
    have hxq : ∀ t : State, s.vm.Alike t.vm → H.size ≤ t.heap.size → (∀ q : Nat, q < H.size → t.heap[q]? = H[q]?) → kXQ E h s.heap.size px cls s t := fun t hal hz hkeep => ⟨(cls, h'), hp, ⟨rfl, kWd_more hW hkeep, hd⟩, Nat.le_trans hS.1 hz, fun q h1 h2 => (hkeep q (Nat.lt_of_lt_of_le h1 hS.1)).trans (hS.2.1 q h1 h2)⟩
    rcases dl with ⟨rfl, dl⟩ | ⟨rfl, dl⟩
    · exact vx_throwS S.1 S.2.1 hl S.2.2.2.1 hf1 hf2 (hts _ hcl) (hts _ hin) hsa hhat hot hE.2.1 hE.2.2.1 hS (hs.1.trans S.2.2.1.symm) d0 d3 dl di da (hnx _) hfr hlo (Nat.le_trans hk (Nat.le_of_eq hrm.1.symm)) (Nat.le_trans hn (Nat.le_of_eq hrm.2.symm)) hlk hxq hS.2.2 hk hn
    · exact vx_throwSW S.1 S.2.1 hl S.2.2.2.1 hf1 hf2 (hts _ hcl) (hts _ hin) hsa hhat hot hE.2.1 hE.2.2.1 hS (hs.1.trans S.2.2.1.symm) d0 d3 dl di da (hnx _) hfr hlo (Nat.le_trans hk (Nat.le_of_eq hrm.1.symm)) (Nat.le_trans hn (Nat.le_of_eq hrm.2.symm)) hlk hxq hS.2.2 hk hn
  · intro k n h' lo pc Ec hk hn hp S hk' hA hE H locs ls st ce q9 hW hd hS hs hc1 hc2 hc3
    exact vx_out (hnx _) hlk hc1 hc2 hc3 (fun t ht hal => ⟨(Ec, h'), hp, ⟨rfl, by rw [ht]; exact hW, hd⟩, hS.F ht⟩) hS.2.2 hk hn
theorem kCq_of {E : kE} {y : MethodName} {ws ws' : List Cond} {rm : Room} {mc ms : Nat} {av : List Value} {h : kH} {post : Option Nat → kH → Prop} {cc : ByteArray} {maxL : Nat} {own : String} {rt : FieldType} (hy : plainName y.cls = true) (ho : y.cls = own) (hw : ws = Cond.code y cc maxL (some rt) :: ws') (hrt : (∃ n, rt = .object n) ∨ ∃ t, rt = .array t) (hav : (lg_sl av).length ≤ maxL)
    (walk : ∀ X : kX, (y.name = "<init>" → kInit X) → (∀ (k n : Nat) (h' : kH) (lo : List (Nat × Value)) (pc : Nat) (r : Option Nat), k ≤ mc → n ≤ ms → decode cc pc = .ok (.areturn, 1) → post r h' → V E X rm cc maxL ws own k n h' lo pc [va_rf r]) → V E X rm cc maxL ws own 0 0 h (lv_args 0 av) 0 []) : kCq E y ws rm mc ms av h post := by
  intro l sz hl
  refine Met.ofW (cc := cc) (maxL := maxL) (ret := (some rt)) hy hw ?_
  intro p e s m args below meth c s₁ B hml hv
  obtain ⟨rfl, hsz, hT, hZ, hW⟩ := hv
  have hts := atoms_spec (ws := ws) B.pre
  have hown : s.vm.findClass own = some m.cls := by rw [← ho]; exact findClass_of_methodNamed B.named
  have hlk := B.notSynchronized
  subst hsz
  rw [lg_entry_eq]
  have K := walk ((p, l, e, s, m, av.toArray, below, meth, c), MQ below (kQq E h s.heap.size post) av.toArray s mc ms (kA h s.heap.size), kA h s.heap.size, c.exceptionTable.toList) (fun hi => (name_of_methodNamed B.named B.method).1.trans hi) ?_
  · exact K ⟨B.exec, B.bytes, hml, hown, hts⟩ ⟨hlk, hl, rfl⟩ (fun q hq => Or.inr hq) ⟨hT, hZ⟩ s.heap [] _ hW kdom0 va_S.rf (lv_entry av hav)
  · intro k n h' lo pc r hk hn hdc hp S hk' hA hE H locs ls hW hd hS hs
    refine W.widen hk hn ?_
    exact W.aret S.1 S.2.1 B.returns hrt (by cases r with | none => exact Or.inl rfl | some a => exact Or.inr ⟨a, rfl⟩) (fun t ht hw' => ⟨⟨r, h', rfl, hp, ⟨by rw [ht]; exact hW, hd⟩⟩, hS.F ht⟩) hS.2.2 hdc hlk
theorem kXq_of {E : kE} {y : MethodName} {ws ws' : List Cond} {rm : Room} {mc ms : Nat} {av : List Value} {h : kH} {post : Option Nat → kH → Prop} {px : String → kH → Prop} {cc : ByteArray} {maxL : Nat} {own : String} {rt : FieldType} (hy : plainName y.cls = true) (ho : y.cls = own) (hw : ws = Cond.code y cc maxL (some rt) :: ws') (hrm : rm.cells = mc ∧ rm.slots = ms) (hrt : (∃ n, rt = .object n) ∨ ∃ t, rt = .array t) (hav : (lg_sl av).length ≤ maxL)
    (walk : ∀ X : kX, (∀ (k n : Nat) (h' : kH) (lo : List (Nat × Value)) (pc : Nat) (r : Option Nat), k ≤ mc → n ≤ ms → decode cc pc = .ok (.areturn, 1) → post r h' → V E X rm cc maxL ws own k n h' lo pc [va_rf r]) → (∀ (k n : Nat) (h' : kH) (lo : List (Nat × Value)) (pc : Nat) (st : List Value) (cls : String), k + 1 ≤ mc → n + 6 ≤ ms → kSite cc ws own rm pc st cls → px cls h' → V E X rm cc maxL ws own k n h' lo pc st) → (∀ (k n : Nat) (h' : kH) (lo : List (Nat × Value)) (pc : Nat) (Ec : String), k ≤ mc → n ≤ ms → px Ec h' → VX E X rm cc maxL ws own k n h' lo pc Ec) → V E X rm cc maxL ws own 0 0 h (lv_args 0 av) 0 []) : kXq E y ws rm mc ms av h px post := by
  intro l sz hl
  refine vx_ofW (cc := cc) (maxL := maxL) (ret := (some rt)) hy hw ?_
  intro p e s m args below meth c s₁ B hml hex hv
  obtain ⟨rfl, hsz, hT, hZ, hW⟩ := hv
  have hts := atoms_spec (ws := ws) B.pre
  have hown : s.vm.findClass own = some m.cls := by rw [← ho]; exact findClass_of_methodNamed B.named
  have hlk := B.notSynchronized
  have hnx : ∀ pc0, ∀ x ∈ c.exceptionTable.toList, covers x pc0 = false := fun pc0 x hx => (hex x hx).elim
  subst hsz
  rw [lg_entry_eq]
  have K := walk ((p, l, e, s, m, av.toArray, below, meth, c), vx_MQ below (kQq E h s.heap.size post) (kXQ E h s.heap.size px) av.toArray s mc ms (kA h s.heap.size), kA h s.heap.size, c.exceptionTable.toList) ?_ ?_ ?_
  · exact K ⟨B.exec, B.bytes, hml, hown, hts⟩ ⟨hlk, hl, rfl⟩ (fun q hq => Or.inr hq) ⟨hT, hZ⟩ s.heap [] _ hW kdom0 va_S.rf (lv_entry av hav)
  · intro k n h' lo pc r hk hn hdc hp S hk' hA hE H locs ls hW hd hS hs
    refine W.widen hk hn (vx_ret ?_)
    exact W.aret S.1 S.2.1 B.returns hrt (by cases r with | none => exact Or.inl rfl | some a => exact Or.inr ⟨a, rfl⟩) (fun t ht hw' => ⟨⟨r, h', rfl, hp, ⟨by rw [ht]; exact hW, hd⟩⟩, hS.F ht⟩) hS.2.2 hdc hlk
  · intro k n h' lo pc st cls hk hn hsite hp S hk' hA hE H locs ls hW hd hS hs
    obtain ⟨text, ik, is, ic, d, ⟨hf1, hf2, hbad, hot, hcs⟩, hoR, hcl, hin, hstr, hgood, d0, d3, dl, di, da, hfr, hlo⟩ := hsite
    obtain ⟨sa, hsa⟩ := hE.1.2.1 _ hstr
    subst hoR
    have hhat := vx_hat (args := av.toArray) (s := s) (L := vx_atS RX3 ic cls kNm) (B := kBad cls) (fun w hw => hts w (hgood w hw)) hbad (kbad_ok hE.1 hcs)
    have hxq : ∀ t : State, s.vm.Alike t.vm → H.size ≤ t.heap.size → (∀ q : Nat, q < H.size → t.heap[q]? = H[q]?) → kXQ E h s.heap.size px cls s t := fun t hal hz hkeep => ⟨(cls, h'), hp, ⟨rfl, kWd_more hW hkeep, hd⟩, Nat.le_trans hS.1 hz, fun q h1 h2 => (hkeep q (Nat.lt_of_lt_of_le h1 hS.1)).trans (hS.2.1 q h1 h2)⟩
    rcases dl with ⟨rfl, dl⟩ | ⟨rfl, dl⟩
    · exact vx_throwS S.1 S.2.1 hl S.2.2.2.1 hf1 hf2 (hts _ hcl) (hts _ hin) hsa hhat hot hE.2.1 hE.2.2.1 hS (hs.1.trans S.2.2.1.symm) d0 d3 dl di da (hnx _) hfr hlo (Nat.le_trans hk (Nat.le_of_eq hrm.1.symm)) (Nat.le_trans hn (Nat.le_of_eq hrm.2.symm)) hlk hxq hS.2.2 hk hn
    · exact vx_throwSW S.1 S.2.1 hl S.2.2.2.1 hf1 hf2 (hts _ hcl) (hts _ hin) hsa hhat hot hE.2.1 hE.2.2.1 hS (hs.1.trans S.2.2.1.symm) d0 d3 dl di da (hnx _) hfr hlo (Nat.le_trans hk (Nat.le_of_eq hrm.1.symm)) (Nat.le_trans hn (Nat.le_of_eq hrm.2.symm)) hlk hxq hS.2.2 hk hn
  · intro k n h' lo pc Ec hk hn hp S hk' hA hE H locs ls st ce q9 hW hd hS hs hc1 hc2 hc3
    exact vx_out (hnx _) hlk hc1 hc2 hc3 (fun t ht hal => ⟨(Ec, h'), hp, ⟨rfl, by rw [ht]; exact hW, hd⟩, hS.F ht⟩) hS.2.2 hk hn
theorem kCv_of {E : kE} {y : MethodName} {ws ws' : List Cond} {rm : Room} {mc ms : Nat} {av : List Value} {h : kH} {post : kH → Prop} {cc : ByteArray} {maxL : Nat} {own : String} (hy : plainName y.cls = true) (ho : y.cls = own) (hw : ws = Cond.code y cc maxL none :: ws') (hav : (lg_sl av).length ≤ maxL)
    (walk : ∀ X : kX, (y.name = "<init>" → kInit X) → (∀ (k n : Nat) (h' : kH) (lo : List (Nat × Value)) (pc : Nat) , k ≤ mc → n ≤ ms → decode cc pc = .ok (.return_, 1) → post h' → V E X rm cc maxL ws own k n h' lo pc []) → V E X rm cc maxL ws own 0 0 h (lv_args 0 av) 0 []) : kCv E y ws rm mc ms av h post := by
  intro l sz hl
  refine Met.ofW (cc := cc) (maxL := maxL) (ret := none) hy hw ?_
  intro p e s m args below meth c s₁ B hml hv
  obtain ⟨rfl, hsz, hT, hZ, hW⟩ := hv
  have hts := atoms_spec (ws := ws) B.pre
  have hown : s.vm.findClass own = some m.cls := by rw [← ho]; exact findClass_of_methodNamed B.named
  have hlk := B.notSynchronized
  subst hsz
  rw [lg_entry_eq]
  have K := walk ((p, l, e, s, m, av.toArray, below, meth, c), MQ below (kQv E h s.heap.size post) av.toArray s mc ms (kA h s.heap.size), kA h s.heap.size, c.exceptionTable.toList) (fun hi => (name_of_methodNamed B.named B.method).1.trans hi) ?_
  · exact K ⟨B.exec, B.bytes, hml, hown, hts⟩ ⟨hlk, hl, rfl⟩ (fun q hq => Or.inr hq) ⟨hT, hZ⟩ s.heap [] _ hW kdom0 va_S.rf (lv_entry av hav)
  · intro k n h' lo pc hk hn hdc hp S hk' hA hE H locs ls hW hd hS hs
    refine W.widen hk hn ?_
    exact W.vret S.1 S.2.1 B.returns (fun t ht hw' => ⟨⟨h', rfl, hp, ⟨by rw [ht]; exact hW, hd⟩⟩, hS.F ht⟩) hS.2.2 hdc hlk
theorem kXv_of {E : kE} {y : MethodName} {ws ws' : List Cond} {rm : Room} {mc ms : Nat} {av : List Value} {h : kH} {post : kH → Prop} {px : String → kH → Prop} {cc : ByteArray} {maxL : Nat} {own : String} (hy : plainName y.cls = true) (ho : y.cls = own) (hw : ws = Cond.code y cc maxL none :: ws') (hrm : rm.cells = mc ∧ rm.slots = ms) (hav : (lg_sl av).length ≤ maxL)
    (walk : ∀ X : kX, (∀ (k n : Nat) (h' : kH) (lo : List (Nat × Value)) (pc : Nat) , k ≤ mc → n ≤ ms → decode cc pc = .ok (.return_, 1) → post h' → V E X rm cc maxL ws own k n h' lo pc []) → (∀ (k n : Nat) (h' : kH) (lo : List (Nat × Value)) (pc : Nat) (st : List Value) (cls : String), k + 1 ≤ mc → n + 6 ≤ ms → kSite cc ws own rm pc st cls → px cls h' → V E X rm cc maxL ws own k n h' lo pc st) → (∀ (k n : Nat) (h' : kH) (lo : List (Nat × Value)) (pc : Nat) (Ec : String), k ≤ mc → n ≤ ms → px Ec h' → VX E X rm cc maxL ws own k n h' lo pc Ec) → V E X rm cc maxL ws own 0 0 h (lv_args 0 av) 0 []) : kXv E y ws rm mc ms av h px post := by
  intro l sz hl
  refine vx_ofW (cc := cc) (maxL := maxL) (ret := none) hy hw ?_
  intro p e s m args below meth c s₁ B hml hex hv
  obtain ⟨rfl, hsz, hT, hZ, hW⟩ := hv
  have hts := atoms_spec (ws := ws) B.pre
  have hown : s.vm.findClass own = some m.cls := by rw [← ho]; exact findClass_of_methodNamed B.named
  have hlk := B.notSynchronized
  have hnx : ∀ pc0, ∀ x ∈ c.exceptionTable.toList, covers x pc0 = false := fun pc0 x hx => (hex x hx).elim
  subst hsz
  rw [lg_entry_eq]
  have K := walk ((p, l, e, s, m, av.toArray, below, meth, c), vx_MQ below (kQv E h s.heap.size post) (kXQ E h s.heap.size px) av.toArray s mc ms (kA h s.heap.size), kA h s.heap.size, c.exceptionTable.toList) ?_ ?_ ?_
  · exact K ⟨B.exec, B.bytes, hml, hown, hts⟩ ⟨hlk, hl, rfl⟩ (fun q hq => Or.inr hq) ⟨hT, hZ⟩ s.heap [] _ hW kdom0 va_S.rf (lv_entry av hav)
  · intro k n h' lo pc hk hn hdc hp S hk' hA hE H locs ls hW hd hS hs
    refine W.widen hk hn (vx_ret ?_)
    exact W.vret S.1 S.2.1 B.returns (fun t ht hw' => ⟨⟨h', rfl, hp, ⟨by rw [ht]; exact hW, hd⟩⟩, hS.F ht⟩) hS.2.2 hdc hlk
  · intro k n h' lo pc st cls hk hn hsite hp S hk' hA hE H locs ls hW hd hS hs
    obtain ⟨text, ik, is, ic, d, ⟨hf1, hf2, hbad, hot, hcs⟩, hoR, hcl, hin, hstr, hgood, d0, d3, dl, di, da, hfr, hlo⟩ := hsite
    obtain ⟨sa, hsa⟩ := hE.1.2.1 _ hstr
    subst hoR
    have hhat := vx_hat (args := av.toArray) (s := s) (L := vx_atS RX3 ic cls kNm) (B := kBad cls) (fun w hw => hts w (hgood w hw)) hbad (kbad_ok hE.1 hcs)
    have hxq : ∀ t : State, s.vm.Alike t.vm → H.size ≤ t.heap.size → (∀ q : Nat, q < H.size → t.heap[q]? = H[q]?) → kXQ E h s.heap.size px cls s t := fun t hal hz hkeep => ⟨(cls, h'), hp, ⟨rfl, kWd_more hW hkeep, hd⟩, Nat.le_trans hS.1 hz, fun q h1 h2 => (hkeep q (Nat.lt_of_lt_of_le h1 hS.1)).trans (hS.2.1 q h1 h2)⟩
    rcases dl with ⟨rfl, dl⟩ | ⟨rfl, dl⟩
    · exact vx_throwS S.1 S.2.1 hl S.2.2.2.1 hf1 hf2 (hts _ hcl) (hts _ hin) hsa hhat hot hE.2.1 hE.2.2.1 hS (hs.1.trans S.2.2.1.symm) d0 d3 dl di da (hnx _) hfr hlo (Nat.le_trans hk (Nat.le_of_eq hrm.1.symm)) (Nat.le_trans hn (Nat.le_of_eq hrm.2.symm)) hlk hxq hS.2.2 hk hn
    · exact vx_throwSW S.1 S.2.1 hl S.2.2.2.1 hf1 hf2 (hts _ hcl) (hts _ hin) hsa hhat hot hE.2.1 hE.2.2.1 hS (hs.1.trans S.2.2.1.symm) d0 d3 dl di da (hnx _) hfr hlo (Nat.le_trans hk (Nat.le_of_eq hrm.1.symm)) (Nat.le_trans hn (Nat.le_of_eq hrm.2.symm)) hlk hxq hS.2.2 hk hn
  · intro k n h' lo pc Ec hk hn hp S hk' hA hE H locs ls st ce q9 hW hd hS hs hc1 hc2 hc3
    exact vx_out (hnx _) hlk hc1 hc2 hc3 (fun t ht hal => ⟨(Ec, h'), hp, ⟨rfl, by rw [ht]; exact hW, hd⟩, hS.F ht⟩) hS.2.2 hk hn
end
section
theorem dX4_init_0 : decode cX4_init 0 = .ok (.aload_n 0, 1) := by decide +kernel
theorem dX4_init_1 : decode cX4_init 1 = .ok (.invokespecial 1, 3) := by decide +kernel
theorem dX4_init_4 : decode cX4_init 4 = .ok (.aload_n 0, 1) := by decide +kernel
theorem dX4_init_5 : decode cX4_init 5 = .ok (.bipush 10, 2) := by decide +kernel
theorem dX4_init_7 : decode cX4_init 7 = .ok (.putfield 7, 3) := by decide +kernel
theorem dX4_init_10 : decode cX4_init 10 = .ok (.aload_n 0, 1) := by decide +kernel
theorem dX4_init_11 : decode cX4_init 11 = .ok (.iconst (-1), 1) := by decide +kernel
theorem dX4_init_12 : decode cX4_init 12 = .ok (.putfield 13, 3) := by decide +kernel
theorem dX4_init_15 : decode cX4_init 15 = .ok (.aload_n 0, 1) := by decide +kernel
theorem dX4_init_16 : decode cX4_init 16 = .ok (.bipush 10, 2) := by decide +kernel
theorem dX4_init_18 : decode cX4_init 18 = .ok (.newarray .int, 2) := by decide +kernel
theorem dX4_init_20 : decode cX4_init 20 = .ok (.putfield 16, 3) := by decide +kernel
theorem dX4_init_23 : decode cX4_init 23 = .ok (.aload_n 0, 1) := by decide +kernel
theorem dX4_init_24 : decode cX4_init 24 = .ok (.bipush 20, 2) := by decide +kernel
theorem dX4_init_26 : decode cX4_init 26 = .ok (.newarray .int, 2) := by decide +kernel
theorem dX4_init_28 : decode cX4_init 28 = .ok (.putfield 20, 3) := by decide +kernel
theorem dX4_init_31 : decode cX4_init 31 = .ok (.aload_n 0, 1) := by decide +kernel
theorem dX4_init_32 : decode cX4_init 32 = .ok (.bipush 20, 2) := by decide +kernel
theorem dX4_init_34 : decode cX4_init 34 = .ok (.newarray .int, 2) := by decide +kernel
theorem dX4_init_36 : decode cX4_init 36 = .ok (.putfield 23, 3) := by decide +kernel
theorem dX4_init_39 : decode cX4_init 39 = .ok (.aload_n 0, 1) := by decide +kernel
theorem dX4_init_40 : decode cX4_init 40 = .ok (.bipush 20, 2) := by decide +kernel
theorem dX4_init_42 : decode cX4_init 42 = .ok (.newarray .int, 2) := by decide +kernel
theorem dX4_init_44 : decode cX4_init 44 = .ok (.putfield 26, 3) := by decide +kernel
theorem dX4_init_47 : decode cX4_init 47 = .ok (.aload_n 0, 1) := by decide +kernel
theorem dX4_init_48 : decode cX4_init 48 = .ok (.bipush 20, 2) := by decide +kernel
theorem dX4_init_50 : decode cX4_init 50 = .ok (.newarray .int, 2) := by decide +kernel
theorem dX4_init_52 : decode cX4_init 52 = .ok (.putfield 29, 3) := by decide +kernel
theorem dX4_init_55 : decode cX4_init 55 = .ok (.aload_n 0, 1) := by decide +kernel
theorem dX4_init_56 : decode cX4_init 56 = .ok (.bipush 6, 2) := by decide +kernel
theorem dX4_init_58 : decode cX4_init 58 = .ok (.newarray .int, 2) := by decide +kernel
theorem dX4_init_60 : decode cX4_init 60 = .ok (.putfield 32, 3) := by decide +kernel
theorem dX4_init_63 : decode cX4_init 63 = .ok (.aload_n 0, 1) := by decide +kernel
theorem dX4_init_64 : decode cX4_init 64 = .ok (.bipush 6, 2) := by decide +kernel
theorem dX4_init_66 : decode cX4_init 66 = .ok (.newarray .int, 2) := by decide +kernel
theorem dX4_init_68 : decode cX4_init 68 = .ok (.putfield 35, 3) := by decide +kernel
theorem dX4_init_71 : decode cX4_init 71 = .ok (.aload_n 0, 1) := by decide +kernel
theorem dX4_init_72 : decode cX4_init 72 = .ok (.bipush 6, 2) := by decide +kernel
theorem dX4_init_74 : decode cX4_init 74 = .ok (.newarray .int, 2) := by decide +kernel
theorem dX4_init_76 : decode cX4_init 76 = .ok (.putfield 38, 3) := by decide +kernel
theorem dX4_init_79 : decode cX4_init 79 = .ok (.aload_n 0, 1) := by decide +kernel
theorem dX4_init_80 : decode cX4_init 80 = .ok (.bipush 6, 2) := by decide +kernel
theorem dX4_init_82 : decode cX4_init 82 = .ok (.newarray .int, 2) := by decide +kernel
theorem dX4_init_84 : decode cX4_init 84 = .ok (.putfield 41, 3) := by decide +kernel
theorem dX4_init_87 : decode cX4_init 87 = .ok (.aload_n 0, 1) := by decide +kernel
theorem dX4_init_88 : decode cX4_init 88 = .ok (.iconst (-1), 1) := by decide +kernel
theorem dX4_init_89 : decode cX4_init 89 = .ok (.putfield 44, 3) := by decide +kernel
theorem dX4_init_92 : decode cX4_init 92 = .ok (.aload_n 0, 1) := by decide +kernel
theorem dX4_init_93 : decode cX4_init 93 = .ok (.iconst (-1), 1) := by decide +kernel
theorem dX4_init_94 : decode cX4_init 94 = .ok (.putfield 47, 3) := by decide +kernel
theorem dX4_init_97 : decode cX4_init 97 = .ok (.aload_n 0, 1) := by decide +kernel
theorem dX4_init_98 : decode cX4_init 98 = .ok (.sipush 3000, 3) := by decide +kernel
theorem dX4_init_101 : decode cX4_init 101 = .ok (.newarray .int, 2) := by decide +kernel
theorem dX4_init_103 : decode cX4_init 103 = .ok (.putfield 50, 3) := by decide +kernel
theorem dX4_init_106 : decode cX4_init 106 = .ok (.aload_n 0, 1) := by decide +kernel
theorem dX4_init_107 : decode cX4_init 107 = .ok (.sipush 3000, 3) := by decide +kernel
theorem dX4_init_110 : decode cX4_init 110 = .ok (.newarray .int, 2) := by decide +kernel
theorem dX4_init_112 : decode cX4_init 112 = .ok (.putfield 53, 3) := by decide +kernel
theorem dX4_init_115 : decode cX4_init 115 = .ok (.aload_n 0, 1) := by decide +kernel
theorem dX4_init_116 : decode cX4_init 116 = .ok (.sipush 3000, 3) := by decide +kernel
theorem dX4_init_119 : decode cX4_init 119 = .ok (.newarray .int, 2) := by decide +kernel
theorem dX4_init_121 : decode cX4_init 121 = .ok (.putfield 56, 3) := by decide +kernel
theorem dX4_init_124 : decode cX4_init 124 = .ok (.aload_n 0, 1) := by decide +kernel
theorem dX4_init_125 : decode cX4_init 125 = .ok (.bipush 80, 2) := by decide +kernel
theorem dX4_init_127 : decode cX4_init 127 = .ok (.newarray .int, 2) := by decide +kernel
theorem dX4_init_129 : decode cX4_init 129 = .ok (.putfield 59, 3) := by decide +kernel
theorem dX4_init_132 : decode cX4_init 132 = .ok (.aload_n 0, 1) := by decide +kernel
theorem dX4_init_133 : decode cX4_init 133 = .ok (.bipush 80, 2) := by decide +kernel
theorem dX4_init_135 : decode cX4_init 135 = .ok (.newarray .int, 2) := by decide +kernel
theorem dX4_init_137 : decode cX4_init 137 = .ok (.putfield 62, 3) := by decide +kernel
theorem dX4_init_140 : decode cX4_init 140 = .ok (.aload_n 0, 1) := by decide +kernel
theorem dX4_init_141 : decode cX4_init 141 = .ok (.bipush 80, 2) := by decide +kernel
theorem dX4_init_143 : decode cX4_init 143 = .ok (.newarray .int, 2) := by decide +kernel
theorem dX4_init_145 : decode cX4_init 145 = .ok (.putfield 65, 3) := by decide +kernel
theorem dX4_init_148 : decode cX4_init 148 = .ok (.aload_n 0, 1) := by decide +kernel
theorem dX4_init_149 : decode cX4_init 149 = .ok (.bipush 80, 2) := by decide +kernel
theorem dX4_init_151 : decode cX4_init 151 = .ok (.newarray .int, 2) := by decide +kernel
theorem dX4_init_153 : decode cX4_init 153 = .ok (.putfield 68, 3) := by decide +kernel
theorem dX4_init_156 : decode cX4_init 156 = .ok (.aload_n 0, 1) := by decide +kernel
theorem dX4_init_157 : decode cX4_init 157 = .ok (.bipush 80, 2) := by decide +kernel
theorem dX4_init_159 : decode cX4_init 159 = .ok (.newarray .boolean, 2) := by decide +kernel
theorem dX4_init_161 : decode cX4_init 161 = .ok (.putfield 71, 3) := by decide +kernel
theorem dX4_init_164 : decode cX4_init 164 = .ok (.aload_n 0, 1) := by decide +kernel
theorem dX4_init_165 : decode cX4_init 165 = .ok (.bipush 6, 2) := by decide +kernel
theorem dX4_init_167 : decode cX4_init 167 = .ok (.newarray .int, 2) := by decide +kernel
theorem dX4_init_169 : decode cX4_init 169 = .ok (.putfield 75, 3) := by decide +kernel
theorem dX4_init_172 : decode cX4_init 172 = .ok (.aload_n 0, 1) := by decide +kernel
theorem dX4_init_173 : decode cX4_init 173 = .ok (.bipush 60, 2) := by decide +kernel
theorem dX4_init_175 : decode cX4_init 175 = .ok (.newarray .boolean, 2) := by decide +kernel
theorem dX4_init_177 : decode cX4_init 177 = .ok (.putfield 78, 3) := by decide +kernel
theorem dX4_init_180 : decode cX4_init 180 = .ok (.return_, 1) := by decide +kernel
theorem dX4_thrown_0 : decode cX4_thrown 0 = .ok (.aload_n 0, 1) := by decide +kernel
theorem dX4_thrown_1 : decode cX4_thrown 1 = .ok (.getfield 81, 3) := by decide +kernel
theorem dX4_thrown_4 : decode cX4_thrown 4 = .ok (.ireturn, 1) := by decide +kernel
theorem dX4_in_0 : decode cX4_in 0 = .ok (.iload_n 0, 1) := by decide +kernel
theorem dX4_in_1 : decode cX4_in 1 = .ok (.iload_n 1, 1) := by decide +kernel
theorem dX4_in_2 : decode cX4_in 2 = .ok (.if_icmp .lt 12, 3) := by decide +kernel
theorem dX4_in_5 : decode cX4_in 5 = .ok (.iload_n 0, 1) := by decide +kernel
theorem dX4_in_6 : decode cX4_in 6 = .ok (.iload_n 2, 1) := by decide +kernel
theorem dX4_in_7 : decode cX4_in 7 = .ok (.if_icmp .gt 7, 3) := by decide +kernel
theorem dX4_in_10 : decode cX4_in 10 = .ok (.iconst 1, 1) := by decide +kernel
theorem dX4_in_11 : decode cX4_in 11 = .ok (.goto 4, 3) := by decide +kernel
theorem dX4_in_14 : decode cX4_in 14 = .ok (.iconst 0, 1) := by decide +kernel
theorem dX4_in_15 : decode cX4_in 15 = .ok (.ireturn, 1) := by decide +kernel
theorem dX4_refused_0 : decode cX4_refused 0 = .ok (.aload_n 0, 1) := by decide +kernel
theorem dX4_refused_1 : decode cX4_refused 1 = .ok (.iload_n 1, 1) := by decide +kernel
theorem dX4_refused_2 : decode cX4_refused 2 = .ok (.putfield 81, 3) := by decide +kernel
theorem dX4_refused_5 : decode cX4_refused 5 = .ok (.iload_n 1, 1) := by decide +kernel
theorem dX4_refused_6 : decode cX4_refused 6 = .ok (.ifCond .eq 7, 3) := by decide +kernel
theorem dX4_refused_9 : decode cX4_refused 9 = .ok (.iconst 1, 1) := by decide +kernel
theorem dX4_refused_10 : decode cX4_refused 10 = .ok (.goto 4, 3) := by decide +kernel
theorem dX4_refused_13 : decode cX4_refused 13 = .ok (.iconst 0, 1) := by decide +kernel
theorem dX4_refused_14 : decode cX4_refused 14 = .ok (.ireturn, 1) := by decide +kernel
set_option maxRecDepth 20000 in
theorem ggX4_isPlayer_X4_in : GoodIn wsX4_isPlayer wsX4_in := goodIn_r _ [4] (by decide +kernel) (by decide +kernel)
set_option maxRecDepth 20000 in
theorem gX4_isPlayer_X4_in : GoodIn wsX4_isPlayer (va_wsS RX4 84 yX4_in wsX4_in) := goodIn_app (goodIn_of _ (by decide +kernel)) ggX4_isPlayer_X4_in
theorem dX4_isPlayer_0 : decode cX4_isPlayer 0 = .ok (.iload_n 0, 1) := by decide +kernel
theorem dX4_isPlayer_1 : decode cX4_isPlayer 1 = .ok (.iconst 0, 1) := by decide +kernel
theorem dX4_isPlayer_2 : decode cX4_isPlayer 2 = .ok (.bipush 9, 2) := by decide +kernel
theorem dX4_isPlayer_4 : decode cX4_isPlayer 4 = .ok (.invokestatic 84, 3) := by decide +kernel
theorem dX4_isPlayer_7 : decode cX4_isPlayer 7 = .ok (.ireturn, 1) := by decide +kernel
set_option maxRecDepth 20000 in
theorem ggX4_isFight_X4_in : GoodIn wsX4_isFight wsX4_in := goodIn_r _ [5] (by decide +kernel) (by decide +kernel)
set_option maxRecDepth 20000 in
theorem gX4_isFight_X4_in : GoodIn wsX4_isFight (va_wsS RX4 84 yX4_in wsX4_in) := goodIn_app (goodIn_of _ (by decide +kernel)) ggX4_isFight_X4_in
theorem dX4_isFight_0 : decode cX4_isFight 0 = .ok (.iload_n 1, 1) := by decide +kernel
theorem dX4_isFight_1 : decode cX4_isFight 1 = .ok (.iconst 0, 1) := by decide +kernel
theorem dX4_isFight_2 : decode cX4_isFight 2 = .ok (.aload_n 0, 1) := by decide +kernel
theorem dX4_isFight_3 : decode cX4_isFight 3 = .ok (.getfield 88, 3) := by decide +kernel
theorem dX4_isFight_6 : decode cX4_isFight 6 = .ok (.iconst 1, 1) := by decide +kernel
theorem dX4_isFight_7 : decode cX4_isFight 7 = .ok (.isub, 1) := by decide +kernel
theorem dX4_isFight_8 : decode cX4_isFight 8 = .ok (.invokestatic 84, 3) := by decide +kernel
theorem dX4_isFight_11 : decode cX4_isFight 11 = .ok (.ireturn, 1) := by decide +kernel
set_option maxRecDepth 20000 in
theorem ggX4_isSponsor_X4_in : GoodIn wsX4_isSponsor wsX4_in := goodIn_r _ [4] (by decide +kernel) (by decide +kernel)
set_option maxRecDepth 20000 in
theorem gX4_isSponsor_X4_in : GoodIn wsX4_isSponsor (va_wsS RX4 84 yX4_in wsX4_in) := goodIn_app (goodIn_of _ (by decide +kernel)) ggX4_isSponsor_X4_in
theorem dX4_isSponsor_0 : decode cX4_isSponsor 0 = .ok (.iload_n 0, 1) := by decide +kernel
theorem dX4_isSponsor_1 : decode cX4_isSponsor 1 = .ok (.iconst 0, 1) := by decide +kernel
theorem dX4_isSponsor_2 : decode cX4_isSponsor 2 = .ok (.iconst 5, 1) := by decide +kernel
theorem dX4_isSponsor_3 : decode cX4_isSponsor 3 = .ok (.invokestatic 84, 3) := by decide +kernel
theorem dX4_isSponsor_6 : decode cX4_isSponsor 6 = .ok (.ireturn, 1) := by decide +kernel
set_option maxRecDepth 20000 in
theorem ggX4_rank_X4_isPlayer : GoodIn wsX4_rank wsX4_isPlayer := goodIn_r _ [5, 6, 7, 4, 8] (by decide +kernel) (by decide +kernel)
set_option maxRecDepth 20000 in
theorem gX4_rank_X4_isPlayer : GoodIn wsX4_rank (va_wsS RX4 91 yX4_isPlayer wsX4_isPlayer) := goodIn_app (goodIn_of _ (by decide +kernel)) ggX4_rank_X4_isPlayer
set_option maxRecDepth 20000 in
theorem ggX4_rank_X4_in : GoodIn wsX4_rank wsX4_in := goodIn_r _ [8] (by decide +kernel) (by decide +kernel)
set_option maxRecDepth 20000 in
theorem gX4_rank_X4_in : GoodIn wsX4_rank (va_wsS RX4 84 yX4_in wsX4_in) := goodIn_app (goodIn_of _ (by decide +kernel)) ggX4_rank_X4_in
set_option maxRecDepth 20000 in
theorem ggX4_rank_X4_refused : GoodIn wsX4_rank wsX4_refused := goodIn_r _ [12, 13, 14, 15, 16, 17, 18, 19, 20, 21, 22, 23, 24, 25, 26, 27, 28, 29, 30, 31, 32, 33, 34, 35, 36, 37, 38, 39, 40, 41, 42] (by decide +kernel) (by decide +kernel)
set_option maxRecDepth 20000 in
theorem gX4_rank_X4_refused : GoodIn wsX4_rank (wsV RX4 95 RX4 yX4_refused wsX4_refused) := goodIn_app (goodIn_of _ (by decide +kernel)) ggX4_rank_X4_refused
theorem dX4_rank_0 : decode cX4_rank 0 = .ok (.aload_n 0, 1) := by decide +kernel
theorem dX4_rank_1 : decode cX4_rank 1 = .ok (.iload_n 1, 1) := by decide +kernel
theorem dX4_rank_2 : decode cX4_rank 2 = .ok (.invokestatic 91, 3) := by decide +kernel
theorem dX4_rank_5 : decode cX4_rank 5 = .ok (.ifCond .ne 7, 3) := by decide +kernel
theorem dX4_rank_8 : decode cX4_rank 8 = .ok (.iconst 1, 1) := by decide +kernel
theorem dX4_rank_9 : decode cX4_rank 9 = .ok (.goto 18, 3) := by decide +kernel
theorem dX4_rank_12 : decode cX4_rank 12 = .ok (.iload_n 2, 1) := by decide +kernel
theorem dX4_rank_13 : decode cX4_rank 13 = .ok (.iconst 0, 1) := by decide +kernel
theorem dX4_rank_14 : decode cX4_rank 14 = .ok (.bipush 99, 2) := by decide +kernel
theorem dX4_rank_16 : decode cX4_rank 16 = .ok (.invokestatic 84, 3) := by decide +kernel
theorem dX4_rank_19 : decode cX4_rank 19 = .ok (.ifCond .ne 7, 3) := by decide +kernel
theorem dX4_rank_22 : decode cX4_rank 22 = .ok (.iconst 2, 1) := by decide +kernel
theorem dX4_rank_23 : decode cX4_rank 23 = .ok (.goto 4, 3) := by decide +kernel
theorem dX4_rank_26 : decode cX4_rank 26 = .ok (.iconst 0, 1) := by decide +kernel
theorem dX4_rank_27 : decode cX4_rank 27 = .ok (.invokevirtual 95, 3) := by decide +kernel
theorem dX4_rank_30 : decode cX4_rank 30 = .ok (.ifCond .eq 5, 3) := by decide +kernel
theorem dX4_rank_33 : decode cX4_rank 33 = .ok (.iconst 0, 1) := by decide +kernel
theorem dX4_rank_34 : decode cX4_rank 34 = .ok (.ireturn, 1) := by decide +kernel
theorem dX4_rank_35 : decode cX4_rank 35 = .ok (.aload_n 0, 1) := by decide +kernel
theorem dX4_rank_36 : decode cX4_rank 36 = .ok (.getfield 16, 3) := by decide +kernel
theorem dX4_rank_39 : decode cX4_rank 39 = .ok (.iload_n 1, 1) := by decide +kernel
theorem dX4_rank_40 : decode cX4_rank 40 = .ok (.iaload, 1) := by decide +kernel
theorem dX4_rank_41 : decode cX4_rank 41 = .ok (.istore_n 3, 1) := by decide +kernel
theorem dX4_rank_42 : decode cX4_rank 42 = .ok (.aload_n 0, 1) := by decide +kernel
theorem dX4_rank_43 : decode cX4_rank 43 = .ok (.getfield 16, 3) := by decide +kernel
theorem dX4_rank_46 : decode cX4_rank 46 = .ok (.iload_n 1, 1) := by decide +kernel
theorem dX4_rank_47 : decode cX4_rank 47 = .ok (.iload_n 2, 1) := by decide +kernel
theorem dX4_rank_48 : decode cX4_rank 48 = .ok (.iastore, 1) := by decide +kernel
theorem dX4_rank_49 : decode cX4_rank 49 = .ok (.iload_n 3, 1) := by decide +kernel
theorem dX4_rank_50 : decode cX4_rank 50 = .ok (.ireturn, 1) := by decide +kernel
theorem dX4_isBusy_0 : decode cX4_isBusy 0 = .ok (.iconst 0, 1) := by decide +kernel
theorem dX4_isBusy_1 : decode cX4_isBusy 1 = .ok (.istore_n 2, 1) := by decide +kernel
theorem dX4_isBusy_2 : decode cX4_isBusy 2 = .ok (.iconst 0, 1) := by decide +kernel
theorem dX4_isBusy_3 : decode cX4_isBusy 3 = .ok (.istore_n 3, 1) := by decide +kernel
theorem dX4_isBusy_4 : decode cX4_isBusy 4 = .ok (.iload_n 3, 1) := by decide +kernel
theorem dX4_isBusy_5 : decode cX4_isBusy 5 = .ok (.aload_n 0, 1) := by decide +kernel
theorem dX4_isBusy_6 : decode cX4_isBusy 6 = .ok (.getfield 88, 3) := by decide +kernel
theorem dX4_isBusy_9 : decode cX4_isBusy 9 = .ok (.if_icmp .ge 48, 3) := by decide +kernel
theorem dX4_isBusy_12 : decode cX4_isBusy 12 = .ok (.iload_n 2, 1) := by decide +kernel
theorem dX4_isBusy_13 : decode cX4_isBusy 13 = .ok (.ifCond .ne 32, 3) := by decide +kernel
theorem dX4_isBusy_16 : decode cX4_isBusy 16 = .ok (.aload_n 0, 1) := by decide +kernel
theorem dX4_isBusy_17 : decode cX4_isBusy 17 = .ok (.getfield 20, 3) := by decide +kernel
theorem dX4_isBusy_20 : decode cX4_isBusy 20 = .ok (.iload_n 3, 1) := by decide +kernel
theorem dX4_isBusy_21 : decode cX4_isBusy 21 = .ok (.iaload, 1) := by decide +kernel
theorem dX4_isBusy_22 : decode cX4_isBusy 22 = .ok (.ifCond .ne 27, 3) := by decide +kernel
theorem dX4_isBusy_25 : decode cX4_isBusy 25 = .ok (.aload_n 0, 1) := by decide +kernel
theorem dX4_isBusy_26 : decode cX4_isBusy 26 = .ok (.getfield 23, 3) := by decide +kernel
theorem dX4_isBusy_29 : decode cX4_isBusy 29 = .ok (.iload_n 3, 1) := by decide +kernel
theorem dX4_isBusy_30 : decode cX4_isBusy 30 = .ok (.iaload, 1) := by decide +kernel
theorem dX4_isBusy_31 : decode cX4_isBusy 31 = .ok (.iload_n 1, 1) := by decide +kernel
theorem dX4_isBusy_32 : decode cX4_isBusy 32 = .ok (.if_icmp .eq 13, 3) := by decide +kernel
theorem dX4_isBusy_35 : decode cX4_isBusy 35 = .ok (.aload_n 0, 1) := by decide +kernel
theorem dX4_isBusy_36 : decode cX4_isBusy 36 = .ok (.getfield 26, 3) := by decide +kernel
theorem dX4_isBusy_39 : decode cX4_isBusy 39 = .ok (.iload_n 3, 1) := by decide +kernel
theorem dX4_isBusy_40 : decode cX4_isBusy 40 = .ok (.iaload, 1) := by decide +kernel
theorem dX4_isBusy_41 : decode cX4_isBusy 41 = .ok (.iload_n 1, 1) := by decide +kernel
theorem dX4_isBusy_42 : decode cX4_isBusy 42 = .ok (.if_icmp .ne 7, 3) := by decide +kernel
theorem dX4_isBusy_45 : decode cX4_isBusy 45 = .ok (.iconst 1, 1) := by decide +kernel
theorem dX4_isBusy_46 : decode cX4_isBusy 46 = .ok (.goto 4, 3) := by decide +kernel
theorem dX4_isBusy_49 : decode cX4_isBusy 49 = .ok (.iconst 0, 1) := by decide +kernel
theorem dX4_isBusy_50 : decode cX4_isBusy 50 = .ok (.istore_n 2, 1) := by decide +kernel
theorem dX4_isBusy_51 : decode cX4_isBusy 51 = .ok (.iinc 3 1, 3) := by decide +kernel
theorem dX4_isBusy_54 : decode cX4_isBusy 54 = .ok (.goto (-50), 3) := by decide +kernel
theorem dX4_isBusy_57 : decode cX4_isBusy 57 = .ok (.iload_n 2, 1) := by decide +kernel
theorem dX4_isBusy_58 : decode cX4_isBusy 58 = .ok (.ireturn, 1) := by decide +kernel
theorem dX4_begin_0 : decode cX4_begin 0 = .ok (.aload_n 0, 1) := by decide +kernel
theorem dX4_begin_1 : decode cX4_begin 1 = .ok (.getfield 23, 3) := by decide +kernel
theorem dX4_begin_4 : decode cX4_begin 4 = .ok (.aload_n 0, 1) := by decide +kernel
theorem dX4_begin_5 : decode cX4_begin 5 = .ok (.getfield 88, 3) := by decide +kernel
theorem dX4_begin_8 : decode cX4_begin 8 = .ok (.iload_n 1, 1) := by decide +kernel
theorem dX4_begin_9 : decode cX4_begin 9 = .ok (.iastore, 1) := by decide +kernel
theorem dX4_begin_10 : decode cX4_begin 10 = .ok (.aload_n 0, 1) := by decide +kernel
theorem dX4_begin_11 : decode cX4_begin 11 = .ok (.getfield 26, 3) := by decide +kernel
theorem dX4_begin_14 : decode cX4_begin 14 = .ok (.aload_n 0, 1) := by decide +kernel
theorem dX4_begin_15 : decode cX4_begin 15 = .ok (.getfield 88, 3) := by decide +kernel
theorem dX4_begin_18 : decode cX4_begin 18 = .ok (.iload_n 2, 1) := by decide +kernel
theorem dX4_begin_19 : decode cX4_begin 19 = .ok (.iastore, 1) := by decide +kernel
theorem dX4_begin_20 : decode cX4_begin 20 = .ok (.aload_n 0, 1) := by decide +kernel
theorem dX4_begin_21 : decode cX4_begin 21 = .ok (.getfield 29, 3) := by decide +kernel
theorem dX4_begin_24 : decode cX4_begin 24 = .ok (.aload_n 0, 1) := by decide +kernel
theorem dX4_begin_25 : decode cX4_begin 25 = .ok (.getfield 88, 3) := by decide +kernel
theorem dX4_begin_28 : decode cX4_begin 28 = .ok (.iconst (-1), 1) := by decide +kernel
theorem dX4_begin_29 : decode cX4_begin 29 = .ok (.iastore, 1) := by decide +kernel
theorem dX4_begin_30 : decode cX4_begin 30 = .ok (.aload_n 0, 1) := by decide +kernel
theorem dX4_begin_31 : decode cX4_begin 31 = .ok (.dup, 1) := by decide +kernel
theorem dX4_begin_32 : decode cX4_begin 32 = .ok (.getfield 88, 3) := by decide +kernel
theorem dX4_begin_35 : decode cX4_begin 35 = .ok (.iconst 1, 1) := by decide +kernel
theorem dX4_begin_36 : decode cX4_begin 36 = .ok (.iadd, 1) := by decide +kernel
theorem dX4_begin_37 : decode cX4_begin 37 = .ok (.putfield 88, 3) := by decide +kernel
theorem dX4_begin_40 : decode cX4_begin 40 = .ok (.aload_n 0, 1) := by decide +kernel
theorem dX4_begin_41 : decode cX4_begin 41 = .ok (.getfield 88, 3) := by decide +kernel
theorem dX4_begin_44 : decode cX4_begin 44 = .ok (.iconst 1, 1) := by decide +kernel
theorem dX4_begin_45 : decode cX4_begin 45 = .ok (.isub, 1) := by decide +kernel
theorem dX4_begin_46 : decode cX4_begin 46 = .ok (.ireturn, 1) := by decide +kernel
set_option maxRecDepth 20000 in
theorem ggX4_fight_X4_isPlayer : GoodIn wsX4_fight wsX4_isPlayer := goodIn_r _ [5, 6, 7, 4, 8] (by decide +kernel) (by decide +kernel)
set_option maxRecDepth 20000 in
theorem gX4_fight_X4_isPlayer : GoodIn wsX4_fight (va_wsS RX4 91 yX4_isPlayer wsX4_isPlayer) := goodIn_app (goodIn_of _ (by decide +kernel)) ggX4_fight_X4_isPlayer
set_option maxRecDepth 20000 in
theorem ggX4_fight_X4_isBusy : GoodIn wsX4_fight wsX4_isBusy := goodIn_r _ [12, 1, 13, 14, 15, 26, 27, 28, 29, 30, 31, 32, 33, 34, 35, 36, 37, 38, 39, 40, 41, 42, 43, 44, 45, 46, 47, 48, 49, 50, 51, 52, 53, 54] (by decide +kernel) (by decide +kernel)
set_option maxRecDepth 20000 in
theorem gX4_fight_X4_isBusy : GoodIn wsX4_fight (wsV RX4 98 RX4 yX4_isBusy wsX4_isBusy) := goodIn_app (goodIn_of _ (by decide +kernel)) ggX4_fight_X4_isBusy
set_option maxRecDepth 20000 in
theorem ggX4_fight_X4_refused : GoodIn wsX4_fight wsX4_refused := goodIn_r _ [19, 20, 26, 27, 28, 29, 30, 31, 32, 33, 34, 35, 36, 37, 38, 39, 40, 41, 42, 43, 44, 45, 46, 47, 48, 49, 50, 51, 52, 53, 54] (by decide +kernel) (by decide +kernel)
set_option maxRecDepth 20000 in
theorem gX4_fight_X4_refused : GoodIn wsX4_fight (wsV RX4 95 RX4 yX4_refused wsX4_refused) := goodIn_app (goodIn_of _ (by decide +kernel)) ggX4_fight_X4_refused
set_option maxRecDepth 20000 in
theorem ggX4_fight_X4_begin : GoodIn wsX4_fight wsX4_begin := goodIn_r _ [24, 14, 1, 15, 25, 26, 27, 28, 29, 30, 31, 32, 33, 34, 35, 36, 37, 38, 39, 40, 41, 42, 43, 44, 45, 46, 47, 48, 49, 50, 51, 52, 53, 54] (by decide +kernel) (by decide +kernel)
set_option maxRecDepth 20000 in
theorem gX4_fight_X4_begin : GoodIn wsX4_fight (wsV RX4 101 RX4 yX4_begin wsX4_begin) := goodIn_app (goodIn_of _ (by decide +kernel)) ggX4_fight_X4_begin
theorem dX4_fight_0 : decode cX4_fight 0 = .ok (.iload_n 1, 1) := by decide +kernel
theorem dX4_fight_1 : decode cX4_fight 1 = .ok (.invokestatic 91, 3) := by decide +kernel
theorem dX4_fight_4 : decode cX4_fight 4 = .ok (.ifCond .eq 14, 3) := by decide +kernel
theorem dX4_fight_7 : decode cX4_fight 7 = .ok (.iload_n 2, 1) := by decide +kernel
theorem dX4_fight_8 : decode cX4_fight 8 = .ok (.invokestatic 91, 3) := by decide +kernel
theorem dX4_fight_11 : decode cX4_fight 11 = .ok (.ifCond .eq 7, 3) := by decide +kernel
theorem dX4_fight_14 : decode cX4_fight 14 = .ok (.iconst 1, 1) := by decide +kernel
theorem dX4_fight_15 : decode cX4_fight 15 = .ok (.goto 4, 3) := by decide +kernel
theorem dX4_fight_18 : decode cX4_fight 18 = .ok (.iconst 0, 1) := by decide +kernel
theorem dX4_fight_19 : decode cX4_fight 19 = .ok (.istore_n 3, 1) := by decide +kernel
theorem dX4_fight_20 : decode cX4_fight 20 = .ok (.aload_n 0, 1) := by decide +kernel
theorem dX4_fight_21 : decode cX4_fight 21 = .ok (.iload_n 3, 1) := by decide +kernel
theorem dX4_fight_22 : decode cX4_fight 22 = .ok (.ifCond .ne 7, 3) := by decide +kernel
theorem dX4_fight_25 : decode cX4_fight 25 = .ok (.iconst 1, 1) := by decide +kernel
theorem dX4_fight_26 : decode cX4_fight 26 = .ok (.goto 42, 3) := by decide +kernel
theorem dX4_fight_29 : decode cX4_fight 29 = .ok (.iload_n 1, 1) := by decide +kernel
theorem dX4_fight_30 : decode cX4_fight 30 = .ok (.iload_n 2, 1) := by decide +kernel
theorem dX4_fight_31 : decode cX4_fight 31 = .ok (.if_icmp .ne 7, 3) := by decide +kernel
theorem dX4_fight_34 : decode cX4_fight 34 = .ok (.iconst 2, 1) := by decide +kernel
theorem dX4_fight_35 : decode cX4_fight 35 = .ok (.goto 33, 3) := by decide +kernel
theorem dX4_fight_38 : decode cX4_fight 38 = .ok (.aload_n 0, 1) := by decide +kernel
theorem dX4_fight_39 : decode cX4_fight 39 = .ok (.iload_n 1, 1) := by decide +kernel
theorem dX4_fight_40 : decode cX4_fight 40 = .ok (.invokevirtual 98, 3) := by decide +kernel
theorem dX4_fight_43 : decode cX4_fight 43 = .ok (.ifCond .ne 20, 3) := by decide +kernel
theorem dX4_fight_46 : decode cX4_fight 46 = .ok (.aload_n 0, 1) := by decide +kernel
theorem dX4_fight_47 : decode cX4_fight 47 = .ok (.iload_n 2, 1) := by decide +kernel
theorem dX4_fight_48 : decode cX4_fight 48 = .ok (.invokevirtual 98, 3) := by decide +kernel
theorem dX4_fight_51 : decode cX4_fight 51 = .ok (.ifCond .ne 12, 3) := by decide +kernel
theorem dX4_fight_54 : decode cX4_fight 54 = .ok (.aload_n 0, 1) := by decide +kernel
theorem dX4_fight_55 : decode cX4_fight 55 = .ok (.getfield 88, 3) := by decide +kernel
theorem dX4_fight_58 : decode cX4_fight 58 = .ok (.bipush 20, 2) := by decide +kernel
theorem dX4_fight_60 : decode cX4_fight 60 = .ok (.if_icmp .ne 7, 3) := by decide +kernel
theorem dX4_fight_63 : decode cX4_fight 63 = .ok (.iconst 3, 1) := by decide +kernel
theorem dX4_fight_64 : decode cX4_fight 64 = .ok (.goto 4, 3) := by decide +kernel
theorem dX4_fight_67 : decode cX4_fight 67 = .ok (.iconst 0, 1) := by decide +kernel
theorem dX4_fight_68 : decode cX4_fight 68 = .ok (.invokevirtual 95, 3) := by decide +kernel
theorem dX4_fight_71 : decode cX4_fight 71 = .ok (.ifCond .eq 5, 3) := by decide +kernel
theorem dX4_fight_74 : decode cX4_fight 74 = .ok (.iconst 0, 1) := by decide +kernel
theorem dX4_fight_75 : decode cX4_fight 75 = .ok (.ireturn, 1) := by decide +kernel
theorem dX4_fight_76 : decode cX4_fight 76 = .ok (.aload_n 0, 1) := by decide +kernel
theorem dX4_fight_77 : decode cX4_fight 77 = .ok (.iload_n 1, 1) := by decide +kernel
theorem dX4_fight_78 : decode cX4_fight 78 = .ok (.iload_n 2, 1) := by decide +kernel
theorem dX4_fight_79 : decode cX4_fight 79 = .ok (.invokevirtual 101, 3) := by decide +kernel
theorem dX4_fight_82 : decode cX4_fight 82 = .ok (.ireturn, 1) := by decide +kernel
set_option maxRecDepth 20000 in
theorem ggX4_end_X4_isFight : GoodIn wsX4_end wsX4_isFight := goodIn_r _ [9, 10, 11, 12, 8, 13, 29, 30, 31, 32, 33, 34, 35, 36, 37, 38, 39, 40, 41, 42, 43, 44, 45, 46, 47, 48, 49, 50, 51, 52, 53, 54, 55, 56, 57] (by decide +kernel) (by decide +kernel)
set_option maxRecDepth 20000 in
theorem gX4_end_X4_isFight : GoodIn wsX4_end (wsV RX4 105 RX4 yX4_isFight wsX4_isFight) := goodIn_app (goodIn_of _ (by decide +kernel)) ggX4_end_X4_isFight
set_option maxRecDepth 20000 in
theorem ggX4_end_X4_refused : GoodIn wsX4_end wsX4_refused := goodIn_r _ [17, 18, 29, 30, 31, 32, 33, 34, 35, 36, 37, 38, 39, 40, 41, 42, 43, 44, 45, 46, 47, 48, 49, 50, 51, 52, 53, 54, 55, 56, 57] (by decide +kernel) (by decide +kernel)
set_option maxRecDepth 20000 in
theorem gX4_end_X4_refused : GoodIn wsX4_end (wsV RX4 95 RX4 yX4_refused wsX4_refused) := goodIn_app (goodIn_of _ (by decide +kernel)) ggX4_end_X4_refused
set_option maxRecDepth 20000 in
theorem ggX4_end_X4_pointsOf : GoodIn wsX4_end wsX4_pointsOf := goodIn_r _ [22, 23, 24, 25, 26, 27, 28, 29, 30, 31, 32, 33, 34, 35, 36, 37, 38, 39, 40, 41, 42, 43, 44, 45, 46, 47, 48, 49, 50, 51, 52, 53, 54, 55, 56, 57] (by decide +kernel) (by decide +kernel)
set_option maxRecDepth 20000 in
theorem gX4_end_X4_pointsOf : GoodIn wsX4_end (wsV RX4 108 RX4 yX4_pointsOf wsX4_pointsOf) := goodIn_app (goodIn_of _ (by decide +kernel)) ggX4_end_X4_pointsOf
theorem dX4_end_0 : decode cX4_end 0 = .ok (.aload_n 0, 1) := by decide +kernel
theorem dX4_end_1 : decode cX4_end 1 = .ok (.iload_n 1, 1) := by decide +kernel
theorem dX4_end_2 : decode cX4_end 2 = .ok (.invokevirtual 105, 3) := by decide +kernel
theorem dX4_end_5 : decode cX4_end 5 = .ok (.istore_n 2, 1) := by decide +kernel
theorem dX4_end_6 : decode cX4_end 6 = .ok (.aload_n 0, 1) := by decide +kernel
theorem dX4_end_7 : decode cX4_end 7 = .ok (.iload_n 2, 1) := by decide +kernel
theorem dX4_end_8 : decode cX4_end 8 = .ok (.ifCond .ne 7, 3) := by decide +kernel
theorem dX4_end_11 : decode cX4_end 11 = .ok (.iconst 1, 1) := by decide +kernel
theorem dX4_end_12 : decode cX4_end 12 = .ok (.goto 17, 3) := by decide +kernel
theorem dX4_end_15 : decode cX4_end 15 = .ok (.aload_n 0, 1) := by decide +kernel
theorem dX4_end_16 : decode cX4_end 16 = .ok (.getfield 20, 3) := by decide +kernel
theorem dX4_end_19 : decode cX4_end 19 = .ok (.iload_n 1, 1) := by decide +kernel
theorem dX4_end_20 : decode cX4_end 20 = .ok (.iaload, 1) := by decide +kernel
theorem dX4_end_21 : decode cX4_end 21 = .ok (.ifCond .eq 7, 3) := by decide +kernel
theorem dX4_end_24 : decode cX4_end 24 = .ok (.iconst 2, 1) := by decide +kernel
theorem dX4_end_25 : decode cX4_end 25 = .ok (.goto 4, 3) := by decide +kernel
theorem dX4_end_28 : decode cX4_end 28 = .ok (.iconst 0, 1) := by decide +kernel
theorem dX4_end_29 : decode cX4_end 29 = .ok (.invokevirtual 95, 3) := by decide +kernel
theorem dX4_end_32 : decode cX4_end 32 = .ok (.ifCond .eq 5, 3) := by decide +kernel
theorem dX4_end_35 : decode cX4_end 35 = .ok (.iconst 0, 1) := by decide +kernel
theorem dX4_end_36 : decode cX4_end 36 = .ok (.ireturn, 1) := by decide +kernel
theorem dX4_end_37 : decode cX4_end 37 = .ok (.aload_n 0, 1) := by decide +kernel
theorem dX4_end_38 : decode cX4_end 38 = .ok (.getfield 20, 3) := by decide +kernel
theorem dX4_end_41 : decode cX4_end 41 = .ok (.iload_n 1, 1) := by decide +kernel
theorem dX4_end_42 : decode cX4_end 42 = .ok (.iconst 1, 1) := by decide +kernel
theorem dX4_end_43 : decode cX4_end 43 = .ok (.iastore, 1) := by decide +kernel
theorem dX4_end_44 : decode cX4_end 44 = .ok (.aload_n 0, 1) := by decide +kernel
theorem dX4_end_45 : decode cX4_end 45 = .ok (.iload_n 1, 1) := by decide +kernel
theorem dX4_end_46 : decode cX4_end 46 = .ok (.aload_n 0, 1) := by decide +kernel
theorem dX4_end_47 : decode cX4_end 47 = .ok (.getfield 23, 3) := by decide +kernel
theorem dX4_end_50 : decode cX4_end 50 = .ok (.iload_n 1, 1) := by decide +kernel
theorem dX4_end_51 : decode cX4_end 51 = .ok (.iaload, 1) := by decide +kernel
theorem dX4_end_52 : decode cX4_end 52 = .ok (.sipush 3000, 3) := by decide +kernel
theorem dX4_end_55 : decode cX4_end 55 = .ok (.invokevirtual 108, 3) := by decide +kernel
theorem dX4_end_58 : decode cX4_end 58 = .ok (.aload_n 0, 1) := by decide +kernel
theorem dX4_end_59 : decode cX4_end 59 = .ok (.iload_n 1, 1) := by decide +kernel
theorem dX4_end_60 : decode cX4_end 60 = .ok (.aload_n 0, 1) := by decide +kernel
theorem dX4_end_61 : decode cX4_end 61 = .ok (.getfield 26, 3) := by decide +kernel
theorem dX4_end_64 : decode cX4_end 64 = .ok (.iload_n 1, 1) := by decide +kernel
theorem dX4_end_65 : decode cX4_end 65 = .ok (.iaload, 1) := by decide +kernel
theorem dX4_end_66 : decode cX4_end 66 = .ok (.sipush 3000, 3) := by decide +kernel
theorem dX4_end_69 : decode cX4_end 69 = .ok (.invokevirtual 108, 3) := by decide +kernel
theorem dX4_end_72 : decode cX4_end 72 = .ok (.isub, 1) := by decide +kernel
theorem dX4_end_73 : decode cX4_end 73 = .ok (.istore_n 3, 1) := by decide +kernel
theorem dX4_end_74 : decode cX4_end 74 = .ok (.aload_n 0, 1) := by decide +kernel
theorem dX4_end_75 : decode cX4_end 75 = .ok (.getfield 29, 3) := by decide +kernel
theorem dX4_end_78 : decode cX4_end 78 = .ok (.iload_n 1, 1) := by decide +kernel
theorem dX4_end_79 : decode cX4_end 79 = .ok (.iload_n 3, 1) := by decide +kernel
theorem dX4_end_80 : decode cX4_end 80 = .ok (.ifCond .le 12, 3) := by decide +kernel
theorem dX4_end_83 : decode cX4_end 83 = .ok (.aload_n 0, 1) := by decide +kernel
theorem dX4_end_84 : decode cX4_end 84 = .ok (.getfield 23, 3) := by decide +kernel
theorem dX4_end_87 : decode cX4_end 87 = .ok (.iload_n 1, 1) := by decide +kernel
theorem dX4_end_88 : decode cX4_end 88 = .ok (.iaload, 1) := by decide +kernel
theorem dX4_end_89 : decode cX4_end 89 = .ok (.goto 17, 3) := by decide +kernel
theorem dX4_end_92 : decode cX4_end 92 = .ok (.iload_n 3, 1) := by decide +kernel
theorem dX4_end_93 : decode cX4_end 93 = .ok (.ifCond .ge 12, 3) := by decide +kernel
theorem dX4_end_96 : decode cX4_end 96 = .ok (.aload_n 0, 1) := by decide +kernel
theorem dX4_end_97 : decode cX4_end 97 = .ok (.getfield 26, 3) := by decide +kernel
theorem dX4_end_100 : decode cX4_end 100 = .ok (.iload_n 1, 1) := by decide +kernel
theorem dX4_end_101 : decode cX4_end 101 = .ok (.iaload, 1) := by decide +kernel
theorem dX4_end_102 : decode cX4_end 102 = .ok (.goto 4, 3) := by decide +kernel
theorem dX4_end_105 : decode cX4_end 105 = .ok (.iconst (-1), 1) := by decide +kernel
theorem dX4_end_106 : decode cX4_end 106 = .ok (.iastore, 1) := by decide +kernel
theorem dX4_end_107 : decode cX4_end 107 = .ok (.aload_n 0, 1) := by decide +kernel
theorem dX4_end_108 : decode cX4_end 108 = .ok (.getfield 29, 3) := by decide +kernel
theorem dX4_end_111 : decode cX4_end 111 = .ok (.iload_n 1, 1) := by decide +kernel
theorem dX4_end_112 : decode cX4_end 112 = .ok (.iaload, 1) := by decide +kernel
theorem dX4_end_113 : decode cX4_end 113 = .ok (.ireturn, 1) := by decide +kernel
set_option maxRecDepth 20000 in
theorem ggX4_replay_X4_isFight : GoodIn wsX4_replay wsX4_isFight := goodIn_r _ [16, 4, 17, 18, 15, 19, 33, 34, 35, 36, 37, 38, 39, 40, 41, 42, 43, 44, 45, 46, 47, 48, 49, 50, 51, 52, 53, 54, 55, 56, 57, 58, 59, 60, 61] (by decide +kernel) (by decide +kernel)
set_option maxRecDepth 20000 in
theorem gX4_replay_X4_isFight : GoodIn wsX4_replay (wsV RX4 105 RX4 yX4_isFight wsX4_isFight) := goodIn_app (goodIn_of _ (by decide +kernel)) ggX4_replay_X4_isFight
set_option maxRecDepth 20000 in
theorem ggX4_replay_X4_isBusy : GoodIn wsX4_replay wsX4_isBusy := goodIn_r _ [23, 4, 1, 2, 3, 33, 34, 35, 36, 37, 38, 39, 40, 41, 42, 43, 44, 45, 46, 47, 48, 49, 50, 51, 52, 53, 54, 55, 56, 57, 58, 59, 60, 61] (by decide +kernel) (by decide +kernel)
set_option maxRecDepth 20000 in
theorem gX4_replay_X4_isBusy : GoodIn wsX4_replay (wsV RX4 98 RX4 yX4_isBusy wsX4_isBusy) := goodIn_app (goodIn_of _ (by decide +kernel)) ggX4_replay_X4_isBusy
set_option maxRecDepth 20000 in
theorem ggX4_replay_X4_refused : GoodIn wsX4_replay wsX4_refused := goodIn_r _ [27, 28, 33, 34, 35, 36, 37, 38, 39, 40, 41, 42, 43, 44, 45, 46, 47, 48, 49, 50, 51, 52, 53, 54, 55, 56, 57, 58, 59, 60, 61] (by decide +kernel) (by decide +kernel)
set_option maxRecDepth 20000 in
theorem gX4_replay_X4_refused : GoodIn wsX4_replay (wsV RX4 95 RX4 yX4_refused wsX4_refused) := goodIn_app (goodIn_of _ (by decide +kernel)) ggX4_replay_X4_refused
set_option maxRecDepth 20000 in
theorem ggX4_replay_X4_begin : GoodIn wsX4_replay wsX4_begin := goodIn_r _ [32, 2, 4, 3, 5, 33, 34, 35, 36, 37, 38, 39, 40, 41, 42, 43, 44, 45, 46, 47, 48, 49, 50, 51, 52, 53, 54, 55, 56, 57, 58, 59, 60, 61] (by decide +kernel) (by decide +kernel)
set_option maxRecDepth 20000 in
theorem gX4_replay_X4_begin : GoodIn wsX4_replay (wsV RX4 101 RX4 yX4_begin wsX4_begin) := goodIn_app (goodIn_of _ (by decide +kernel)) ggX4_replay_X4_begin
theorem dX4_replay_0 : decode cX4_replay 0 = .ok (.aload_n 0, 1) := by decide +kernel
theorem dX4_replay_1 : decode cX4_replay 1 = .ok (.iload_n 1, 1) := by decide +kernel
theorem dX4_replay_2 : decode cX4_replay 2 = .ok (.invokevirtual 105, 3) := by decide +kernel
theorem dX4_replay_5 : decode cX4_replay 5 = .ok (.istore_n 2, 1) := by decide +kernel
theorem dX4_replay_6 : decode cX4_replay 6 = .ok (.aload_n 0, 1) := by decide +kernel
theorem dX4_replay_7 : decode cX4_replay 7 = .ok (.iload_n 2, 1) := by decide +kernel
theorem dX4_replay_8 : decode cX4_replay 8 = .ok (.ifCond .ne 7, 3) := by decide +kernel
theorem dX4_replay_11 : decode cX4_replay 11 = .ok (.iconst 1, 1) := by decide +kernel
theorem dX4_replay_12 : decode cX4_replay 12 = .ok (.goto 53, 3) := by decide +kernel
theorem dX4_replay_15 : decode cX4_replay 15 = .ok (.aload_n 0, 1) := by decide +kernel
theorem dX4_replay_16 : decode cX4_replay 16 = .ok (.getfield 20, 3) := by decide +kernel
theorem dX4_replay_19 : decode cX4_replay 19 = .ok (.iload_n 1, 1) := by decide +kernel
theorem dX4_replay_20 : decode cX4_replay 20 = .ok (.iaload, 1) := by decide +kernel
theorem dX4_replay_21 : decode cX4_replay 21 = .ok (.iconst 1, 1) := by decide +kernel
theorem dX4_replay_22 : decode cX4_replay 22 = .ok (.if_icmp .ne 38, 3) := by decide +kernel
theorem dX4_replay_25 : decode cX4_replay 25 = .ok (.aload_n 0, 1) := by decide +kernel
theorem dX4_replay_26 : decode cX4_replay 26 = .ok (.aload_n 0, 1) := by decide +kernel
theorem dX4_replay_27 : decode cX4_replay 27 = .ok (.getfield 23, 3) := by decide +kernel
theorem dX4_replay_30 : decode cX4_replay 30 = .ok (.iload_n 1, 1) := by decide +kernel
theorem dX4_replay_31 : decode cX4_replay 31 = .ok (.iaload, 1) := by decide +kernel
theorem dX4_replay_32 : decode cX4_replay 32 = .ok (.invokevirtual 98, 3) := by decide +kernel
theorem dX4_replay_35 : decode cX4_replay 35 = .ok (.ifCond .ne 25, 3) := by decide +kernel
theorem dX4_replay_38 : decode cX4_replay 38 = .ok (.aload_n 0, 1) := by decide +kernel
theorem dX4_replay_39 : decode cX4_replay 39 = .ok (.aload_n 0, 1) := by decide +kernel
theorem dX4_replay_40 : decode cX4_replay 40 = .ok (.getfield 26, 3) := by decide +kernel
theorem dX4_replay_43 : decode cX4_replay 43 = .ok (.iload_n 1, 1) := by decide +kernel
theorem dX4_replay_44 : decode cX4_replay 44 = .ok (.iaload, 1) := by decide +kernel
theorem dX4_replay_45 : decode cX4_replay 45 = .ok (.invokevirtual 98, 3) := by decide +kernel
theorem dX4_replay_48 : decode cX4_replay 48 = .ok (.ifCond .ne 12, 3) := by decide +kernel
theorem dX4_replay_51 : decode cX4_replay 51 = .ok (.aload_n 0, 1) := by decide +kernel
theorem dX4_replay_52 : decode cX4_replay 52 = .ok (.getfield 88, 3) := by decide +kernel
theorem dX4_replay_55 : decode cX4_replay 55 = .ok (.bipush 20, 2) := by decide +kernel
theorem dX4_replay_57 : decode cX4_replay 57 = .ok (.if_icmp .ne 7, 3) := by decide +kernel
theorem dX4_replay_60 : decode cX4_replay 60 = .ok (.iconst 2, 1) := by decide +kernel
theorem dX4_replay_61 : decode cX4_replay 61 = .ok (.goto 4, 3) := by decide +kernel
theorem dX4_replay_64 : decode cX4_replay 64 = .ok (.iconst 0, 1) := by decide +kernel
theorem dX4_replay_65 : decode cX4_replay 65 = .ok (.invokevirtual 95, 3) := by decide +kernel
theorem dX4_replay_68 : decode cX4_replay 68 = .ok (.ifCond .eq 5, 3) := by decide +kernel
theorem dX4_replay_71 : decode cX4_replay 71 = .ok (.iconst 0, 1) := by decide +kernel
theorem dX4_replay_72 : decode cX4_replay 72 = .ok (.ireturn, 1) := by decide +kernel
theorem dX4_replay_73 : decode cX4_replay 73 = .ok (.aload_n 0, 1) := by decide +kernel
theorem dX4_replay_74 : decode cX4_replay 74 = .ok (.getfield 20, 3) := by decide +kernel
theorem dX4_replay_77 : decode cX4_replay 77 = .ok (.iload_n 1, 1) := by decide +kernel
theorem dX4_replay_78 : decode cX4_replay 78 = .ok (.iconst 2, 1) := by decide +kernel
theorem dX4_replay_79 : decode cX4_replay 79 = .ok (.iastore, 1) := by decide +kernel
theorem dX4_replay_80 : decode cX4_replay 80 = .ok (.aload_n 0, 1) := by decide +kernel
theorem dX4_replay_81 : decode cX4_replay 81 = .ok (.getfield 29, 3) := by decide +kernel
theorem dX4_replay_84 : decode cX4_replay 84 = .ok (.iload_n 1, 1) := by decide +kernel
theorem dX4_replay_85 : decode cX4_replay 85 = .ok (.iconst (-1), 1) := by decide +kernel
theorem dX4_replay_86 : decode cX4_replay 86 = .ok (.iastore, 1) := by decide +kernel
theorem dX4_replay_87 : decode cX4_replay 87 = .ok (.iconst 0, 1) := by decide +kernel
theorem dX4_replay_88 : decode cX4_replay 88 = .ok (.istore_n 3, 1) := by decide +kernel
theorem dX4_replay_89 : decode cX4_replay 89 = .ok (.iload_n 3, 1) := by decide +kernel
theorem dX4_replay_90 : decode cX4_replay 90 = .ok (.aload_n 0, 1) := by decide +kernel
theorem dX4_replay_91 : decode cX4_replay 91 = .ok (.getfield 112, 3) := by decide +kernel
theorem dX4_replay_94 : decode cX4_replay 94 = .ok (.if_icmp .ge 39, 3) := by decide +kernel
theorem dX4_replay_97 : decode cX4_replay 97 = .ok (.aload_n 0, 1) := by decide +kernel
theorem dX4_replay_98 : decode cX4_replay 98 = .ok (.getfield 71, 3) := by decide +kernel
theorem dX4_replay_101 : decode cX4_replay 101 = .ok (.iload_n 3, 1) := by decide +kernel
theorem dX4_replay_102 : decode cX4_replay 102 = .ok (.aload_n 0, 1) := by decide +kernel
theorem dX4_replay_103 : decode cX4_replay 103 = .ok (.getfield 71, 3) := by decide +kernel
theorem dX4_replay_106 : decode cX4_replay 106 = .ok (.iload_n 3, 1) := by decide +kernel
theorem dX4_replay_107 : decode cX4_replay 107 = .ok (.baload, 1) := by decide +kernel
theorem dX4_replay_108 : decode cX4_replay 108 = .ok (.ifCond .ne 13, 3) := by decide +kernel
theorem dX4_replay_111 : decode cX4_replay 111 = .ok (.aload_n 0, 1) := by decide +kernel
theorem dX4_replay_112 : decode cX4_replay 112 = .ok (.getfield 59, 3) := by decide +kernel
theorem dX4_replay_115 : decode cX4_replay 115 = .ok (.iload_n 3, 1) := by decide +kernel
theorem dX4_replay_116 : decode cX4_replay 116 = .ok (.iaload, 1) := by decide +kernel
theorem dX4_replay_117 : decode cX4_replay 117 = .ok (.iload_n 1, 1) := by decide +kernel
theorem dX4_replay_118 : decode cX4_replay 118 = .ok (.if_icmp .ne 7, 3) := by decide +kernel
theorem dX4_replay_121 : decode cX4_replay 121 = .ok (.iconst 1, 1) := by decide +kernel
theorem dX4_replay_122 : decode cX4_replay 122 = .ok (.goto 4, 3) := by decide +kernel
theorem dX4_replay_125 : decode cX4_replay 125 = .ok (.iconst 0, 1) := by decide +kernel
theorem dX4_replay_126 : decode cX4_replay 126 = .ok (.bastore, 1) := by decide +kernel
theorem dX4_replay_127 : decode cX4_replay 127 = .ok (.iinc 3 1, 3) := by decide +kernel
theorem dX4_replay_130 : decode cX4_replay 130 = .ok (.goto (-41), 3) := by decide +kernel
theorem dX4_replay_133 : decode cX4_replay 133 = .ok (.iconst 0, 1) := by decide +kernel
theorem dX4_replay_134 : decode cX4_replay 134 = .ok (.istore_n 3, 1) := by decide +kernel
theorem dX4_replay_135 : decode cX4_replay 135 = .ok (.iload_n 3, 1) := by decide +kernel
theorem dX4_replay_136 : decode cX4_replay 136 = .ok (.aload_n 0, 1) := by decide +kernel
theorem dX4_replay_137 : decode cX4_replay 137 = .ok (.getfield 115, 3) := by decide +kernel
theorem dX4_replay_140 : decode cX4_replay 140 = .ok (.if_icmp .ge 35, 3) := by decide +kernel
theorem dX4_replay_143 : decode cX4_replay 143 = .ok (.aload_n 0, 1) := by decide +kernel
theorem dX4_replay_144 : decode cX4_replay 144 = .ok (.getfield 56, 3) := by decide +kernel
theorem dX4_replay_147 : decode cX4_replay 147 = .ok (.iload_n 3, 1) := by decide +kernel
theorem dX4_replay_148 : decode cX4_replay 148 = .ok (.aload_n 0, 1) := by decide +kernel
theorem dX4_replay_149 : decode cX4_replay 149 = .ok (.getfield 50, 3) := by decide +kernel
theorem dX4_replay_152 : decode cX4_replay 152 = .ok (.iload_n 3, 1) := by decide +kernel
theorem dX4_replay_153 : decode cX4_replay 153 = .ok (.iaload, 1) := by decide +kernel
theorem dX4_replay_154 : decode cX4_replay 154 = .ok (.iload_n 1, 1) := by decide +kernel
theorem dX4_replay_155 : decode cX4_replay 155 = .ok (.if_icmp .ne 7, 3) := by decide +kernel
theorem dX4_replay_158 : decode cX4_replay 158 = .ok (.iconst (-1), 1) := by decide +kernel
theorem dX4_replay_159 : decode cX4_replay 159 = .ok (.goto 9, 3) := by decide +kernel
theorem dX4_replay_162 : decode cX4_replay 162 = .ok (.aload_n 0, 1) := by decide +kernel
theorem dX4_replay_163 : decode cX4_replay 163 = .ok (.getfield 56, 3) := by decide +kernel
theorem dX4_replay_166 : decode cX4_replay 166 = .ok (.iload_n 3, 1) := by decide +kernel
theorem dX4_replay_167 : decode cX4_replay 167 = .ok (.iaload, 1) := by decide +kernel
theorem dX4_replay_168 : decode cX4_replay 168 = .ok (.iastore, 1) := by decide +kernel
theorem dX4_replay_169 : decode cX4_replay 169 = .ok (.iinc 3 1, 3) := by decide +kernel
theorem dX4_replay_172 : decode cX4_replay 172 = .ok (.goto (-37), 3) := by decide +kernel
theorem dX4_replay_175 : decode cX4_replay 175 = .ok (.aload_n 0, 1) := by decide +kernel
theorem dX4_replay_176 : decode cX4_replay 176 = .ok (.aload_n 0, 1) := by decide +kernel
theorem dX4_replay_177 : decode cX4_replay 177 = .ok (.getfield 23, 3) := by decide +kernel
theorem dX4_replay_180 : decode cX4_replay 180 = .ok (.iload_n 1, 1) := by decide +kernel
theorem dX4_replay_181 : decode cX4_replay 181 = .ok (.iaload, 1) := by decide +kernel
theorem dX4_replay_182 : decode cX4_replay 182 = .ok (.aload_n 0, 1) := by decide +kernel
theorem dX4_replay_183 : decode cX4_replay 183 = .ok (.getfield 26, 3) := by decide +kernel
theorem dX4_replay_186 : decode cX4_replay 186 = .ok (.iload_n 1, 1) := by decide +kernel
theorem dX4_replay_187 : decode cX4_replay 187 = .ok (.iaload, 1) := by decide +kernel
theorem dX4_replay_188 : decode cX4_replay 188 = .ok (.invokevirtual 101, 3) := by decide +kernel
theorem dX4_replay_191 : decode cX4_replay 191 = .ok (.ireturn, 1) := by decide +kernel
set_option maxRecDepth 20000 in
theorem ggX4_camera_X4_in : GoodIn wsX4_camera wsX4_in := goodIn_r _ [7] (by decide +kernel) (by decide +kernel)
set_option maxRecDepth 20000 in
theorem gX4_camera_X4_in : GoodIn wsX4_camera (va_wsS RX4 84 yX4_in wsX4_in) := goodIn_app (goodIn_of _ (by decide +kernel)) ggX4_camera_X4_in
set_option maxRecDepth 20000 in
theorem ggX4_camera_X4_refused : GoodIn wsX4_camera wsX4_refused := goodIn_r _ [11, 12, 13, 14, 15, 16, 17, 18, 19, 20, 21, 22, 23, 24, 25, 26, 27, 28, 29, 30, 31, 32, 33, 34, 35, 36, 37, 38, 39, 40, 41] (by decide +kernel) (by decide +kernel)
set_option maxRecDepth 20000 in
theorem gX4_camera_X4_refused : GoodIn wsX4_camera (wsV RX4 95 RX4 yX4_refused wsX4_refused) := goodIn_app (goodIn_of _ (by decide +kernel)) ggX4_camera_X4_refused
theorem dX4_camera_0 : decode cX4_camera 0 = .ok (.aload_n 0, 1) := by decide +kernel
theorem dX4_camera_1 : decode cX4_camera 1 = .ok (.iload_n 1, 1) := by decide +kernel
theorem dX4_camera_2 : decode cX4_camera 2 = .ok (.iconst 1, 1) := by decide +kernel
theorem dX4_camera_3 : decode cX4_camera 3 = .ok (.bipush 60, 2) := by decide +kernel
theorem dX4_camera_5 : decode cX4_camera 5 = .ok (.invokestatic 84, 3) := by decide +kernel
theorem dX4_camera_8 : decode cX4_camera 8 = .ok (.ifCond .eq 13, 3) := by decide +kernel
theorem dX4_camera_11 : decode cX4_camera 11 = .ok (.iload_n 2, 1) := by decide +kernel
theorem dX4_camera_12 : decode cX4_camera 12 = .ok (.iconst 0, 1) := by decide +kernel
theorem dX4_camera_13 : decode cX4_camera 13 = .ok (.bipush 60, 2) := by decide +kernel
theorem dX4_camera_15 : decode cX4_camera 15 = .ok (.invokestatic 84, 3) := by decide +kernel
theorem dX4_camera_18 : decode cX4_camera 18 = .ok (.ifCond .ne 7, 3) := by decide +kernel
theorem dX4_camera_21 : decode cX4_camera 21 = .ok (.iconst 1, 1) := by decide +kernel
theorem dX4_camera_22 : decode cX4_camera 22 = .ok (.goto 17, 3) := by decide +kernel
theorem dX4_camera_25 : decode cX4_camera 25 = .ok (.aload_n 0, 1) := by decide +kernel
theorem dX4_camera_26 : decode cX4_camera 26 = .ok (.getfield 118, 3) := by decide +kernel
theorem dX4_camera_29 : decode cX4_camera 29 = .ok (.bipush 6, 2) := by decide +kernel
theorem dX4_camera_31 : decode cX4_camera 31 = .ok (.if_icmp .ne 7, 3) := by decide +kernel
theorem dX4_camera_34 : decode cX4_camera 34 = .ok (.iconst 2, 1) := by decide +kernel
theorem dX4_camera_35 : decode cX4_camera 35 = .ok (.goto 4, 3) := by decide +kernel
theorem dX4_camera_38 : decode cX4_camera 38 = .ok (.iconst 0, 1) := by decide +kernel
theorem dX4_camera_39 : decode cX4_camera 39 = .ok (.invokevirtual 95, 3) := by decide +kernel
theorem dX4_camera_42 : decode cX4_camera 42 = .ok (.ifCond .eq 5, 3) := by decide +kernel
theorem dX4_camera_45 : decode cX4_camera 45 = .ok (.iconst 0, 1) := by decide +kernel
theorem dX4_camera_46 : decode cX4_camera 46 = .ok (.ireturn, 1) := by decide +kernel
theorem dX4_camera_47 : decode cX4_camera 47 = .ok (.aload_n 0, 1) := by decide +kernel
theorem dX4_camera_48 : decode cX4_camera 48 = .ok (.getfield 32, 3) := by decide +kernel
theorem dX4_camera_51 : decode cX4_camera 51 = .ok (.aload_n 0, 1) := by decide +kernel
theorem dX4_camera_52 : decode cX4_camera 52 = .ok (.getfield 118, 3) := by decide +kernel
theorem dX4_camera_55 : decode cX4_camera 55 = .ok (.iload_n 1, 1) := by decide +kernel
theorem dX4_camera_56 : decode cX4_camera 56 = .ok (.iastore, 1) := by decide +kernel
theorem dX4_camera_57 : decode cX4_camera 57 = .ok (.aload_n 0, 1) := by decide +kernel
theorem dX4_camera_58 : decode cX4_camera 58 = .ok (.getfield 35, 3) := by decide +kernel
theorem dX4_camera_61 : decode cX4_camera 61 = .ok (.aload_n 0, 1) := by decide +kernel
theorem dX4_camera_62 : decode cX4_camera 62 = .ok (.getfield 118, 3) := by decide +kernel
theorem dX4_camera_65 : decode cX4_camera 65 = .ok (.iload_n 2, 1) := by decide +kernel
theorem dX4_camera_66 : decode cX4_camera 66 = .ok (.iastore, 1) := by decide +kernel
theorem dX4_camera_67 : decode cX4_camera 67 = .ok (.aload_n 0, 1) := by decide +kernel
theorem dX4_camera_68 : decode cX4_camera 68 = .ok (.dup, 1) := by decide +kernel
theorem dX4_camera_69 : decode cX4_camera 69 = .ok (.getfield 118, 3) := by decide +kernel
theorem dX4_camera_72 : decode cX4_camera 72 = .ok (.iconst 1, 1) := by decide +kernel
theorem dX4_camera_73 : decode cX4_camera 73 = .ok (.iadd, 1) := by decide +kernel
theorem dX4_camera_74 : decode cX4_camera 74 = .ok (.putfield 118, 3) := by decide +kernel
theorem dX4_camera_77 : decode cX4_camera 77 = .ok (.aload_n 0, 1) := by decide +kernel
theorem dX4_camera_78 : decode cX4_camera 78 = .ok (.getfield 118, 3) := by decide +kernel
theorem dX4_camera_81 : decode cX4_camera 81 = .ok (.iconst 1, 1) := by decide +kernel
theorem dX4_camera_82 : decode cX4_camera 82 = .ok (.isub, 1) := by decide +kernel
theorem dX4_camera_83 : decode cX4_camera 83 = .ok (.ireturn, 1) := by decide +kernel
theorem dX4_see_0 : decode cX4_see 0 = .ok (.aload_n 0, 1) := by decide +kernel
theorem dX4_see_1 : decode cX4_see 1 = .ok (.aload_n 0, 1) := by decide +kernel
theorem dX4_see_2 : decode cX4_see 2 = .ok (.getfield 115, 3) := by decide +kernel
theorem dX4_see_5 : decode cX4_see 5 = .ok (.iconst 1, 1) := by decide +kernel
theorem dX4_see_6 : decode cX4_see 6 = .ok (.isub, 1) := by decide +kernel
theorem dX4_see_7 : decode cX4_see 7 = .ok (.aload_n 0, 1) := by decide +kernel
theorem dX4_see_8 : decode cX4_see 8 = .ok (.getfield 7, 3) := by decide +kernel
theorem dX4_see_11 : decode cX4_see 11 = .ok (.isub, 1) := by decide +kernel
theorem dX4_see_12 : decode cX4_see 12 = .ok (.aload_n 0, 1) := by decide +kernel
theorem dX4_see_13 : decode cX4_see 13 = .ok (.getfield 13, 3) := by decide +kernel
theorem dX4_see_16 : decode cX4_see 16 = .ok (.if_icmp .le 17, 3) := by decide +kernel
theorem dX4_see_19 : decode cX4_see 19 = .ok (.aload_n 0, 1) := by decide +kernel
theorem dX4_see_20 : decode cX4_see 20 = .ok (.getfield 115, 3) := by decide +kernel
theorem dX4_see_23 : decode cX4_see 23 = .ok (.iconst 1, 1) := by decide +kernel
theorem dX4_see_24 : decode cX4_see 24 = .ok (.isub, 1) := by decide +kernel
theorem dX4_see_25 : decode cX4_see 25 = .ok (.aload_n 0, 1) := by decide +kernel
theorem dX4_see_26 : decode cX4_see 26 = .ok (.getfield 7, 3) := by decide +kernel
theorem dX4_see_29 : decode cX4_see 29 = .ok (.isub, 1) := by decide +kernel
theorem dX4_see_30 : decode cX4_see 30 = .ok (.goto 7, 3) := by decide +kernel
theorem dX4_see_33 : decode cX4_see 33 = .ok (.aload_n 0, 1) := by decide +kernel
theorem dX4_see_34 : decode cX4_see 34 = .ok (.getfield 13, 3) := by decide +kernel
theorem dX4_see_37 : decode cX4_see 37 = .ok (.putfield 13, 3) := by decide +kernel
theorem dX4_see_40 : decode cX4_see 40 = .ok (.return_, 1) := by decide +kernel
set_option maxRecDepth 20000 in
theorem ggX4_delay_X4_in : GoodIn wsX4_delay wsX4_in := goodIn_r _ [5] (by decide +kernel) (by decide +kernel)
set_option maxRecDepth 20000 in
theorem gX4_delay_X4_in : GoodIn wsX4_delay (va_wsS RX4 84 yX4_in wsX4_in) := goodIn_app (goodIn_of _ (by decide +kernel)) ggX4_delay_X4_in
set_option maxRecDepth 20000 in
theorem ggX4_delay_X4_refused : GoodIn wsX4_delay wsX4_refused := goodIn_r _ [9, 10, 17, 18, 19, 20, 21, 22, 23, 24, 25, 26, 27, 28, 29, 30, 31, 32, 33, 34, 35, 36, 37, 38, 39, 40, 41, 42, 43, 44, 45] (by decide +kernel) (by decide +kernel)
set_option maxRecDepth 20000 in
theorem gX4_delay_X4_refused : GoodIn wsX4_delay (wsV RX4 95 RX4 yX4_refused wsX4_refused) := goodIn_app (goodIn_of _ (by decide +kernel)) ggX4_delay_X4_refused
set_option maxRecDepth 20000 in
theorem ggX4_delay_X4_see : GoodIn wsX4_delay wsX4_see := goodIn_r _ [14, 15, 1, 16, 17, 18, 19, 20, 21, 22, 23, 24, 25, 26, 27, 28, 29, 30, 31, 32, 33, 34, 35, 36, 37, 38, 39, 40, 41, 42, 43, 44, 45] (by decide +kernel) (by decide +kernel)
set_option maxRecDepth 20000 in
theorem gX4_delay_X4_see : GoodIn wsX4_delay (wsV RX4 121 RX4 yX4_see wsX4_see) := goodIn_app (goodIn_of _ (by decide +kernel)) ggX4_delay_X4_see
theorem dX4_delay_0 : decode cX4_delay 0 = .ok (.aload_n 0, 1) := by decide +kernel
theorem dX4_delay_1 : decode cX4_delay 1 = .ok (.iload_n 1, 1) := by decide +kernel
theorem dX4_delay_2 : decode cX4_delay 2 = .ok (.iconst 0, 1) := by decide +kernel
theorem dX4_delay_3 : decode cX4_delay 3 = .ok (.bipush 100, 2) := by decide +kernel
theorem dX4_delay_5 : decode cX4_delay 5 = .ok (.invokestatic 84, 3) := by decide +kernel
theorem dX4_delay_8 : decode cX4_delay 8 = .ok (.ifCond .eq 7, 3) := by decide +kernel
theorem dX4_delay_11 : decode cX4_delay 11 = .ok (.iconst 0, 1) := by decide +kernel
theorem dX4_delay_12 : decode cX4_delay 12 = .ok (.goto 4, 3) := by decide +kernel
theorem dX4_delay_15 : decode cX4_delay 15 = .ok (.iconst 1, 1) := by decide +kernel
theorem dX4_delay_16 : decode cX4_delay 16 = .ok (.invokevirtual 95, 3) := by decide +kernel
theorem dX4_delay_19 : decode cX4_delay 19 = .ok (.ifCond .eq 5, 3) := by decide +kernel
theorem dX4_delay_22 : decode cX4_delay 22 = .ok (.iconst 0, 1) := by decide +kernel
theorem dX4_delay_23 : decode cX4_delay 23 = .ok (.ireturn, 1) := by decide +kernel
theorem dX4_delay_24 : decode cX4_delay 24 = .ok (.aload_n 0, 1) := by decide +kernel
theorem dX4_delay_25 : decode cX4_delay 25 = .ok (.getfield 7, 3) := by decide +kernel
theorem dX4_delay_28 : decode cX4_delay 28 = .ok (.istore_n 2, 1) := by decide +kernel
theorem dX4_delay_29 : decode cX4_delay 29 = .ok (.aload_n 0, 1) := by decide +kernel
theorem dX4_delay_30 : decode cX4_delay 30 = .ok (.iload_n 1, 1) := by decide +kernel
theorem dX4_delay_31 : decode cX4_delay 31 = .ok (.putfield 7, 3) := by decide +kernel
theorem dX4_delay_34 : decode cX4_delay 34 = .ok (.aload_n 0, 1) := by decide +kernel
theorem dX4_delay_35 : decode cX4_delay 35 = .ok (.invokevirtual 121, 3) := by decide +kernel
theorem dX4_delay_38 : decode cX4_delay 38 = .ok (.iload_n 2, 1) := by decide +kernel
theorem dX4_delay_39 : decode cX4_delay 39 = .ok (.ireturn, 1) := by decide +kernel
theorem dX4_heat_0 : decode cX4_heat 0 = .ok (.aload_n 0, 1) := by decide +kernel
theorem dX4_heat_1 : decode cX4_heat 1 = .ok (.getfield 16, 3) := by decide +kernel
theorem dX4_heat_4 : decode cX4_heat 4 = .ok (.aload_n 0, 1) := by decide +kernel
theorem dX4_heat_5 : decode cX4_heat 5 = .ok (.getfield 23, 3) := by decide +kernel
theorem dX4_heat_8 : decode cX4_heat 8 = .ok (.iload_n 1, 1) := by decide +kernel
theorem dX4_heat_9 : decode cX4_heat 9 = .ok (.iaload, 1) := by decide +kernel
theorem dX4_heat_10 : decode cX4_heat 10 = .ok (.iaload, 1) := by decide +kernel
theorem dX4_heat_11 : decode cX4_heat 11 = .ok (.aload_n 0, 1) := by decide +kernel
theorem dX4_heat_12 : decode cX4_heat 12 = .ok (.getfield 16, 3) := by decide +kernel
theorem dX4_heat_15 : decode cX4_heat 15 = .ok (.aload_n 0, 1) := by decide +kernel
theorem dX4_heat_16 : decode cX4_heat 16 = .ok (.getfield 26, 3) := by decide +kernel
theorem dX4_heat_19 : decode cX4_heat 19 = .ok (.iload_n 1, 1) := by decide +kernel
theorem dX4_heat_20 : decode cX4_heat 20 = .ok (.iaload, 1) := by decide +kernel
theorem dX4_heat_21 : decode cX4_heat 21 = .ok (.iaload, 1) := by decide +kernel
theorem dX4_heat_22 : decode cX4_heat 22 = .ok (.iadd, 1) := by decide +kernel
theorem dX4_heat_23 : decode cX4_heat 23 = .ok (.istore_n 2, 1) := by decide +kernel
theorem dX4_heat_24 : decode cX4_heat 24 = .ok (.aload_n 0, 1) := by decide +kernel
theorem dX4_heat_25 : decode cX4_heat 25 = .ok (.getfield 115, 3) := by decide +kernel
theorem dX4_heat_28 : decode cX4_heat 28 = .ok (.iconst 5, 1) := by decide +kernel
theorem dX4_heat_29 : decode cX4_heat 29 = .ok (.isub, 1) := by decide +kernel
theorem dX4_heat_30 : decode cX4_heat 30 = .ok (.istore_n 3, 1) := by decide +kernel
theorem dX4_heat_31 : decode cX4_heat 31 = .ok (.iload_n 3, 1) := by decide +kernel
theorem dX4_heat_32 : decode cX4_heat 32 = .ok (.aload_n 0, 1) := by decide +kernel
theorem dX4_heat_33 : decode cX4_heat 33 = .ok (.getfield 115, 3) := by decide +kernel
theorem dX4_heat_36 : decode cX4_heat 36 = .ok (.if_icmp .ge 78, 3) := by decide +kernel
theorem dX4_heat_39 : decode cX4_heat 39 = .ok (.iconst 0, 1) := by decide +kernel
theorem dX4_heat_40 : decode cX4_heat 40 = .ok (.istore 4, 2) := by decide +kernel
theorem dX4_heat_42 : decode cX4_heat 42 = .ok (.iconst 0, 1) := by decide +kernel
theorem dX4_heat_43 : decode cX4_heat 43 = .ok (.istore 5, 2) := by decide +kernel
theorem dX4_heat_45 : decode cX4_heat 45 = .ok (.iload 5, 2) := by decide +kernel
theorem dX4_heat_47 : decode cX4_heat 47 = .ok (.aload_n 0, 1) := by decide +kernel
theorem dX4_heat_48 : decode cX4_heat 48 = .ok (.getfield 112, 3) := by decide +kernel
theorem dX4_heat_51 : decode cX4_heat 51 = .ok (.if_icmp .ge 43, 3) := by decide +kernel
theorem dX4_heat_54 : decode cX4_heat 54 = .ok (.iload 4, 2) := by decide +kernel
theorem dX4_heat_56 : decode cX4_heat 56 = .ok (.ifCond .ne 25, 3) := by decide +kernel
theorem dX4_heat_59 : decode cX4_heat 59 = .ok (.aload_n 0, 1) := by decide +kernel
theorem dX4_heat_60 : decode cX4_heat 60 = .ok (.getfield 59, 3) := by decide +kernel
theorem dX4_heat_63 : decode cX4_heat 63 = .ok (.iload 5, 2) := by decide +kernel
theorem dX4_heat_65 : decode cX4_heat 65 = .ok (.iaload, 1) := by decide +kernel
theorem dX4_heat_66 : decode cX4_heat 66 = .ok (.iload_n 1, 1) := by decide +kernel
theorem dX4_heat_67 : decode cX4_heat 67 = .ok (.if_icmp .ne 18, 3) := by decide +kernel
theorem dX4_heat_70 : decode cX4_heat 70 = .ok (.aload_n 0, 1) := by decide +kernel
theorem dX4_heat_71 : decode cX4_heat 71 = .ok (.getfield 68, 3) := by decide +kernel
theorem dX4_heat_74 : decode cX4_heat 74 = .ok (.iload 5, 2) := by decide +kernel
theorem dX4_heat_76 : decode cX4_heat 76 = .ok (.iaload, 1) := by decide +kernel
theorem dX4_heat_77 : decode cX4_heat 77 = .ok (.iload_n 3, 1) := by decide +kernel
theorem dX4_heat_78 : decode cX4_heat 78 = .ok (.if_icmp .ne 7, 3) := by decide +kernel
theorem dX4_heat_81 : decode cX4_heat 81 = .ok (.iconst 1, 1) := by decide +kernel
theorem dX4_heat_82 : decode cX4_heat 82 = .ok (.goto 4, 3) := by decide +kernel
theorem dX4_heat_85 : decode cX4_heat 85 = .ok (.iconst 0, 1) := by decide +kernel
theorem dX4_heat_86 : decode cX4_heat 86 = .ok (.istore 4, 2) := by decide +kernel
theorem dX4_heat_88 : decode cX4_heat 88 = .ok (.iinc 5 1, 3) := by decide +kernel
theorem dX4_heat_91 : decode cX4_heat 91 = .ok (.goto (-46), 3) := by decide +kernel
theorem dX4_heat_94 : decode cX4_heat 94 = .ok (.iload_n 2, 1) := by decide +kernel
theorem dX4_heat_95 : decode cX4_heat 95 = .ok (.iload 4, 2) := by decide +kernel
theorem dX4_heat_97 : decode cX4_heat 97 = .ok (.ifCond .eq 8, 3) := by decide +kernel
theorem dX4_heat_100 : decode cX4_heat 100 = .ok (.bipush 10, 2) := by decide +kernel
theorem dX4_heat_102 : decode cX4_heat 102 = .ok (.goto 4, 3) := by decide +kernel
theorem dX4_heat_105 : decode cX4_heat 105 = .ok (.iconst 0, 1) := by decide +kernel
theorem dX4_heat_106 : decode cX4_heat 106 = .ok (.iadd, 1) := by decide +kernel
theorem dX4_heat_107 : decode cX4_heat 107 = .ok (.istore_n 2, 1) := by decide +kernel
theorem dX4_heat_108 : decode cX4_heat 108 = .ok (.iinc 3 1, 3) := by decide +kernel
theorem dX4_heat_111 : decode cX4_heat 111 = .ok (.goto (-80), 3) := by decide +kernel
theorem dX4_heat_114 : decode cX4_heat 114 = .ok (.iload_n 2, 1) := by decide +kernel
theorem dX4_heat_115 : decode cX4_heat 115 = .ok (.ireturn, 1) := by decide +kernel
set_option maxRecDepth 20000 in
theorem ggX4_hottest_X4_heat : GoodIn wsX4_hottest wsX4_heat := goodIn_r _ [8, 9, 10, 11, 12, 13, 14, 15, 16, 17, 18, 19, 20, 21, 22, 23, 24, 25, 26, 27, 28, 29, 30, 31, 32, 33, 34, 35, 36, 37, 38, 39, 40, 41, 42, 43, 44] (by decide +kernel) (by decide +kernel)
set_option maxRecDepth 20000 in
theorem gX4_hottest_X4_heat : GoodIn wsX4_hottest (wsV RX4 124 RX4 yX4_heat wsX4_heat) := goodIn_app (goodIn_of _ (by decide +kernel)) ggX4_hottest_X4_heat
theorem dX4_hottest_0 : decode cX4_hottest 0 = .ok (.iconst (-1), 1) := by decide +kernel
theorem dX4_hottest_1 : decode cX4_hottest 1 = .ok (.istore_n 1, 1) := by decide +kernel
theorem dX4_hottest_2 : decode cX4_hottest 2 = .ok (.iconst 0, 1) := by decide +kernel
theorem dX4_hottest_3 : decode cX4_hottest 3 = .ok (.istore_n 2, 1) := by decide +kernel
theorem dX4_hottest_4 : decode cX4_hottest 4 = .ok (.iload_n 2, 1) := by decide +kernel
theorem dX4_hottest_5 : decode cX4_hottest 5 = .ok (.aload_n 0, 1) := by decide +kernel
theorem dX4_hottest_6 : decode cX4_hottest 6 = .ok (.getfield 88, 3) := by decide +kernel
theorem dX4_hottest_9 : decode cX4_hottest 9 = .ok (.if_icmp .ge 73, 3) := by decide +kernel
theorem dX4_hottest_12 : decode cX4_hottest 12 = .ok (.aload_n 0, 1) := by decide +kernel
theorem dX4_hottest_13 : decode cX4_hottest 13 = .ok (.getfield 20, 3) := by decide +kernel
theorem dX4_hottest_16 : decode cX4_hottest 16 = .ok (.iload_n 2, 1) := by decide +kernel
theorem dX4_hottest_17 : decode cX4_hottest 17 = .ok (.iaload, 1) := by decide +kernel
theorem dX4_hottest_18 : decode cX4_hottest 18 = .ok (.ifCond .ne 58, 3) := by decide +kernel
theorem dX4_hottest_21 : decode cX4_hottest 21 = .ok (.iload_n 1, 1) := by decide +kernel
theorem dX4_hottest_22 : decode cX4_hottest 22 = .ok (.iconst (-1), 1) := by decide +kernel
theorem dX4_hottest_23 : decode cX4_hottest 23 = .ok (.if_icmp .eq 37, 3) := by decide +kernel
theorem dX4_hottest_26 : decode cX4_hottest 26 = .ok (.aload_n 0, 1) := by decide +kernel
theorem dX4_hottest_27 : decode cX4_hottest 27 = .ok (.iload_n 2, 1) := by decide +kernel
theorem dX4_hottest_28 : decode cX4_hottest 28 = .ok (.invokevirtual 124, 3) := by decide +kernel
theorem dX4_hottest_31 : decode cX4_hottest 31 = .ok (.aload_n 0, 1) := by decide +kernel
theorem dX4_hottest_32 : decode cX4_hottest 32 = .ok (.iload_n 1, 1) := by decide +kernel
theorem dX4_hottest_33 : decode cX4_hottest 33 = .ok (.invokevirtual 124, 3) := by decide +kernel
theorem dX4_hottest_36 : decode cX4_hottest 36 = .ok (.if_icmp .gt 24, 3) := by decide +kernel
theorem dX4_hottest_39 : decode cX4_hottest 39 = .ok (.aload_n 0, 1) := by decide +kernel
theorem dX4_hottest_40 : decode cX4_hottest 40 = .ok (.iload_n 2, 1) := by decide +kernel
theorem dX4_hottest_41 : decode cX4_hottest 41 = .ok (.invokevirtual 124, 3) := by decide +kernel
theorem dX4_hottest_44 : decode cX4_hottest 44 = .ok (.aload_n 0, 1) := by decide +kernel
theorem dX4_hottest_45 : decode cX4_hottest 45 = .ok (.iload_n 1, 1) := by decide +kernel
theorem dX4_hottest_46 : decode cX4_hottest 46 = .ok (.invokevirtual 124, 3) := by decide +kernel
theorem dX4_hottest_49 : decode cX4_hottest 49 = .ok (.if_icmp .ne 15, 3) := by decide +kernel
theorem dX4_hottest_52 : decode cX4_hottest 52 = .ok (.iload_n 2, 1) := by decide +kernel
theorem dX4_hottest_53 : decode cX4_hottest 53 = .ok (.aload_n 0, 1) := by decide +kernel
theorem dX4_hottest_54 : decode cX4_hottest 54 = .ok (.getfield 47, 3) := by decide +kernel
theorem dX4_hottest_57 : decode cX4_hottest 57 = .ok (.if_icmp .ne 7, 3) := by decide +kernel
theorem dX4_hottest_60 : decode cX4_hottest 60 = .ok (.iconst 1, 1) := by decide +kernel
theorem dX4_hottest_61 : decode cX4_hottest 61 = .ok (.goto 4, 3) := by decide +kernel
theorem dX4_hottest_64 : decode cX4_hottest 64 = .ok (.iconst 0, 1) := by decide +kernel
theorem dX4_hottest_65 : decode cX4_hottest 65 = .ok (.istore_n 3, 1) := by decide +kernel
theorem dX4_hottest_66 : decode cX4_hottest 66 = .ok (.iload_n 3, 1) := by decide +kernel
theorem dX4_hottest_67 : decode cX4_hottest 67 = .ok (.ifCond .eq 7, 3) := by decide +kernel
theorem dX4_hottest_70 : decode cX4_hottest 70 = .ok (.iload_n 2, 1) := by decide +kernel
theorem dX4_hottest_71 : decode cX4_hottest 71 = .ok (.goto 4, 3) := by decide +kernel
theorem dX4_hottest_74 : decode cX4_hottest 74 = .ok (.iload_n 1, 1) := by decide +kernel
theorem dX4_hottest_75 : decode cX4_hottest 75 = .ok (.istore_n 1, 1) := by decide +kernel
theorem dX4_hottest_76 : decode cX4_hottest 76 = .ok (.iinc 2 1, 3) := by decide +kernel
theorem dX4_hottest_79 : decode cX4_hottest 79 = .ok (.goto (-75), 3) := by decide +kernel
theorem dX4_hottest_82 : decode cX4_hottest 82 = .ok (.iload_n 1, 1) := by decide +kernel
theorem dX4_hottest_83 : decode cX4_hottest 83 = .ok (.ireturn, 1) := by decide +kernel
theorem dX4_chosen_0 : decode cX4_chosen 0 = .ok (.aload_n 0, 1) := by decide +kernel
theorem dX4_chosen_1 : decode cX4_chosen 1 = .ok (.getfield 44, 3) := by decide +kernel
theorem dX4_chosen_4 : decode cX4_chosen 4 = .ok (.iconst (-1), 1) := by decide +kernel
theorem dX4_chosen_5 : decode cX4_chosen 5 = .ok (.if_icmp .eq 20, 3) := by decide +kernel
theorem dX4_chosen_8 : decode cX4_chosen 8 = .ok (.aload_n 0, 1) := by decide +kernel
theorem dX4_chosen_9 : decode cX4_chosen 9 = .ok (.getfield 41, 3) := by decide +kernel
theorem dX4_chosen_12 : decode cX4_chosen 12 = .ok (.aload_n 0, 1) := by decide +kernel
theorem dX4_chosen_13 : decode cX4_chosen 13 = .ok (.getfield 44, 3) := by decide +kernel
theorem dX4_chosen_16 : decode cX4_chosen 16 = .ok (.iaload, 1) := by decide +kernel
theorem dX4_chosen_17 : decode cX4_chosen 17 = .ok (.ifCond .ne 8, 3) := by decide +kernel
theorem dX4_chosen_20 : decode cX4_chosen 20 = .ok (.aload_n 0, 1) := by decide +kernel
theorem dX4_chosen_21 : decode cX4_chosen 21 = .ok (.getfield 44, 3) := by decide +kernel
theorem dX4_chosen_24 : decode cX4_chosen 24 = .ok (.ireturn, 1) := by decide +kernel
theorem dX4_chosen_25 : decode cX4_chosen 25 = .ok (.iconst (-1), 1) := by decide +kernel
theorem dX4_chosen_26 : decode cX4_chosen 26 = .ok (.istore_n 1, 1) := by decide +kernel
theorem dX4_chosen_27 : decode cX4_chosen 27 = .ok (.aload_n 0, 1) := by decide +kernel
theorem dX4_chosen_28 : decode cX4_chosen 28 = .ok (.getfield 118, 3) := by decide +kernel
theorem dX4_chosen_31 : decode cX4_chosen 31 = .ok (.iconst 1, 1) := by decide +kernel
theorem dX4_chosen_32 : decode cX4_chosen 32 = .ok (.isub, 1) := by decide +kernel
theorem dX4_chosen_33 : decode cX4_chosen 33 = .ok (.istore_n 2, 1) := by decide +kernel
theorem dX4_chosen_34 : decode cX4_chosen 34 = .ok (.iload_n 2, 1) := by decide +kernel
theorem dX4_chosen_35 : decode cX4_chosen 35 = .ok (.ifCond .lt 24, 3) := by decide +kernel
theorem dX4_chosen_38 : decode cX4_chosen 38 = .ok (.aload_n 0, 1) := by decide +kernel
theorem dX4_chosen_39 : decode cX4_chosen 39 = .ok (.getfield 41, 3) := by decide +kernel
theorem dX4_chosen_42 : decode cX4_chosen 42 = .ok (.iload_n 2, 1) := by decide +kernel
theorem dX4_chosen_43 : decode cX4_chosen 43 = .ok (.iaload, 1) := by decide +kernel
theorem dX4_chosen_44 : decode cX4_chosen 44 = .ok (.ifCond .ne 7, 3) := by decide +kernel
theorem dX4_chosen_47 : decode cX4_chosen 47 = .ok (.iload_n 2, 1) := by decide +kernel
theorem dX4_chosen_48 : decode cX4_chosen 48 = .ok (.goto 4, 3) := by decide +kernel
theorem dX4_chosen_51 : decode cX4_chosen 51 = .ok (.iload_n 1, 1) := by decide +kernel
theorem dX4_chosen_52 : decode cX4_chosen 52 = .ok (.istore_n 1, 1) := by decide +kernel
theorem dX4_chosen_53 : decode cX4_chosen 53 = .ok (.iinc 2 (-1), 3) := by decide +kernel
theorem dX4_chosen_56 : decode cX4_chosen 56 = .ok (.goto (-22), 3) := by decide +kernel
theorem dX4_chosen_59 : decode cX4_chosen 59 = .ok (.iload_n 1, 1) := by decide +kernel
theorem dX4_chosen_60 : decode cX4_chosen 60 = .ok (.ireturn, 1) := by decide +kernel
set_option maxRecDepth 20000 in
theorem ggX4_sponsorFor_X4_owedTo : GoodIn wsX4_sponsorFor wsX4_owedTo := goodIn_r _ [8, 9, 10, 11, 12, 7, 13, 14, 15, 16, 17, 18, 19, 20, 21, 22, 23, 24, 25, 26, 27, 28, 29, 30, 31, 32, 33, 34, 35, 36, 37, 38, 39, 40, 41, 42, 43, 44] (by decide +kernel) (by decide +kernel)
set_option maxRecDepth 20000 in
theorem gX4_sponsorFor_X4_owedTo : GoodIn wsX4_sponsorFor (wsV RX4 128 RX4 yX4_owedTo wsX4_owedTo) := goodIn_app (goodIn_of _ (by decide +kernel)) ggX4_sponsorFor_X4_owedTo
theorem dX4_sponsorFor_0 : decode cX4_sponsorFor 0 = .ok (.iconst (-1), 1) := by decide +kernel
theorem dX4_sponsorFor_1 : decode cX4_sponsorFor 1 = .ok (.istore_n 2, 1) := by decide +kernel
theorem dX4_sponsorFor_2 : decode cX4_sponsorFor 2 = .ok (.iconst 0, 1) := by decide +kernel
theorem dX4_sponsorFor_3 : decode cX4_sponsorFor 3 = .ok (.istore_n 3, 1) := by decide +kernel
theorem dX4_sponsorFor_4 : decode cX4_sponsorFor 4 = .ok (.iload_n 3, 1) := by decide +kernel
theorem dX4_sponsorFor_5 : decode cX4_sponsorFor 5 = .ok (.bipush 6, 2) := by decide +kernel
theorem dX4_sponsorFor_7 : decode cX4_sponsorFor 7 = .ok (.if_icmp .ge 87, 3) := by decide +kernel
theorem dX4_sponsorFor_10 : decode cX4_sponsorFor 10 = .ok (.aload_n 0, 1) := by decide +kernel
theorem dX4_sponsorFor_11 : decode cX4_sponsorFor 11 = .ok (.getfield 78, 3) := by decide +kernel
theorem dX4_sponsorFor_14 : decode cX4_sponsorFor 14 = .ok (.bipush 10, 2) := by decide +kernel
theorem dX4_sponsorFor_16 : decode cX4_sponsorFor 16 = .ok (.iload_n 3, 1) := by decide +kernel
theorem dX4_sponsorFor_17 : decode cX4_sponsorFor 17 = .ok (.imul, 1) := by decide +kernel
theorem dX4_sponsorFor_18 : decode cX4_sponsorFor 18 = .ok (.aload_n 0, 1) := by decide +kernel
theorem dX4_sponsorFor_19 : decode cX4_sponsorFor 19 = .ok (.getfield 23, 3) := by decide +kernel
theorem dX4_sponsorFor_22 : decode cX4_sponsorFor 22 = .ok (.iload_n 1, 1) := by decide +kernel
theorem dX4_sponsorFor_23 : decode cX4_sponsorFor 23 = .ok (.iaload, 1) := by decide +kernel
theorem dX4_sponsorFor_24 : decode cX4_sponsorFor 24 = .ok (.iadd, 1) := by decide +kernel
theorem dX4_sponsorFor_25 : decode cX4_sponsorFor 25 = .ok (.baload, 1) := by decide +kernel
theorem dX4_sponsorFor_26 : decode cX4_sponsorFor 26 = .ok (.ifCond .ne 22, 3) := by decide +kernel
theorem dX4_sponsorFor_29 : decode cX4_sponsorFor 29 = .ok (.aload_n 0, 1) := by decide +kernel
theorem dX4_sponsorFor_30 : decode cX4_sponsorFor 30 = .ok (.getfield 78, 3) := by decide +kernel
theorem dX4_sponsorFor_33 : decode cX4_sponsorFor 33 = .ok (.bipush 10, 2) := by decide +kernel
theorem dX4_sponsorFor_35 : decode cX4_sponsorFor 35 = .ok (.iload_n 3, 1) := by decide +kernel
theorem dX4_sponsorFor_36 : decode cX4_sponsorFor 36 = .ok (.imul, 1) := by decide +kernel
theorem dX4_sponsorFor_37 : decode cX4_sponsorFor 37 = .ok (.aload_n 0, 1) := by decide +kernel
theorem dX4_sponsorFor_38 : decode cX4_sponsorFor 38 = .ok (.getfield 26, 3) := by decide +kernel
theorem dX4_sponsorFor_41 : decode cX4_sponsorFor 41 = .ok (.iload_n 1, 1) := by decide +kernel
theorem dX4_sponsorFor_42 : decode cX4_sponsorFor 42 = .ok (.iaload, 1) := by decide +kernel
theorem dX4_sponsorFor_43 : decode cX4_sponsorFor 43 = .ok (.iadd, 1) := by decide +kernel
theorem dX4_sponsorFor_44 : decode cX4_sponsorFor 44 = .ok (.baload, 1) := by decide +kernel
theorem dX4_sponsorFor_45 : decode cX4_sponsorFor 45 = .ok (.ifCond .eq 7, 3) := by decide +kernel
theorem dX4_sponsorFor_48 : decode cX4_sponsorFor 48 = .ok (.iconst 1, 1) := by decide +kernel
theorem dX4_sponsorFor_49 : decode cX4_sponsorFor 49 = .ok (.goto 4, 3) := by decide +kernel
theorem dX4_sponsorFor_52 : decode cX4_sponsorFor 52 = .ok (.iconst 0, 1) := by decide +kernel
theorem dX4_sponsorFor_53 : decode cX4_sponsorFor 53 = .ok (.istore 4, 2) := by decide +kernel
theorem dX4_sponsorFor_55 : decode cX4_sponsorFor 55 = .ok (.iload 4, 2) := by decide +kernel
theorem dX4_sponsorFor_57 : decode cX4_sponsorFor 57 = .ok (.ifCond .eq 29, 3) := by decide +kernel
theorem dX4_sponsorFor_60 : decode cX4_sponsorFor 60 = .ok (.aload_n 0, 1) := by decide +kernel
theorem dX4_sponsorFor_61 : decode cX4_sponsorFor 61 = .ok (.iload_n 3, 1) := by decide +kernel
theorem dX4_sponsorFor_62 : decode cX4_sponsorFor 62 = .ok (.invokevirtual 128, 3) := by decide +kernel
theorem dX4_sponsorFor_65 : decode cX4_sponsorFor 65 = .ok (.iload_n 2, 1) := by decide +kernel
theorem dX4_sponsorFor_66 : decode cX4_sponsorFor 66 = .ok (.iconst (-1), 1) := by decide +kernel
theorem dX4_sponsorFor_67 : decode cX4_sponsorFor 67 = .ok (.if_icmp .ne 7, 3) := by decide +kernel
theorem dX4_sponsorFor_70 : decode cX4_sponsorFor 70 = .ok (.iconst 0, 1) := by decide +kernel
theorem dX4_sponsorFor_71 : decode cX4_sponsorFor 71 = .ok (.goto 8, 3) := by decide +kernel
theorem dX4_sponsorFor_74 : decode cX4_sponsorFor 74 = .ok (.aload_n 0, 1) := by decide +kernel
theorem dX4_sponsorFor_75 : decode cX4_sponsorFor 75 = .ok (.iload_n 2, 1) := by decide +kernel
theorem dX4_sponsorFor_76 : decode cX4_sponsorFor 76 = .ok (.invokevirtual 128, 3) := by decide +kernel
theorem dX4_sponsorFor_79 : decode cX4_sponsorFor 79 = .ok (.if_icmp .le 7, 3) := by decide +kernel
theorem dX4_sponsorFor_82 : decode cX4_sponsorFor 82 = .ok (.iload_n 3, 1) := by decide +kernel
theorem dX4_sponsorFor_83 : decode cX4_sponsorFor 83 = .ok (.goto 4, 3) := by decide +kernel
theorem dX4_sponsorFor_86 : decode cX4_sponsorFor 86 = .ok (.iload_n 2, 1) := by decide +kernel
theorem dX4_sponsorFor_87 : decode cX4_sponsorFor 87 = .ok (.istore_n 2, 1) := by decide +kernel
theorem dX4_sponsorFor_88 : decode cX4_sponsorFor 88 = .ok (.iinc 3 1, 3) := by decide +kernel
theorem dX4_sponsorFor_91 : decode cX4_sponsorFor 91 = .ok (.goto (-87), 3) := by decide +kernel
theorem dX4_sponsorFor_94 : decode cX4_sponsorFor 94 = .ok (.iload_n 2, 1) := by decide +kernel
theorem dX4_sponsorFor_95 : decode cX4_sponsorFor 95 = .ok (.ireturn, 1) := by decide +kernel
set_option maxRecDepth 20000 in
theorem ggX4_passes_X4_hottest : GoodIn wsX4_passes wsX4_hottest := goodIn_r _ [16, 17, 18, 10, 19, 20, 21, 15, 22, 23, 24, 25, 2, 26, 27, 28, 53, 54, 55, 56, 57, 58, 59, 60, 61, 62, 63, 64, 65, 66, 67, 68, 69, 70, 71, 72, 73, 74, 75, 76, 77, 78, 79, 80, 81] (by decide +kernel) (by decide +kernel)
set_option maxRecDepth 20000 in
theorem gX4_passes_X4_hottest : GoodIn wsX4_passes (wsV RX4 131 RX4 yX4_hottest wsX4_hottest) := goodIn_app (goodIn_of _ (by decide +kernel)) ggX4_passes_X4_hottest
set_option maxRecDepth 20000 in
theorem ggX4_passes_X4_chosen : GoodIn wsX4_passes wsX4_chosen := goodIn_r _ [32, 11, 6, 5, 53, 54, 55, 56, 57, 58, 59, 60, 61, 62, 63, 64, 65, 66, 67, 68, 69, 70, 71, 72, 73, 74, 75, 76, 77, 78, 79, 80, 81] (by decide +kernel) (by decide +kernel)
set_option maxRecDepth 20000 in
theorem gX4_passes_X4_chosen : GoodIn wsX4_passes (wsV RX4 135 RX4 yX4_chosen wsX4_chosen) := goodIn_app (goodIn_of _ (by decide +kernel)) ggX4_passes_X4_chosen
set_option maxRecDepth 20000 in
theorem ggX4_passes_X4_sponsorFor : GoodIn wsX4_passes wsX4_sponsorFor := goodIn_r _ [36, 37, 24, 25, 38, 39, 40, 15, 41, 42, 43, 44, 45, 46, 2, 4, 53, 54, 55, 56, 57, 58, 59, 60, 61, 62, 63, 64, 65, 66, 67, 68, 69, 70, 71, 72, 73, 74, 75, 76, 77, 78, 79, 80, 81] (by decide +kernel) (by decide +kernel)
set_option maxRecDepth 20000 in
theorem gX4_passes_X4_sponsorFor : GoodIn wsX4_passes (wsV RX4 138 RX4 yX4_sponsorFor wsX4_sponsorFor) := goodIn_app (goodIn_of _ (by decide +kernel)) ggX4_passes_X4_sponsorFor
set_option maxRecDepth 20000 in
theorem ggX4_passes_X4_see : GoodIn wsX4_passes wsX4_see := goodIn_r _ [50, 2, 51, 52, 53, 54, 55, 56, 57, 58, 59, 60, 61, 62, 63, 64, 65, 66, 67, 68, 69, 70, 71, 72, 73, 74, 75, 76, 77, 78, 79, 80, 81] (by decide +kernel) (by decide +kernel)
set_option maxRecDepth 20000 in
theorem gX4_passes_X4_see : GoodIn wsX4_passes (wsV RX4 121 RX4 yX4_see wsX4_see) := goodIn_app (goodIn_of _ (by decide +kernel)) ggX4_passes_X4_see
theorem dX4_passes_0 : decode cX4_passes 0 = .ok (.aload_n 0, 1) := by decide +kernel
theorem dX4_passes_1 : decode cX4_passes 1 = .ok (.invokevirtual 131, 3) := by decide +kernel
theorem dX4_passes_4 : decode cX4_passes 4 = .ok (.istore_n 1, 1) := by decide +kernel
theorem dX4_passes_5 : decode cX4_passes 5 = .ok (.iload_n 1, 1) := by decide +kernel
theorem dX4_passes_6 : decode cX4_passes 6 = .ok (.iconst (-1), 1) := by decide +kernel
theorem dX4_passes_7 : decode cX4_passes 7 = .ok (.if_icmp .ne 7, 3) := by decide +kernel
theorem dX4_passes_10 : decode cX4_passes 10 = .ok (.iconst (-1), 1) := by decide +kernel
theorem dX4_passes_11 : decode cX4_passes 11 = .ok (.goto 7, 3) := by decide +kernel
theorem dX4_passes_14 : decode cX4_passes 14 = .ok (.aload_n 0, 1) := by decide +kernel
theorem dX4_passes_15 : decode cX4_passes 15 = .ok (.invokevirtual 135, 3) := by decide +kernel
theorem dX4_passes_18 : decode cX4_passes 18 = .ok (.istore_n 2, 1) := by decide +kernel
theorem dX4_passes_19 : decode cX4_passes 19 = .ok (.iload_n 2, 1) := by decide +kernel
theorem dX4_passes_20 : decode cX4_passes 20 = .ok (.iconst (-1), 1) := by decide +kernel
theorem dX4_passes_21 : decode cX4_passes 21 = .ok (.if_icmp .ne 7, 3) := by decide +kernel
theorem dX4_passes_24 : decode cX4_passes 24 = .ok (.iconst (-1), 1) := by decide +kernel
theorem dX4_passes_25 : decode cX4_passes 25 = .ok (.goto 4, 3) := by decide +kernel
theorem dX4_passes_28 : decode cX4_passes 28 = .ok (.iload_n 1, 1) := by decide +kernel
theorem dX4_passes_29 : decode cX4_passes 29 = .ok (.istore_n 1, 1) := by decide +kernel
theorem dX4_passes_30 : decode cX4_passes 30 = .ok (.aload_n 0, 1) := by decide +kernel
theorem dX4_passes_31 : decode cX4_passes 31 = .ok (.getfield 50, 3) := by decide +kernel
theorem dX4_passes_34 : decode cX4_passes 34 = .ok (.aload_n 0, 1) := by decide +kernel
theorem dX4_passes_35 : decode cX4_passes 35 = .ok (.getfield 115, 3) := by decide +kernel
theorem dX4_passes_38 : decode cX4_passes 38 = .ok (.iload_n 1, 1) := by decide +kernel
theorem dX4_passes_39 : decode cX4_passes 39 = .ok (.iastore, 1) := by decide +kernel
theorem dX4_passes_40 : decode cX4_passes 40 = .ok (.aload_n 0, 1) := by decide +kernel
theorem dX4_passes_41 : decode cX4_passes 41 = .ok (.getfield 53, 3) := by decide +kernel
theorem dX4_passes_44 : decode cX4_passes 44 = .ok (.aload_n 0, 1) := by decide +kernel
theorem dX4_passes_45 : decode cX4_passes 45 = .ok (.getfield 115, 3) := by decide +kernel
theorem dX4_passes_48 : decode cX4_passes 48 = .ok (.iload_n 2, 1) := by decide +kernel
theorem dX4_passes_49 : decode cX4_passes 49 = .ok (.iastore, 1) := by decide +kernel
theorem dX4_passes_50 : decode cX4_passes 50 = .ok (.aload_n 0, 1) := by decide +kernel
theorem dX4_passes_51 : decode cX4_passes 51 = .ok (.getfield 56, 3) := by decide +kernel
theorem dX4_passes_54 : decode cX4_passes 54 = .ok (.aload_n 0, 1) := by decide +kernel
theorem dX4_passes_55 : decode cX4_passes 55 = .ok (.getfield 115, 3) := by decide +kernel
theorem dX4_passes_58 : decode cX4_passes 58 = .ok (.iload_n 1, 1) := by decide +kernel
theorem dX4_passes_59 : decode cX4_passes 59 = .ok (.iconst (-1), 1) := by decide +kernel
theorem dX4_passes_60 : decode cX4_passes 60 = .ok (.if_icmp .ne 7, 3) := by decide +kernel
theorem dX4_passes_63 : decode cX4_passes 63 = .ok (.iconst (-1), 1) := by decide +kernel
theorem dX4_passes_64 : decode cX4_passes 64 = .ok (.goto 8, 3) := by decide +kernel
theorem dX4_passes_67 : decode cX4_passes 67 = .ok (.aload_n 0, 1) := by decide +kernel
theorem dX4_passes_68 : decode cX4_passes 68 = .ok (.iload_n 1, 1) := by decide +kernel
theorem dX4_passes_69 : decode cX4_passes 69 = .ok (.invokevirtual 138, 3) := by decide +kernel
theorem dX4_passes_72 : decode cX4_passes 72 = .ok (.iastore, 1) := by decide +kernel
theorem dX4_passes_73 : decode cX4_passes 73 = .ok (.iconst 0, 1) := by decide +kernel
theorem dX4_passes_74 : decode cX4_passes 74 = .ok (.istore_n 3, 1) := by decide +kernel
theorem dX4_passes_75 : decode cX4_passes 75 = .ok (.iload_n 3, 1) := by decide +kernel
theorem dX4_passes_76 : decode cX4_passes 76 = .ok (.aload_n 0, 1) := by decide +kernel
theorem dX4_passes_77 : decode cX4_passes 77 = .ok (.getfield 118, 3) := by decide +kernel
theorem dX4_passes_80 : decode cX4_passes 80 = .ok (.if_icmp .ge 96, 3) := by decide +kernel
theorem dX4_passes_83 : decode cX4_passes 83 = .ok (.aload_n 0, 1) := by decide +kernel
theorem dX4_passes_84 : decode cX4_passes 84 = .ok (.getfield 41, 3) := by decide +kernel
theorem dX4_passes_87 : decode cX4_passes 87 = .ok (.iload_n 3, 1) := by decide +kernel
theorem dX4_passes_88 : decode cX4_passes 88 = .ok (.dup2, 1) := by decide +kernel
theorem dX4_passes_89 : decode cX4_passes 89 = .ok (.iaload, 1) := by decide +kernel
theorem dX4_passes_90 : decode cX4_passes 90 = .ok (.aload_n 0, 1) := by decide +kernel
theorem dX4_passes_91 : decode cX4_passes 91 = .ok (.getfield 41, 3) := by decide +kernel
theorem dX4_passes_94 : decode cX4_passes 94 = .ok (.iload_n 3, 1) := by decide +kernel
theorem dX4_passes_95 : decode cX4_passes 95 = .ok (.iaload, 1) := by decide +kernel
theorem dX4_passes_96 : decode cX4_passes 96 = .ok (.ifCond .le 7, 3) := by decide +kernel
theorem dX4_passes_99 : decode cX4_passes 99 = .ok (.iconst 1, 1) := by decide +kernel
theorem dX4_passes_100 : decode cX4_passes 100 = .ok (.goto 4, 3) := by decide +kernel
theorem dX4_passes_103 : decode cX4_passes 103 = .ok (.iconst 0, 1) := by decide +kernel
theorem dX4_passes_104 : decode cX4_passes 104 = .ok (.isub, 1) := by decide +kernel
theorem dX4_passes_105 : decode cX4_passes 105 = .ok (.iastore, 1) := by decide +kernel
theorem dX4_passes_106 : decode cX4_passes 106 = .ok (.aload_n 0, 1) := by decide +kernel
theorem dX4_passes_107 : decode cX4_passes 107 = .ok (.getfield 38, 3) := by decide +kernel
theorem dX4_passes_110 : decode cX4_passes 110 = .ok (.iload_n 3, 1) := by decide +kernel
theorem dX4_passes_111 : decode cX4_passes 111 = .ok (.iload_n 3, 1) := by decide +kernel
theorem dX4_passes_112 : decode cX4_passes 112 = .ok (.iload_n 2, 1) := by decide +kernel
theorem dX4_passes_113 : decode cX4_passes 113 = .ok (.if_icmp .eq 7, 3) := by decide +kernel
theorem dX4_passes_116 : decode cX4_passes 116 = .ok (.iconst 0, 1) := by decide +kernel
theorem dX4_passes_117 : decode cX4_passes 117 = .ok (.goto 11, 3) := by decide +kernel
theorem dX4_passes_120 : decode cX4_passes 120 = .ok (.aload_n 0, 1) := by decide +kernel
theorem dX4_passes_121 : decode cX4_passes 121 = .ok (.getfield 38, 3) := by decide +kernel
theorem dX4_passes_124 : decode cX4_passes 124 = .ok (.iload_n 3, 1) := by decide +kernel
theorem dX4_passes_125 : decode cX4_passes 125 = .ok (.iaload, 1) := by decide +kernel
theorem dX4_passes_126 : decode cX4_passes 126 = .ok (.iconst 1, 1) := by decide +kernel
theorem dX4_passes_127 : decode cX4_passes 127 = .ok (.iadd, 1) := by decide +kernel
theorem dX4_passes_128 : decode cX4_passes 128 = .ok (.iastore, 1) := by decide +kernel
theorem dX4_passes_129 : decode cX4_passes 129 = .ok (.aload_n 0, 1) := by decide +kernel
theorem dX4_passes_130 : decode cX4_passes 130 = .ok (.getfield 38, 3) := by decide +kernel
theorem dX4_passes_133 : decode cX4_passes 133 = .ok (.iload_n 3, 1) := by decide +kernel
theorem dX4_passes_134 : decode cX4_passes 134 = .ok (.iaload, 1) := by decide +kernel
theorem dX4_passes_135 : decode cX4_passes 135 = .ok (.aload_n 0, 1) := by decide +kernel
theorem dX4_passes_136 : decode cX4_passes 136 = .ok (.getfield 32, 3) := by decide +kernel
theorem dX4_passes_139 : decode cX4_passes 139 = .ok (.iload_n 3, 1) := by decide +kernel
theorem dX4_passes_140 : decode cX4_passes 140 = .ok (.iaload, 1) := by decide +kernel
theorem dX4_passes_141 : decode cX4_passes 141 = .ok (.if_icmp .ne 29, 3) := by decide +kernel
theorem dX4_passes_144 : decode cX4_passes 144 = .ok (.aload_n 0, 1) := by decide +kernel
theorem dX4_passes_145 : decode cX4_passes 145 = .ok (.getfield 41, 3) := by decide +kernel
theorem dX4_passes_148 : decode cX4_passes 148 = .ok (.iload_n 3, 1) := by decide +kernel
theorem dX4_passes_149 : decode cX4_passes 149 = .ok (.aload_n 0, 1) := by decide +kernel
theorem dX4_passes_150 : decode cX4_passes 150 = .ok (.getfield 35, 3) := by decide +kernel
theorem dX4_passes_153 : decode cX4_passes 153 = .ok (.iload_n 3, 1) := by decide +kernel
theorem dX4_passes_154 : decode cX4_passes 154 = .ok (.iaload, 1) := by decide +kernel
theorem dX4_passes_155 : decode cX4_passes 155 = .ok (.iconst 1, 1) := by decide +kernel
theorem dX4_passes_156 : decode cX4_passes 156 = .ok (.if_icmp .le 12, 3) := by decide +kernel
theorem dX4_passes_159 : decode cX4_passes 159 = .ok (.aload_n 0, 1) := by decide +kernel
theorem dX4_passes_160 : decode cX4_passes 160 = .ok (.getfield 35, 3) := by decide +kernel
theorem dX4_passes_163 : decode cX4_passes 163 = .ok (.iload_n 3, 1) := by decide +kernel
theorem dX4_passes_164 : decode cX4_passes 164 = .ok (.iaload, 1) := by decide +kernel
theorem dX4_passes_165 : decode cX4_passes 165 = .ok (.goto 4, 3) := by decide +kernel
theorem dX4_passes_168 : decode cX4_passes 168 = .ok (.iconst 1, 1) := by decide +kernel
theorem dX4_passes_169 : decode cX4_passes 169 = .ok (.iastore, 1) := by decide +kernel
theorem dX4_passes_170 : decode cX4_passes 170 = .ok (.iinc 3 1, 3) := by decide +kernel
theorem dX4_passes_173 : decode cX4_passes 173 = .ok (.goto (-98), 3) := by decide +kernel
theorem dX4_passes_176 : decode cX4_passes 176 = .ok (.aload_n 0, 1) := by decide +kernel
theorem dX4_passes_177 : decode cX4_passes 177 = .ok (.iload_n 1, 1) := by decide +kernel
theorem dX4_passes_178 : decode cX4_passes 178 = .ok (.putfield 47, 3) := by decide +kernel
theorem dX4_passes_181 : decode cX4_passes 181 = .ok (.aload_n 0, 1) := by decide +kernel
theorem dX4_passes_182 : decode cX4_passes 182 = .ok (.iload_n 2, 1) := by decide +kernel
theorem dX4_passes_183 : decode cX4_passes 183 = .ok (.putfield 44, 3) := by decide +kernel
theorem dX4_passes_186 : decode cX4_passes 186 = .ok (.aload_n 0, 1) := by decide +kernel
theorem dX4_passes_187 : decode cX4_passes 187 = .ok (.dup, 1) := by decide +kernel
theorem dX4_passes_188 : decode cX4_passes 188 = .ok (.getfield 115, 3) := by decide +kernel
theorem dX4_passes_191 : decode cX4_passes 191 = .ok (.iconst 1, 1) := by decide +kernel
theorem dX4_passes_192 : decode cX4_passes 192 = .ok (.iadd, 1) := by decide +kernel
theorem dX4_passes_193 : decode cX4_passes 193 = .ok (.putfield 115, 3) := by decide +kernel
theorem dX4_passes_196 : decode cX4_passes 196 = .ok (.aload_n 0, 1) := by decide +kernel
theorem dX4_passes_197 : decode cX4_passes 197 = .ok (.invokevirtual 121, 3) := by decide +kernel
theorem dX4_passes_200 : decode cX4_passes 200 = .ok (.return_, 1) := by decide +kernel
set_option maxRecDepth 20000 in
theorem ggX4_pass_X4_in : GoodIn wsX4_pass wsX4_in := goodIn_r _ [5] (by decide +kernel) (by decide +kernel)
set_option maxRecDepth 20000 in
theorem gX4_pass_X4_in : GoodIn wsX4_pass (va_wsS RX4 84 yX4_in wsX4_in) := goodIn_app (goodIn_of _ (by decide +kernel)) ggX4_pass_X4_in
set_option maxRecDepth 20000 in
theorem ggX4_pass_X4_refused : GoodIn wsX4_pass wsX4_refused := goodIn_r _ [9, 10, 65, 66, 67, 68, 69, 70, 71, 72, 73, 74, 75, 76, 77, 78, 79, 80, 81, 82, 83, 84, 85, 86, 87, 88, 89, 90, 91, 92, 93] (by decide +kernel) (by decide +kernel)
set_option maxRecDepth 20000 in
theorem gX4_pass_X4_refused : GoodIn wsX4_pass (wsV RX4 95 RX4 yX4_refused wsX4_refused) := goodIn_app (goodIn_of _ (by decide +kernel)) ggX4_pass_X4_refused
set_option maxRecDepth 20000 in
theorem ggX4_pass_X4_passes : GoodIn wsX4_pass wsX4_passes := goodIn_r _ [14, 15, 1, 16, 17, 18, 19, 20, 21, 22, 23, 24, 25, 26, 27, 4, 28, 29, 30, 31, 32, 33, 34, 35, 36, 37, 38, 39, 40, 41, 42, 43, 44, 45, 46, 47, 48, 49, 50, 51, 52, 53, 54, 55, 56, 57, 58, 59, 60, 61, 62, 63, 64, 65, 66, 67, 68, 69, 70, 71, 72, 73, 74, 75, 76, 77, 78, 79, 80, 81, 82, 83, 84, 85, 86, 87, 88, 89, 90, 91, 92, 93] (by decide +kernel) (by decide +kernel)
set_option maxRecDepth 20000 in
theorem gX4_pass_X4_passes : GoodIn wsX4_pass (wsV RX4 141 RX4 yX4_passes wsX4_passes) := goodIn_app (goodIn_of _ (by decide +kernel)) ggX4_pass_X4_passes
theorem dX4_pass_0 : decode cX4_pass 0 = .ok (.aload_n 0, 1) := by decide +kernel
theorem dX4_pass_1 : decode cX4_pass 1 = .ok (.iload_n 1, 1) := by decide +kernel
theorem dX4_pass_2 : decode cX4_pass 2 = .ok (.iconst 1, 1) := by decide +kernel
theorem dX4_pass_3 : decode cX4_pass 3 = .ok (.sipush 200, 3) := by decide +kernel
theorem dX4_pass_6 : decode cX4_pass 6 = .ok (.invokestatic 84, 3) := by decide +kernel
theorem dX4_pass_9 : decode cX4_pass 9 = .ok (.ifCond .ne 7, 3) := by decide +kernel
theorem dX4_pass_12 : decode cX4_pass 12 = .ok (.iconst 1, 1) := by decide +kernel
theorem dX4_pass_13 : decode cX4_pass 13 = .ok (.goto 20, 3) := by decide +kernel
theorem dX4_pass_16 : decode cX4_pass 16 = .ok (.aload_n 0, 1) := by decide +kernel
theorem dX4_pass_17 : decode cX4_pass 17 = .ok (.getfield 115, 3) := by decide +kernel
theorem dX4_pass_20 : decode cX4_pass 20 = .ok (.iload_n 1, 1) := by decide +kernel
theorem dX4_pass_21 : decode cX4_pass 21 = .ok (.iadd, 1) := by decide +kernel
theorem dX4_pass_22 : decode cX4_pass 22 = .ok (.sipush 3000, 3) := by decide +kernel
theorem dX4_pass_25 : decode cX4_pass 25 = .ok (.if_icmp .le 7, 3) := by decide +kernel
theorem dX4_pass_28 : decode cX4_pass 28 = .ok (.iconst 2, 1) := by decide +kernel
theorem dX4_pass_29 : decode cX4_pass 29 = .ok (.goto 4, 3) := by decide +kernel
theorem dX4_pass_32 : decode cX4_pass 32 = .ok (.iconst 0, 1) := by decide +kernel
theorem dX4_pass_33 : decode cX4_pass 33 = .ok (.invokevirtual 95, 3) := by decide +kernel
theorem dX4_pass_36 : decode cX4_pass 36 = .ok (.ifCond .eq 5, 3) := by decide +kernel
theorem dX4_pass_39 : decode cX4_pass 39 = .ok (.iconst 0, 1) := by decide +kernel
theorem dX4_pass_40 : decode cX4_pass 40 = .ok (.ireturn, 1) := by decide +kernel
theorem dX4_pass_41 : decode cX4_pass 41 = .ok (.iconst 0, 1) := by decide +kernel
theorem dX4_pass_42 : decode cX4_pass 42 = .ok (.istore_n 2, 1) := by decide +kernel
theorem dX4_pass_43 : decode cX4_pass 43 = .ok (.iload_n 2, 1) := by decide +kernel
theorem dX4_pass_44 : decode cX4_pass 44 = .ok (.iload_n 1, 1) := by decide +kernel
theorem dX4_pass_45 : decode cX4_pass 45 = .ok (.if_icmp .ge 13, 3) := by decide +kernel
theorem dX4_pass_48 : decode cX4_pass 48 = .ok (.aload_n 0, 1) := by decide +kernel
theorem dX4_pass_49 : decode cX4_pass 49 = .ok (.invokevirtual 141, 3) := by decide +kernel
theorem dX4_pass_52 : decode cX4_pass 52 = .ok (.iinc 2 1, 3) := by decide +kernel
theorem dX4_pass_55 : decode cX4_pass 55 = .ok (.goto (-12), 3) := by decide +kernel
theorem dX4_pass_58 : decode cX4_pass 58 = .ok (.aload_n 0, 1) := by decide +kernel
theorem dX4_pass_59 : decode cX4_pass 59 = .ok (.getfield 115, 3) := by decide +kernel
theorem dX4_pass_62 : decode cX4_pass 62 = .ok (.ireturn, 1) := by decide +kernel
set_option maxRecDepth 20000 in
theorem ggX4_blow_X4_isFight : GoodIn wsX4_blow wsX4_isFight := goodIn_r _ [14, 15, 16, 17, 13, 18, 27, 28, 29, 30, 31, 32, 33, 34, 35, 36, 37, 38, 39, 40, 41, 42, 43, 44, 45, 46, 47, 48, 49, 50, 51, 52, 53, 54, 55] (by decide +kernel) (by decide +kernel)
set_option maxRecDepth 20000 in
theorem gX4_blow_X4_isFight : GoodIn wsX4_blow (wsV RX4 105 RX4 yX4_isFight wsX4_isFight) := goodIn_app (goodIn_of _ (by decide +kernel)) ggX4_blow_X4_isFight
set_option maxRecDepth 20000 in
theorem ggX4_blow_X4_isPlayer : GoodIn wsX4_blow wsX4_isPlayer := goodIn_r _ [21, 16, 17, 13, 18] (by decide +kernel) (by decide +kernel)
set_option maxRecDepth 20000 in
theorem gX4_blow_X4_isPlayer : GoodIn wsX4_blow (va_wsS RX4 91 yX4_isPlayer wsX4_isPlayer) := goodIn_app (goodIn_of _ (by decide +kernel)) ggX4_blow_X4_isPlayer
set_option maxRecDepth 20000 in
theorem ggX4_blow_X4_in : GoodIn wsX4_blow wsX4_in := goodIn_r _ [18] (by decide +kernel) (by decide +kernel)
set_option maxRecDepth 20000 in
theorem gX4_blow_X4_in : GoodIn wsX4_blow (va_wsS RX4 84 yX4_in wsX4_in) := goodIn_app (goodIn_of _ (by decide +kernel)) ggX4_blow_X4_in
set_option maxRecDepth 20000 in
theorem ggX4_blow_X4_refused : GoodIn wsX4_blow wsX4_refused := goodIn_r _ [25, 26, 27, 28, 29, 30, 31, 32, 33, 34, 35, 36, 37, 38, 39, 40, 41, 42, 43, 44, 45, 46, 47, 48, 49, 50, 51, 52, 53, 54, 55] (by decide +kernel) (by decide +kernel)
set_option maxRecDepth 20000 in
theorem gX4_blow_X4_refused : GoodIn wsX4_blow (wsV RX4 95 RX4 yX4_refused wsX4_refused) := goodIn_app (goodIn_of _ (by decide +kernel)) ggX4_blow_X4_refused
theorem dX4_blow_0 : decode cX4_blow 0 = .ok (.aload_n 0, 1) := by decide +kernel
theorem dX4_blow_1 : decode cX4_blow 1 = .ok (.iload_n 1, 1) := by decide +kernel
theorem dX4_blow_2 : decode cX4_blow 2 = .ok (.invokevirtual 105, 3) := by decide +kernel
theorem dX4_blow_5 : decode cX4_blow 5 = .ok (.ifCond .eq 14, 3) := by decide +kernel
theorem dX4_blow_8 : decode cX4_blow 8 = .ok (.iload_n 2, 1) := by decide +kernel
theorem dX4_blow_9 : decode cX4_blow 9 = .ok (.invokestatic 91, 3) := by decide +kernel
theorem dX4_blow_12 : decode cX4_blow 12 = .ok (.ifCond .eq 7, 3) := by decide +kernel
theorem dX4_blow_15 : decode cX4_blow 15 = .ok (.iconst 1, 1) := by decide +kernel
theorem dX4_blow_16 : decode cX4_blow 16 = .ok (.goto 4, 3) := by decide +kernel
theorem dX4_blow_19 : decode cX4_blow 19 = .ok (.iconst 0, 1) := by decide +kernel
theorem dX4_blow_20 : decode cX4_blow 20 = .ok (.istore 4, 2) := by decide +kernel
theorem dX4_blow_22 : decode cX4_blow 22 = .ok (.iload 4, 2) := by decide +kernel
theorem dX4_blow_24 : decode cX4_blow 24 = .ok (.ifCond .eq 37, 3) := by decide +kernel
theorem dX4_blow_27 : decode cX4_blow 27 = .ok (.iload_n 3, 1) := by decide +kernel
theorem dX4_blow_28 : decode cX4_blow 28 = .ok (.iconst 1, 1) := by decide +kernel
theorem dX4_blow_29 : decode cX4_blow 29 = .ok (.bipush 9, 2) := by decide +kernel
theorem dX4_blow_31 : decode cX4_blow 31 = .ok (.invokestatic 84, 3) := by decide +kernel
theorem dX4_blow_34 : decode cX4_blow 34 = .ok (.ifCond .eq 27, 3) := by decide +kernel
theorem dX4_blow_37 : decode cX4_blow 37 = .ok (.aload_n 0, 1) := by decide +kernel
theorem dX4_blow_38 : decode cX4_blow 38 = .ok (.getfield 23, 3) := by decide +kernel
theorem dX4_blow_41 : decode cX4_blow 41 = .ok (.iload_n 1, 1) := by decide +kernel
theorem dX4_blow_42 : decode cX4_blow 42 = .ok (.iaload, 1) := by decide +kernel
theorem dX4_blow_43 : decode cX4_blow 43 = .ok (.iload_n 2, 1) := by decide +kernel
theorem dX4_blow_44 : decode cX4_blow 44 = .ok (.if_icmp .eq 13, 3) := by decide +kernel
theorem dX4_blow_47 : decode cX4_blow 47 = .ok (.aload_n 0, 1) := by decide +kernel
theorem dX4_blow_48 : decode cX4_blow 48 = .ok (.getfield 26, 3) := by decide +kernel
theorem dX4_blow_51 : decode cX4_blow 51 = .ok (.iload_n 1, 1) := by decide +kernel
theorem dX4_blow_52 : decode cX4_blow 52 = .ok (.iaload, 1) := by decide +kernel
theorem dX4_blow_53 : decode cX4_blow 53 = .ok (.iload_n 2, 1) := by decide +kernel
theorem dX4_blow_54 : decode cX4_blow 54 = .ok (.if_icmp .ne 7, 3) := by decide +kernel
theorem dX4_blow_57 : decode cX4_blow 57 = .ok (.iconst 1, 1) := by decide +kernel
theorem dX4_blow_58 : decode cX4_blow 58 = .ok (.goto 4, 3) := by decide +kernel
theorem dX4_blow_61 : decode cX4_blow 61 = .ok (.iconst 0, 1) := by decide +kernel
theorem dX4_blow_62 : decode cX4_blow 62 = .ok (.istore 5, 2) := by decide +kernel
theorem dX4_blow_64 : decode cX4_blow 64 = .ok (.aload_n 0, 1) := by decide +kernel
theorem dX4_blow_65 : decode cX4_blow 65 = .ok (.iload 4, 2) := by decide +kernel
theorem dX4_blow_67 : decode cX4_blow 67 = .ok (.ifCond .ne 7, 3) := by decide +kernel
theorem dX4_blow_70 : decode cX4_blow 70 = .ok (.iconst 1, 1) := by decide +kernel
theorem dX4_blow_71 : decode cX4_blow 71 = .ok (.goto 35, 3) := by decide +kernel
theorem dX4_blow_74 : decode cX4_blow 74 = .ok (.iload 5, 2) := by decide +kernel
theorem dX4_blow_76 : decode cX4_blow 76 = .ok (.ifCond .ne 7, 3) := by decide +kernel
theorem dX4_blow_79 : decode cX4_blow 79 = .ok (.iconst 2, 1) := by decide +kernel
theorem dX4_blow_80 : decode cX4_blow 80 = .ok (.goto 26, 3) := by decide +kernel
theorem dX4_blow_83 : decode cX4_blow 83 = .ok (.aload_n 0, 1) := by decide +kernel
theorem dX4_blow_84 : decode cX4_blow 84 = .ok (.getfield 20, 3) := by decide +kernel
theorem dX4_blow_87 : decode cX4_blow 87 = .ok (.iload_n 1, 1) := by decide +kernel
theorem dX4_blow_88 : decode cX4_blow 88 = .ok (.iaload, 1) := by decide +kernel
theorem dX4_blow_89 : decode cX4_blow 89 = .ok (.ifCond .ne 12, 3) := by decide +kernel
theorem dX4_blow_92 : decode cX4_blow 92 = .ok (.aload_n 0, 1) := by decide +kernel
theorem dX4_blow_93 : decode cX4_blow 93 = .ok (.getfield 112, 3) := by decide +kernel
theorem dX4_blow_96 : decode cX4_blow 96 = .ok (.bipush 80, 2) := by decide +kernel
theorem dX4_blow_98 : decode cX4_blow 98 = .ok (.if_icmp .ne 7, 3) := by decide +kernel
theorem dX4_blow_101 : decode cX4_blow 101 = .ok (.iconst 3, 1) := by decide +kernel
theorem dX4_blow_102 : decode cX4_blow 102 = .ok (.goto 4, 3) := by decide +kernel
theorem dX4_blow_105 : decode cX4_blow 105 = .ok (.iconst 0, 1) := by decide +kernel
theorem dX4_blow_106 : decode cX4_blow 106 = .ok (.invokevirtual 95, 3) := by decide +kernel
theorem dX4_blow_109 : decode cX4_blow 109 = .ok (.ifCond .eq 5, 3) := by decide +kernel
theorem dX4_blow_112 : decode cX4_blow 112 = .ok (.iconst 0, 1) := by decide +kernel
theorem dX4_blow_113 : decode cX4_blow 113 = .ok (.ireturn, 1) := by decide +kernel
theorem dX4_blow_114 : decode cX4_blow 114 = .ok (.aload_n 0, 1) := by decide +kernel
theorem dX4_blow_115 : decode cX4_blow 115 = .ok (.getfield 59, 3) := by decide +kernel
theorem dX4_blow_118 : decode cX4_blow 118 = .ok (.aload_n 0, 1) := by decide +kernel
theorem dX4_blow_119 : decode cX4_blow 119 = .ok (.getfield 112, 3) := by decide +kernel
theorem dX4_blow_122 : decode cX4_blow 122 = .ok (.iload_n 1, 1) := by decide +kernel
theorem dX4_blow_123 : decode cX4_blow 123 = .ok (.iastore, 1) := by decide +kernel
theorem dX4_blow_124 : decode cX4_blow 124 = .ok (.aload_n 0, 1) := by decide +kernel
theorem dX4_blow_125 : decode cX4_blow 125 = .ok (.getfield 62, 3) := by decide +kernel
theorem dX4_blow_128 : decode cX4_blow 128 = .ok (.aload_n 0, 1) := by decide +kernel
theorem dX4_blow_129 : decode cX4_blow 129 = .ok (.getfield 112, 3) := by decide +kernel
theorem dX4_blow_132 : decode cX4_blow 132 = .ok (.iload_n 2, 1) := by decide +kernel
theorem dX4_blow_133 : decode cX4_blow 133 = .ok (.iastore, 1) := by decide +kernel
theorem dX4_blow_134 : decode cX4_blow 134 = .ok (.aload_n 0, 1) := by decide +kernel
theorem dX4_blow_135 : decode cX4_blow 135 = .ok (.getfield 65, 3) := by decide +kernel
theorem dX4_blow_138 : decode cX4_blow 138 = .ok (.aload_n 0, 1) := by decide +kernel
theorem dX4_blow_139 : decode cX4_blow 139 = .ok (.getfield 112, 3) := by decide +kernel
theorem dX4_blow_142 : decode cX4_blow 142 = .ok (.iload_n 3, 1) := by decide +kernel
theorem dX4_blow_143 : decode cX4_blow 143 = .ok (.iastore, 1) := by decide +kernel
theorem dX4_blow_144 : decode cX4_blow 144 = .ok (.aload_n 0, 1) := by decide +kernel
theorem dX4_blow_145 : decode cX4_blow 145 = .ok (.getfield 68, 3) := by decide +kernel
theorem dX4_blow_148 : decode cX4_blow 148 = .ok (.aload_n 0, 1) := by decide +kernel
theorem dX4_blow_149 : decode cX4_blow 149 = .ok (.getfield 112, 3) := by decide +kernel
theorem dX4_blow_152 : decode cX4_blow 152 = .ok (.aload_n 0, 1) := by decide +kernel
theorem dX4_blow_153 : decode cX4_blow 153 = .ok (.getfield 115, 3) := by decide +kernel
theorem dX4_blow_156 : decode cX4_blow 156 = .ok (.iastore, 1) := by decide +kernel
theorem dX4_blow_157 : decode cX4_blow 157 = .ok (.aload_n 0, 1) := by decide +kernel
theorem dX4_blow_158 : decode cX4_blow 158 = .ok (.dup, 1) := by decide +kernel
theorem dX4_blow_159 : decode cX4_blow 159 = .ok (.getfield 112, 3) := by decide +kernel
theorem dX4_blow_162 : decode cX4_blow 162 = .ok (.iconst 1, 1) := by decide +kernel
theorem dX4_blow_163 : decode cX4_blow 163 = .ok (.iadd, 1) := by decide +kernel
theorem dX4_blow_164 : decode cX4_blow 164 = .ok (.putfield 112, 3) := by decide +kernel
theorem dX4_blow_167 : decode cX4_blow 167 = .ok (.aload_n 0, 1) := by decide +kernel
theorem dX4_blow_168 : decode cX4_blow 168 = .ok (.getfield 112, 3) := by decide +kernel
theorem dX4_blow_171 : decode cX4_blow 171 = .ok (.iconst 1, 1) := by decide +kernel
theorem dX4_blow_172 : decode cX4_blow 172 = .ok (.isub, 1) := by decide +kernel
theorem dX4_blow_173 : decode cX4_blow 173 = .ok (.ireturn, 1) := by decide +kernel
set_option maxRecDepth 20000 in
theorem ggX4_isEntry_X4_in : GoodIn wsX4_isEntry wsX4_in := goodIn_r _ [5] (by decide +kernel) (by decide +kernel)
set_option maxRecDepth 20000 in
theorem gX4_isEntry_X4_in : GoodIn wsX4_isEntry (va_wsS RX4 84 yX4_in wsX4_in) := goodIn_app (goodIn_of _ (by decide +kernel)) ggX4_isEntry_X4_in
theorem dX4_isEntry_0 : decode cX4_isEntry 0 = .ok (.iload_n 1, 1) := by decide +kernel
theorem dX4_isEntry_1 : decode cX4_isEntry 1 = .ok (.iconst 0, 1) := by decide +kernel
theorem dX4_isEntry_2 : decode cX4_isEntry 2 = .ok (.aload_n 0, 1) := by decide +kernel
theorem dX4_isEntry_3 : decode cX4_isEntry 3 = .ok (.getfield 112, 3) := by decide +kernel
theorem dX4_isEntry_6 : decode cX4_isEntry 6 = .ok (.iconst 1, 1) := by decide +kernel
theorem dX4_isEntry_7 : decode cX4_isEntry 7 = .ok (.isub, 1) := by decide +kernel
theorem dX4_isEntry_8 : decode cX4_isEntry 8 = .ok (.invokestatic 84, 3) := by decide +kernel
theorem dX4_isEntry_11 : decode cX4_isEntry 11 = .ok (.ireturn, 1) := by decide +kernel
theorem dX4_isFixed_0 : decode cX4_isFixed 0 = .ok (.aload_n 0, 1) := by decide +kernel
theorem dX4_isFixed_1 : decode cX4_isFixed 1 = .ok (.getfield 71, 3) := by decide +kernel
theorem dX4_isFixed_4 : decode cX4_isFixed 4 = .ok (.iload_n 1, 1) := by decide +kernel
theorem dX4_isFixed_5 : decode cX4_isFixed 5 = .ok (.baload, 1) := by decide +kernel
theorem dX4_isFixed_6 : decode cX4_isFixed 6 = .ok (.ifCond .ne 17, 3) := by decide +kernel
theorem dX4_isFixed_9 : decode cX4_isFixed 9 = .ok (.aload_n 0, 1) := by decide +kernel
theorem dX4_isFixed_10 : decode cX4_isFixed 10 = .ok (.getfield 20, 3) := by decide +kernel
theorem dX4_isFixed_13 : decode cX4_isFixed 13 = .ok (.aload_n 0, 1) := by decide +kernel
theorem dX4_isFixed_14 : decode cX4_isFixed 14 = .ok (.getfield 59, 3) := by decide +kernel
theorem dX4_isFixed_17 : decode cX4_isFixed 17 = .ok (.iload_n 1, 1) := by decide +kernel
theorem dX4_isFixed_18 : decode cX4_isFixed 18 = .ok (.iaload, 1) := by decide +kernel
theorem dX4_isFixed_19 : decode cX4_isFixed 19 = .ok (.iaload, 1) := by decide +kernel
theorem dX4_isFixed_20 : decode cX4_isFixed 20 = .ok (.ifCond .eq 7, 3) := by decide +kernel
theorem dX4_isFixed_23 : decode cX4_isFixed 23 = .ok (.iconst 1, 1) := by decide +kernel
theorem dX4_isFixed_24 : decode cX4_isFixed 24 = .ok (.goto 4, 3) := by decide +kernel
theorem dX4_isFixed_27 : decode cX4_isFixed 27 = .ok (.iconst 0, 1) := by decide +kernel
theorem dX4_isFixed_28 : decode cX4_isFixed 28 = .ok (.ireturn, 1) := by decide +kernel
set_option maxRecDepth 20000 in
theorem ggX4_strike_X4_isEntry : GoodIn wsX4_strike wsX4_isEntry := goodIn_r _ [7, 8, 9, 10, 6, 11, 23, 24, 25, 26, 27, 28, 29, 30, 31, 32, 33, 34, 35, 36, 37, 38, 39, 40, 41, 42, 43, 44, 45, 46, 47, 48, 49, 50, 51] (by decide +kernel) (by decide +kernel)
set_option maxRecDepth 20000 in
theorem gX4_strike_X4_isEntry : GoodIn wsX4_strike (wsV RX4 144 RX4 yX4_isEntry wsX4_isEntry) := goodIn_app (goodIn_of _ (by decide +kernel)) ggX4_strike_X4_isEntry
set_option maxRecDepth 20000 in
theorem ggX4_strike_X4_isFixed : GoodIn wsX4_strike wsX4_isFixed := goodIn_r _ [15, 1, 16, 17, 23, 24, 25, 26, 27, 28, 29, 30, 31, 32, 33, 34, 35, 36, 37, 38, 39, 40, 41, 42, 43, 44, 45, 46, 47, 48, 49, 50, 51] (by decide +kernel) (by decide +kernel)
set_option maxRecDepth 20000 in
theorem gX4_strike_X4_isFixed : GoodIn wsX4_strike (wsV RX4 147 RX4 yX4_isFixed wsX4_isFixed) := goodIn_app (goodIn_of _ (by decide +kernel)) ggX4_strike_X4_isFixed
set_option maxRecDepth 20000 in
theorem ggX4_strike_X4_refused : GoodIn wsX4_strike wsX4_refused := goodIn_r _ [21, 22, 23, 24, 25, 26, 27, 28, 29, 30, 31, 32, 33, 34, 35, 36, 37, 38, 39, 40, 41, 42, 43, 44, 45, 46, 47, 48, 49, 50, 51] (by decide +kernel) (by decide +kernel)
set_option maxRecDepth 20000 in
theorem gX4_strike_X4_refused : GoodIn wsX4_strike (wsV RX4 95 RX4 yX4_refused wsX4_refused) := goodIn_app (goodIn_of _ (by decide +kernel)) ggX4_strike_X4_refused
theorem dX4_strike_0 : decode cX4_strike 0 = .ok (.aload_n 0, 1) := by decide +kernel
theorem dX4_strike_1 : decode cX4_strike 1 = .ok (.iload_n 1, 1) := by decide +kernel
theorem dX4_strike_2 : decode cX4_strike 2 = .ok (.invokevirtual 144, 3) := by decide +kernel
theorem dX4_strike_5 : decode cX4_strike 5 = .ok (.istore_n 2, 1) := by decide +kernel
theorem dX4_strike_6 : decode cX4_strike 6 = .ok (.aload_n 0, 1) := by decide +kernel
theorem dX4_strike_7 : decode cX4_strike 7 = .ok (.iload_n 2, 1) := by decide +kernel
theorem dX4_strike_8 : decode cX4_strike 8 = .ok (.ifCond .ne 7, 3) := by decide +kernel
theorem dX4_strike_11 : decode cX4_strike 11 = .ok (.iconst 1, 1) := by decide +kernel
theorem dX4_strike_12 : decode cX4_strike 12 = .ok (.goto 16, 3) := by decide +kernel
theorem dX4_strike_15 : decode cX4_strike 15 = .ok (.aload_n 0, 1) := by decide +kernel
theorem dX4_strike_16 : decode cX4_strike 16 = .ok (.iload_n 1, 1) := by decide +kernel
theorem dX4_strike_17 : decode cX4_strike 17 = .ok (.invokevirtual 147, 3) := by decide +kernel
theorem dX4_strike_20 : decode cX4_strike 20 = .ok (.ifCond .eq 7, 3) := by decide +kernel
theorem dX4_strike_23 : decode cX4_strike 23 = .ok (.iconst 2, 1) := by decide +kernel
theorem dX4_strike_24 : decode cX4_strike 24 = .ok (.goto 4, 3) := by decide +kernel
theorem dX4_strike_27 : decode cX4_strike 27 = .ok (.iconst 0, 1) := by decide +kernel
theorem dX4_strike_28 : decode cX4_strike 28 = .ok (.invokevirtual 95, 3) := by decide +kernel
theorem dX4_strike_31 : decode cX4_strike 31 = .ok (.ifCond .eq 5, 3) := by decide +kernel
theorem dX4_strike_34 : decode cX4_strike 34 = .ok (.iconst 0, 1) := by decide +kernel
theorem dX4_strike_35 : decode cX4_strike 35 = .ok (.ireturn, 1) := by decide +kernel
theorem dX4_strike_36 : decode cX4_strike 36 = .ok (.aload_n 0, 1) := by decide +kernel
theorem dX4_strike_37 : decode cX4_strike 37 = .ok (.getfield 71, 3) := by decide +kernel
theorem dX4_strike_40 : decode cX4_strike 40 = .ok (.iload_n 1, 1) := by decide +kernel
theorem dX4_strike_41 : decode cX4_strike 41 = .ok (.iconst 1, 1) := by decide +kernel
theorem dX4_strike_42 : decode cX4_strike 42 = .ok (.bastore, 1) := by decide +kernel
theorem dX4_strike_43 : decode cX4_strike 43 = .ok (.aload_n 0, 1) := by decide +kernel
theorem dX4_strike_44 : decode cX4_strike 44 = .ok (.getfield 65, 3) := by decide +kernel
theorem dX4_strike_47 : decode cX4_strike 47 = .ok (.iload_n 1, 1) := by decide +kernel
theorem dX4_strike_48 : decode cX4_strike 48 = .ok (.iaload, 1) := by decide +kernel
theorem dX4_strike_49 : decode cX4_strike 49 = .ok (.ireturn, 1) := by decide +kernel
set_option maxRecDepth 20000 in
theorem ggX4_mend_X4_isEntry : GoodIn wsX4_mend wsX4_isEntry := goodIn_r _ [6, 7, 8, 9, 5, 10, 23, 24, 25, 26, 27, 28, 29, 30, 31, 32, 33, 34, 35, 36, 37, 38, 39, 40, 41, 42, 43, 44, 45, 46, 47, 48, 49, 50, 51] (by decide +kernel) (by decide +kernel)
set_option maxRecDepth 20000 in
theorem gX4_mend_X4_isEntry : GoodIn wsX4_mend (wsV RX4 144 RX4 yX4_isEntry wsX4_isEntry) := goodIn_app (goodIn_of _ (by decide +kernel)) ggX4_mend_X4_isEntry
set_option maxRecDepth 20000 in
theorem ggX4_mend_X4_in : GoodIn wsX4_mend wsX4_in := goodIn_r _ [10] (by decide +kernel) (by decide +kernel)
set_option maxRecDepth 20000 in
theorem gX4_mend_X4_in : GoodIn wsX4_mend (va_wsS RX4 84 yX4_in wsX4_in) := goodIn_app (goodIn_of _ (by decide +kernel)) ggX4_mend_X4_in
set_option maxRecDepth 20000 in
theorem ggX4_mend_X4_isFixed : GoodIn wsX4_mend wsX4_isFixed := goodIn_r _ [14, 15, 16, 17, 23, 24, 25, 26, 27, 28, 29, 30, 31, 32, 33, 34, 35, 36, 37, 38, 39, 40, 41, 42, 43, 44, 45, 46, 47, 48, 49, 50, 51] (by decide +kernel) (by decide +kernel)
set_option maxRecDepth 20000 in
theorem gX4_mend_X4_isFixed : GoodIn wsX4_mend (wsV RX4 147 RX4 yX4_isFixed wsX4_isFixed) := goodIn_app (goodIn_of _ (by decide +kernel)) ggX4_mend_X4_isFixed
set_option maxRecDepth 20000 in
theorem ggX4_mend_X4_refused : GoodIn wsX4_mend wsX4_refused := goodIn_r _ [21, 22, 23, 24, 25, 26, 27, 28, 29, 30, 31, 32, 33, 34, 35, 36, 37, 38, 39, 40, 41, 42, 43, 44, 45, 46, 47, 48, 49, 50, 51] (by decide +kernel) (by decide +kernel)
set_option maxRecDepth 20000 in
theorem gX4_mend_X4_refused : GoodIn wsX4_mend (wsV RX4 95 RX4 yX4_refused wsX4_refused) := goodIn_app (goodIn_of _ (by decide +kernel)) ggX4_mend_X4_refused
theorem dX4_mend_0 : decode cX4_mend 0 = .ok (.aload_n 0, 1) := by decide +kernel
theorem dX4_mend_1 : decode cX4_mend 1 = .ok (.iload_n 1, 1) := by decide +kernel
theorem dX4_mend_2 : decode cX4_mend 2 = .ok (.invokevirtual 144, 3) := by decide +kernel
theorem dX4_mend_5 : decode cX4_mend 5 = .ok (.istore_n 3, 1) := by decide +kernel
theorem dX4_mend_6 : decode cX4_mend 6 = .ok (.aload_n 0, 1) := by decide +kernel
theorem dX4_mend_7 : decode cX4_mend 7 = .ok (.iload_n 3, 1) := by decide +kernel
theorem dX4_mend_8 : decode cX4_mend 8 = .ok (.ifCond .ne 7, 3) := by decide +kernel
theorem dX4_mend_11 : decode cX4_mend 11 = .ok (.iconst 1, 1) := by decide +kernel
theorem dX4_mend_12 : decode cX4_mend 12 = .ok (.goto 30, 3) := by decide +kernel
theorem dX4_mend_15 : decode cX4_mend 15 = .ok (.iload_n 2, 1) := by decide +kernel
theorem dX4_mend_16 : decode cX4_mend 16 = .ok (.iconst 1, 1) := by decide +kernel
theorem dX4_mend_17 : decode cX4_mend 17 = .ok (.bipush 9, 2) := by decide +kernel
theorem dX4_mend_19 : decode cX4_mend 19 = .ok (.invokestatic 84, 3) := by decide +kernel
theorem dX4_mend_22 : decode cX4_mend 22 = .ok (.ifCond .ne 7, 3) := by decide +kernel
theorem dX4_mend_25 : decode cX4_mend 25 = .ok (.iconst 2, 1) := by decide +kernel
theorem dX4_mend_26 : decode cX4_mend 26 = .ok (.goto 16, 3) := by decide +kernel
theorem dX4_mend_29 : decode cX4_mend 29 = .ok (.aload_n 0, 1) := by decide +kernel
theorem dX4_mend_30 : decode cX4_mend 30 = .ok (.iload_n 1, 1) := by decide +kernel
theorem dX4_mend_31 : decode cX4_mend 31 = .ok (.invokevirtual 147, 3) := by decide +kernel
theorem dX4_mend_34 : decode cX4_mend 34 = .ok (.ifCond .eq 7, 3) := by decide +kernel
theorem dX4_mend_37 : decode cX4_mend 37 = .ok (.iconst 3, 1) := by decide +kernel
theorem dX4_mend_38 : decode cX4_mend 38 = .ok (.goto 4, 3) := by decide +kernel
theorem dX4_mend_41 : decode cX4_mend 41 = .ok (.iconst 0, 1) := by decide +kernel
theorem dX4_mend_42 : decode cX4_mend 42 = .ok (.invokevirtual 95, 3) := by decide +kernel
theorem dX4_mend_45 : decode cX4_mend 45 = .ok (.ifCond .eq 5, 3) := by decide +kernel
theorem dX4_mend_48 : decode cX4_mend 48 = .ok (.iconst 0, 1) := by decide +kernel
theorem dX4_mend_49 : decode cX4_mend 49 = .ok (.ireturn, 1) := by decide +kernel
theorem dX4_mend_50 : decode cX4_mend 50 = .ok (.aload_n 0, 1) := by decide +kernel
theorem dX4_mend_51 : decode cX4_mend 51 = .ok (.getfield 65, 3) := by decide +kernel
theorem dX4_mend_54 : decode cX4_mend 54 = .ok (.iload_n 1, 1) := by decide +kernel
theorem dX4_mend_55 : decode cX4_mend 55 = .ok (.iaload, 1) := by decide +kernel
theorem dX4_mend_56 : decode cX4_mend 56 = .ok (.istore 4, 2) := by decide +kernel
theorem dX4_mend_58 : decode cX4_mend 58 = .ok (.aload_n 0, 1) := by decide +kernel
theorem dX4_mend_59 : decode cX4_mend 59 = .ok (.getfield 65, 3) := by decide +kernel
theorem dX4_mend_62 : decode cX4_mend 62 = .ok (.iload_n 1, 1) := by decide +kernel
theorem dX4_mend_63 : decode cX4_mend 63 = .ok (.iload_n 2, 1) := by decide +kernel
theorem dX4_mend_64 : decode cX4_mend 64 = .ok (.iastore, 1) := by decide +kernel
theorem dX4_mend_65 : decode cX4_mend 65 = .ok (.iload 4, 2) := by decide +kernel
theorem dX4_mend_67 : decode cX4_mend 67 = .ok (.ireturn, 1) := by decide +kernel
set_option maxRecDepth 20000 in
theorem ggX4_promise_X4_isSponsor : GoodIn wsX4_promise wsX4_isSponsor := goodIn_r _ [5, 6, 7, 4, 8] (by decide +kernel) (by decide +kernel)
set_option maxRecDepth 20000 in
theorem gX4_promise_X4_isSponsor : GoodIn wsX4_promise (va_wsS RX4 150 yX4_isSponsor wsX4_isSponsor) := goodIn_app (goodIn_of _ (by decide +kernel)) ggX4_promise_X4_isSponsor
set_option maxRecDepth 20000 in
theorem ggX4_promise_X4_in : GoodIn wsX4_promise wsX4_in := goodIn_r _ [8] (by decide +kernel) (by decide +kernel)
set_option maxRecDepth 20000 in
theorem gX4_promise_X4_in : GoodIn wsX4_promise (va_wsS RX4 84 yX4_in wsX4_in) := goodIn_app (goodIn_of _ (by decide +kernel)) ggX4_promise_X4_in
set_option maxRecDepth 20000 in
theorem ggX4_promise_X4_refused : GoodIn wsX4_promise wsX4_refused := goodIn_r _ [12, 13, 14, 15, 16, 17, 18, 19, 20, 21, 22, 23, 24, 25, 26, 27, 28, 29, 30, 31, 32, 33, 34, 35, 36, 37, 38, 39, 40, 41, 42] (by decide +kernel) (by decide +kernel)
set_option maxRecDepth 20000 in
theorem gX4_promise_X4_refused : GoodIn wsX4_promise (wsV RX4 95 RX4 yX4_refused wsX4_refused) := goodIn_app (goodIn_of _ (by decide +kernel)) ggX4_promise_X4_refused
theorem dX4_promise_0 : decode cX4_promise 0 = .ok (.aload_n 0, 1) := by decide +kernel
theorem dX4_promise_1 : decode cX4_promise 1 = .ok (.iload_n 1, 1) := by decide +kernel
theorem dX4_promise_2 : decode cX4_promise 2 = .ok (.invokestatic 150, 3) := by decide +kernel
theorem dX4_promise_5 : decode cX4_promise 5 = .ok (.ifCond .ne 7, 3) := by decide +kernel
theorem dX4_promise_8 : decode cX4_promise 8 = .ok (.iconst 1, 1) := by decide +kernel
theorem dX4_promise_9 : decode cX4_promise 9 = .ok (.goto 19, 3) := by decide +kernel
theorem dX4_promise_12 : decode cX4_promise 12 = .ok (.iload_n 2, 1) := by decide +kernel
theorem dX4_promise_13 : decode cX4_promise 13 = .ok (.iconst 0, 1) := by decide +kernel
theorem dX4_promise_14 : decode cX4_promise 14 = .ok (.sipush 1000, 3) := by decide +kernel
theorem dX4_promise_17 : decode cX4_promise 17 = .ok (.invokestatic 84, 3) := by decide +kernel
theorem dX4_promise_20 : decode cX4_promise 20 = .ok (.ifCond .ne 7, 3) := by decide +kernel
theorem dX4_promise_23 : decode cX4_promise 23 = .ok (.iconst 2, 1) := by decide +kernel
theorem dX4_promise_24 : decode cX4_promise 24 = .ok (.goto 4, 3) := by decide +kernel
theorem dX4_promise_27 : decode cX4_promise 27 = .ok (.iconst 0, 1) := by decide +kernel
theorem dX4_promise_28 : decode cX4_promise 28 = .ok (.invokevirtual 95, 3) := by decide +kernel
theorem dX4_promise_31 : decode cX4_promise 31 = .ok (.ifCond .eq 5, 3) := by decide +kernel
theorem dX4_promise_34 : decode cX4_promise 34 = .ok (.iconst 0, 1) := by decide +kernel
theorem dX4_promise_35 : decode cX4_promise 35 = .ok (.ireturn, 1) := by decide +kernel
theorem dX4_promise_36 : decode cX4_promise 36 = .ok (.aload_n 0, 1) := by decide +kernel
theorem dX4_promise_37 : decode cX4_promise 37 = .ok (.getfield 75, 3) := by decide +kernel
theorem dX4_promise_40 : decode cX4_promise 40 = .ok (.iload_n 1, 1) := by decide +kernel
theorem dX4_promise_41 : decode cX4_promise 41 = .ok (.iaload, 1) := by decide +kernel
theorem dX4_promise_42 : decode cX4_promise 42 = .ok (.istore_n 3, 1) := by decide +kernel
theorem dX4_promise_43 : decode cX4_promise 43 = .ok (.aload_n 0, 1) := by decide +kernel
theorem dX4_promise_44 : decode cX4_promise 44 = .ok (.getfield 75, 3) := by decide +kernel
theorem dX4_promise_47 : decode cX4_promise 47 = .ok (.iload_n 1, 1) := by decide +kernel
theorem dX4_promise_48 : decode cX4_promise 48 = .ok (.iload_n 2, 1) := by decide +kernel
theorem dX4_promise_49 : decode cX4_promise 49 = .ok (.iastore, 1) := by decide +kernel
theorem dX4_promise_50 : decode cX4_promise 50 = .ok (.iload_n 3, 1) := by decide +kernel
theorem dX4_promise_51 : decode cX4_promise 51 = .ok (.ireturn, 1) := by decide +kernel
set_option maxRecDepth 20000 in
theorem ggX4_slot_X4_isSponsor : GoodIn wsX4_slot wsX4_isSponsor := goodIn_r _ [6, 7, 8, 5, 9] (by decide +kernel) (by decide +kernel)
set_option maxRecDepth 20000 in
theorem gX4_slot_X4_isSponsor : GoodIn wsX4_slot (va_wsS RX4 150 yX4_isSponsor wsX4_isSponsor) := goodIn_app (goodIn_of _ (by decide +kernel)) ggX4_slot_X4_isSponsor
set_option maxRecDepth 20000 in
theorem ggX4_slot_X4_isPlayer : GoodIn wsX4_slot wsX4_isPlayer := goodIn_r _ [12, 7, 8, 5, 9] (by decide +kernel) (by decide +kernel)
set_option maxRecDepth 20000 in
theorem gX4_slot_X4_isPlayer : GoodIn wsX4_slot (va_wsS RX4 91 yX4_isPlayer wsX4_isPlayer) := goodIn_app (goodIn_of _ (by decide +kernel)) ggX4_slot_X4_isPlayer
set_option maxRecDepth 20000 in
theorem ggX4_slot_X4_refused : GoodIn wsX4_slot wsX4_refused := goodIn_r _ [16, 17, 18, 19, 20, 21, 22, 23, 24, 25, 26, 27, 28, 29, 30, 31, 32, 33, 34, 35, 36, 37, 38, 39, 40, 41, 42, 43, 44, 45, 46] (by decide +kernel) (by decide +kernel)
set_option maxRecDepth 20000 in
theorem gX4_slot_X4_refused : GoodIn wsX4_slot (wsV RX4 95 RX4 yX4_refused wsX4_refused) := goodIn_app (goodIn_of _ (by decide +kernel)) ggX4_slot_X4_refused
theorem dX4_slot_0 : decode cX4_slot 0 = .ok (.iload_n 1, 1) := by decide +kernel
theorem dX4_slot_1 : decode cX4_slot 1 = .ok (.invokestatic 150, 3) := by decide +kernel
theorem dX4_slot_4 : decode cX4_slot 4 = .ok (.ifCond .eq 14, 3) := by decide +kernel
theorem dX4_slot_7 : decode cX4_slot 7 = .ok (.iload_n 2, 1) := by decide +kernel
theorem dX4_slot_8 : decode cX4_slot 8 = .ok (.invokestatic 91, 3) := by decide +kernel
theorem dX4_slot_11 : decode cX4_slot 11 = .ok (.ifCond .eq 7, 3) := by decide +kernel
theorem dX4_slot_14 : decode cX4_slot 14 = .ok (.iconst 1, 1) := by decide +kernel
theorem dX4_slot_15 : decode cX4_slot 15 = .ok (.goto 4, 3) := by decide +kernel
theorem dX4_slot_18 : decode cX4_slot 18 = .ok (.iconst 0, 1) := by decide +kernel
theorem dX4_slot_19 : decode cX4_slot 19 = .ok (.istore_n 3, 1) := by decide +kernel
theorem dX4_slot_20 : decode cX4_slot 20 = .ok (.aload_n 0, 1) := by decide +kernel
theorem dX4_slot_21 : decode cX4_slot 21 = .ok (.iload_n 3, 1) := by decide +kernel
theorem dX4_slot_22 : decode cX4_slot 22 = .ok (.ifCond .ne 7, 3) := by decide +kernel
theorem dX4_slot_25 : decode cX4_slot 25 = .ok (.iconst 1, 1) := by decide +kernel
theorem dX4_slot_26 : decode cX4_slot 26 = .ok (.goto 31, 3) := by decide +kernel
theorem dX4_slot_29 : decode cX4_slot 29 = .ok (.aload_n 0, 1) := by decide +kernel
theorem dX4_slot_30 : decode cX4_slot 30 = .ok (.getfield 153, 3) := by decide +kernel
theorem dX4_slot_33 : decode cX4_slot 33 = .ok (.bipush 12, 2) := by decide +kernel
theorem dX4_slot_35 : decode cX4_slot 35 = .ok (.if_icmp .eq 17, 3) := by decide +kernel
theorem dX4_slot_38 : decode cX4_slot 38 = .ok (.aload_n 0, 1) := by decide +kernel
theorem dX4_slot_39 : decode cX4_slot 39 = .ok (.getfield 78, 3) := by decide +kernel
theorem dX4_slot_42 : decode cX4_slot 42 = .ok (.bipush 10, 2) := by decide +kernel
theorem dX4_slot_44 : decode cX4_slot 44 = .ok (.iload_n 1, 1) := by decide +kernel
theorem dX4_slot_45 : decode cX4_slot 45 = .ok (.imul, 1) := by decide +kernel
theorem dX4_slot_46 : decode cX4_slot 46 = .ok (.iload_n 2, 1) := by decide +kernel
theorem dX4_slot_47 : decode cX4_slot 47 = .ok (.iadd, 1) := by decide +kernel
theorem dX4_slot_48 : decode cX4_slot 48 = .ok (.baload, 1) := by decide +kernel
theorem dX4_slot_49 : decode cX4_slot 49 = .ok (.ifCond .eq 7, 3) := by decide +kernel
theorem dX4_slot_52 : decode cX4_slot 52 = .ok (.iconst 2, 1) := by decide +kernel
theorem dX4_slot_53 : decode cX4_slot 53 = .ok (.goto 4, 3) := by decide +kernel
theorem dX4_slot_56 : decode cX4_slot 56 = .ok (.iconst 0, 1) := by decide +kernel
theorem dX4_slot_57 : decode cX4_slot 57 = .ok (.invokevirtual 95, 3) := by decide +kernel
theorem dX4_slot_60 : decode cX4_slot 60 = .ok (.ifCond .eq 5, 3) := by decide +kernel
theorem dX4_slot_63 : decode cX4_slot 63 = .ok (.iconst 0, 1) := by decide +kernel
theorem dX4_slot_64 : decode cX4_slot 64 = .ok (.ireturn, 1) := by decide +kernel
theorem dX4_slot_65 : decode cX4_slot 65 = .ok (.aload_n 0, 1) := by decide +kernel
theorem dX4_slot_66 : decode cX4_slot 66 = .ok (.getfield 78, 3) := by decide +kernel
theorem dX4_slot_69 : decode cX4_slot 69 = .ok (.bipush 10, 2) := by decide +kernel
theorem dX4_slot_71 : decode cX4_slot 71 = .ok (.iload_n 1, 1) := by decide +kernel
theorem dX4_slot_72 : decode cX4_slot 72 = .ok (.imul, 1) := by decide +kernel
theorem dX4_slot_73 : decode cX4_slot 73 = .ok (.iload_n 2, 1) := by decide +kernel
theorem dX4_slot_74 : decode cX4_slot 74 = .ok (.iadd, 1) := by decide +kernel
theorem dX4_slot_75 : decode cX4_slot 75 = .ok (.iconst 1, 1) := by decide +kernel
theorem dX4_slot_76 : decode cX4_slot 76 = .ok (.bastore, 1) := by decide +kernel
theorem dX4_slot_77 : decode cX4_slot 77 = .ok (.aload_n 0, 1) := by decide +kernel
theorem dX4_slot_78 : decode cX4_slot 78 = .ok (.dup, 1) := by decide +kernel
theorem dX4_slot_79 : decode cX4_slot 79 = .ok (.getfield 153, 3) := by decide +kernel
theorem dX4_slot_82 : decode cX4_slot 82 = .ok (.iconst 1, 1) := by decide +kernel
theorem dX4_slot_83 : decode cX4_slot 83 = .ok (.iadd, 1) := by decide +kernel
theorem dX4_slot_84 : decode cX4_slot 84 = .ok (.putfield 153, 3) := by decide +kernel
theorem dX4_slot_87 : decode cX4_slot 87 = .ok (.aload_n 0, 1) := by decide +kernel
theorem dX4_slot_88 : decode cX4_slot 88 = .ok (.getfield 153, 3) := by decide +kernel
theorem dX4_slot_91 : decode cX4_slot 91 = .ok (.ireturn, 1) := by decide +kernel
theorem dX4_frame_0 : decode cX4_frame 0 = .ok (.aload_n 0, 1) := by decide +kernel
theorem dX4_frame_1 : decode cX4_frame 1 = .ok (.iconst 0, 1) := by decide +kernel
theorem dX4_frame_2 : decode cX4_frame 2 = .ok (.putfield 81, 3) := by decide +kernel
theorem dX4_frame_5 : decode cX4_frame 5 = .ok (.aload_n 0, 1) := by decide +kernel
theorem dX4_frame_6 : decode cX4_frame 6 = .ok (.getfield 115, 3) := by decide +kernel
theorem dX4_frame_9 : decode cX4_frame 9 = .ok (.ireturn, 1) := by decide +kernel
set_option maxRecDepth 20000 in
theorem ggX4_shown_X4_in : GoodIn wsX4_shown wsX4_in := goodIn_r _ [8] (by decide +kernel) (by decide +kernel)
set_option maxRecDepth 20000 in
theorem gX4_shown_X4_in : GoodIn wsX4_shown (va_wsS RX4 84 yX4_in wsX4_in) := goodIn_app (goodIn_of _ (by decide +kernel)) ggX4_shown_X4_in
set_option maxRecDepth 20000 in
theorem ggX4_shown_X4_refused : GoodIn wsX4_shown wsX4_refused := goodIn_r _ [12, 13, 14, 15, 16, 17, 18, 19, 20, 21, 22, 23, 24, 25, 26, 27, 28, 29, 30, 31, 32, 33, 34, 35, 36, 37, 38, 39, 40, 41, 42] (by decide +kernel) (by decide +kernel)
set_option maxRecDepth 20000 in
theorem gX4_shown_X4_refused : GoodIn wsX4_shown (wsV RX4 95 RX4 yX4_refused wsX4_refused) := goodIn_app (goodIn_of _ (by decide +kernel)) ggX4_shown_X4_refused
theorem dX4_shown_0 : decode cX4_shown 0 = .ok (.aload_n 0, 1) := by decide +kernel
theorem dX4_shown_1 : decode cX4_shown 1 = .ok (.iload_n 1, 1) := by decide +kernel
theorem dX4_shown_2 : decode cX4_shown 2 = .ok (.iconst 0, 1) := by decide +kernel
theorem dX4_shown_3 : decode cX4_shown 3 = .ok (.aload_n 0, 1) := by decide +kernel
theorem dX4_shown_4 : decode cX4_shown 4 = .ok (.getfield 115, 3) := by decide +kernel
theorem dX4_shown_7 : decode cX4_shown 7 = .ok (.iconst 1, 1) := by decide +kernel
theorem dX4_shown_8 : decode cX4_shown 8 = .ok (.isub, 1) := by decide +kernel
theorem dX4_shown_9 : decode cX4_shown 9 = .ok (.invokestatic 84, 3) := by decide +kernel
theorem dX4_shown_12 : decode cX4_shown 12 = .ok (.ifCond .ne 7, 3) := by decide +kernel
theorem dX4_shown_15 : decode cX4_shown 15 = .ok (.iconst 1, 1) := by decide +kernel
theorem dX4_shown_16 : decode cX4_shown 16 = .ok (.goto 17, 3) := by decide +kernel
theorem dX4_shown_19 : decode cX4_shown 19 = .ok (.iload_n 2, 1) := by decide +kernel
theorem dX4_shown_20 : decode cX4_shown 20 = .ok (.iconst 0, 1) := by decide +kernel
theorem dX4_shown_21 : decode cX4_shown 21 = .ok (.iconst 2, 1) := by decide +kernel
theorem dX4_shown_22 : decode cX4_shown 22 = .ok (.invokestatic 84, 3) := by decide +kernel
theorem dX4_shown_25 : decode cX4_shown 25 = .ok (.ifCond .ne 7, 3) := by decide +kernel
theorem dX4_shown_28 : decode cX4_shown 28 = .ok (.iconst 2, 1) := by decide +kernel
theorem dX4_shown_29 : decode cX4_shown 29 = .ok (.goto 4, 3) := by decide +kernel
theorem dX4_shown_32 : decode cX4_shown 32 = .ok (.iconst 0, 1) := by decide +kernel
theorem dX4_shown_33 : decode cX4_shown 33 = .ok (.invokevirtual 95, 3) := by decide +kernel
theorem dX4_shown_36 : decode cX4_shown 36 = .ok (.ifCond .eq 5, 3) := by decide +kernel
theorem dX4_shown_39 : decode cX4_shown 39 = .ok (.iconst 0, 1) := by decide +kernel
theorem dX4_shown_40 : decode cX4_shown 40 = .ok (.ireturn, 1) := by decide +kernel
theorem dX4_shown_41 : decode cX4_shown 41 = .ok (.iload_n 2, 1) := by decide +kernel
theorem dX4_shown_42 : decode cX4_shown 42 = .ok (.ifCond .ne 12, 3) := by decide +kernel
theorem dX4_shown_45 : decode cX4_shown 45 = .ok (.aload_n 0, 1) := by decide +kernel
theorem dX4_shown_46 : decode cX4_shown 46 = .ok (.getfield 50, 3) := by decide +kernel
theorem dX4_shown_49 : decode cX4_shown 49 = .ok (.iload_n 1, 1) := by decide +kernel
theorem dX4_shown_50 : decode cX4_shown 50 = .ok (.iaload, 1) := by decide +kernel
theorem dX4_shown_51 : decode cX4_shown 51 = .ok (.goto 23, 3) := by decide +kernel
theorem dX4_shown_54 : decode cX4_shown 54 = .ok (.iload_n 2, 1) := by decide +kernel
theorem dX4_shown_55 : decode cX4_shown 55 = .ok (.iconst 1, 1) := by decide +kernel
theorem dX4_shown_56 : decode cX4_shown 56 = .ok (.if_icmp .ne 12, 3) := by decide +kernel
theorem dX4_shown_59 : decode cX4_shown 59 = .ok (.aload_n 0, 1) := by decide +kernel
theorem dX4_shown_60 : decode cX4_shown 60 = .ok (.getfield 53, 3) := by decide +kernel
theorem dX4_shown_63 : decode cX4_shown 63 = .ok (.iload_n 1, 1) := by decide +kernel
theorem dX4_shown_64 : decode cX4_shown 64 = .ok (.iaload, 1) := by decide +kernel
theorem dX4_shown_65 : decode cX4_shown 65 = .ok (.goto 9, 3) := by decide +kernel
theorem dX4_shown_68 : decode cX4_shown 68 = .ok (.aload_n 0, 1) := by decide +kernel
theorem dX4_shown_69 : decode cX4_shown 69 = .ok (.getfield 56, 3) := by decide +kernel
theorem dX4_shown_72 : decode cX4_shown 72 = .ok (.iload_n 1, 1) := by decide +kernel
theorem dX4_shown_73 : decode cX4_shown 73 = .ok (.iaload, 1) := by decide +kernel
theorem dX4_shown_74 : decode cX4_shown 74 = .ok (.ireturn, 1) := by decide +kernel
theorem dX4_seen_0 : decode cX4_seen 0 = .ok (.aload_n 0, 1) := by decide +kernel
theorem dX4_seen_1 : decode cX4_seen 1 = .ok (.iconst 0, 1) := by decide +kernel
theorem dX4_seen_2 : decode cX4_seen 2 = .ok (.putfield 81, 3) := by decide +kernel
theorem dX4_seen_5 : decode cX4_seen 5 = .ok (.aload_n 0, 1) := by decide +kernel
theorem dX4_seen_6 : decode cX4_seen 6 = .ok (.getfield 13, 3) := by decide +kernel
theorem dX4_seen_9 : decode cX4_seen 9 = .ok (.ireturn, 1) := by decide +kernel
theorem dX4_pointsOf_0 : decode cX4_pointsOf 0 = .ok (.iconst 0, 1) := by decide +kernel
theorem dX4_pointsOf_1 : decode cX4_pointsOf 1 = .ok (.istore 4, 2) := by decide +kernel
theorem dX4_pointsOf_3 : decode cX4_pointsOf 3 = .ok (.iconst 0, 1) := by decide +kernel
theorem dX4_pointsOf_4 : decode cX4_pointsOf 4 = .ok (.istore 5, 2) := by decide +kernel
theorem dX4_pointsOf_6 : decode cX4_pointsOf 6 = .ok (.iload 5, 2) := by decide +kernel
theorem dX4_pointsOf_8 : decode cX4_pointsOf 8 = .ok (.aload_n 0, 1) := by decide +kernel
theorem dX4_pointsOf_9 : decode cX4_pointsOf 9 = .ok (.getfield 112, 3) := by decide +kernel
theorem dX4_pointsOf_12 : decode cX4_pointsOf 12 = .ok (.if_icmp .ge 68, 3) := by decide +kernel
theorem dX4_pointsOf_15 : decode cX4_pointsOf 15 = .ok (.iload 4, 2) := by decide +kernel
theorem dX4_pointsOf_17 : decode cX4_pointsOf 17 = .ok (.aload_n 0, 1) := by decide +kernel
theorem dX4_pointsOf_18 : decode cX4_pointsOf 18 = .ok (.getfield 59, 3) := by decide +kernel
theorem dX4_pointsOf_21 : decode cX4_pointsOf 21 = .ok (.iload 5, 2) := by decide +kernel
theorem dX4_pointsOf_23 : decode cX4_pointsOf 23 = .ok (.iaload, 1) := by decide +kernel
theorem dX4_pointsOf_24 : decode cX4_pointsOf 24 = .ok (.iload_n 1, 1) := by decide +kernel
theorem dX4_pointsOf_25 : decode cX4_pointsOf 25 = .ok (.if_icmp .ne 45, 3) := by decide +kernel
theorem dX4_pointsOf_28 : decode cX4_pointsOf 28 = .ok (.aload_n 0, 1) := by decide +kernel
theorem dX4_pointsOf_29 : decode cX4_pointsOf 29 = .ok (.getfield 62, 3) := by decide +kernel
theorem dX4_pointsOf_32 : decode cX4_pointsOf 32 = .ok (.iload 5, 2) := by decide +kernel
theorem dX4_pointsOf_34 : decode cX4_pointsOf 34 = .ok (.iaload, 1) := by decide +kernel
theorem dX4_pointsOf_35 : decode cX4_pointsOf 35 = .ok (.iload_n 2, 1) := by decide +kernel
theorem dX4_pointsOf_36 : decode cX4_pointsOf 36 = .ok (.if_icmp .ne 34, 3) := by decide +kernel
theorem dX4_pointsOf_39 : decode cX4_pointsOf 39 = .ok (.aload_n 0, 1) := by decide +kernel
theorem dX4_pointsOf_40 : decode cX4_pointsOf 40 = .ok (.getfield 71, 3) := by decide +kernel
theorem dX4_pointsOf_43 : decode cX4_pointsOf 43 = .ok (.iload 5, 2) := by decide +kernel
theorem dX4_pointsOf_45 : decode cX4_pointsOf 45 = .ok (.baload, 1) := by decide +kernel
theorem dX4_pointsOf_46 : decode cX4_pointsOf 46 = .ok (.ifCond .ne 24, 3) := by decide +kernel
theorem dX4_pointsOf_49 : decode cX4_pointsOf 49 = .ok (.aload_n 0, 1) := by decide +kernel
theorem dX4_pointsOf_50 : decode cX4_pointsOf 50 = .ok (.getfield 68, 3) := by decide +kernel
theorem dX4_pointsOf_53 : decode cX4_pointsOf 53 = .ok (.iload 5, 2) := by decide +kernel
theorem dX4_pointsOf_55 : decode cX4_pointsOf 55 = .ok (.iaload, 1) := by decide +kernel
theorem dX4_pointsOf_56 : decode cX4_pointsOf 56 = .ok (.iload_n 3, 1) := by decide +kernel
theorem dX4_pointsOf_57 : decode cX4_pointsOf 57 = .ok (.if_icmp .gt 13, 3) := by decide +kernel
theorem dX4_pointsOf_60 : decode cX4_pointsOf 60 = .ok (.aload_n 0, 1) := by decide +kernel
theorem dX4_pointsOf_61 : decode cX4_pointsOf 61 = .ok (.getfield 65, 3) := by decide +kernel
theorem dX4_pointsOf_64 : decode cX4_pointsOf 64 = .ok (.iload 5, 2) := by decide +kernel
theorem dX4_pointsOf_66 : decode cX4_pointsOf 66 = .ok (.iaload, 1) := by decide +kernel
theorem dX4_pointsOf_67 : decode cX4_pointsOf 67 = .ok (.goto 4, 3) := by decide +kernel
theorem dX4_pointsOf_70 : decode cX4_pointsOf 70 = .ok (.iconst 0, 1) := by decide +kernel
theorem dX4_pointsOf_71 : decode cX4_pointsOf 71 = .ok (.iadd, 1) := by decide +kernel
theorem dX4_pointsOf_72 : decode cX4_pointsOf 72 = .ok (.istore 4, 2) := by decide +kernel
theorem dX4_pointsOf_74 : decode cX4_pointsOf 74 = .ok (.iinc 5 1, 3) := by decide +kernel
theorem dX4_pointsOf_77 : decode cX4_pointsOf 77 = .ok (.goto (-71), 3) := by decide +kernel
theorem dX4_pointsOf_80 : decode cX4_pointsOf 80 = .ok (.iload 4, 2) := by decide +kernel
theorem dX4_pointsOf_82 : decode cX4_pointsOf 82 = .ok (.ireturn, 1) := by decide +kernel
set_option maxRecDepth 20000 in
theorem ggX4_points_X4_isFight : GoodIn wsX4_points wsX4_isFight := goodIn_r _ [5, 6, 7, 8, 4, 9, 28, 29, 30, 31, 32, 33, 34, 35, 36, 37, 38, 39, 40, 41, 42, 43, 44, 45, 46, 47, 48, 49, 50, 51, 52, 53, 54, 55, 56] (by decide +kernel) (by decide +kernel)
set_option maxRecDepth 20000 in
theorem gX4_points_X4_isFight : GoodIn wsX4_points (wsV RX4 105 RX4 yX4_isFight wsX4_isFight) := goodIn_app (goodIn_of _ (by decide +kernel)) ggX4_points_X4_isFight
set_option maxRecDepth 20000 in
theorem ggX4_points_X4_isPlayer : GoodIn wsX4_points wsX4_isPlayer := goodIn_r _ [12, 7, 8, 4, 9] (by decide +kernel) (by decide +kernel)
set_option maxRecDepth 20000 in
theorem gX4_points_X4_isPlayer : GoodIn wsX4_points (va_wsS RX4 91 yX4_isPlayer wsX4_isPlayer) := goodIn_app (goodIn_of _ (by decide +kernel)) ggX4_points_X4_isPlayer
set_option maxRecDepth 20000 in
theorem ggX4_points_X4_refused : GoodIn wsX4_points wsX4_refused := goodIn_r _ [16, 17, 28, 29, 30, 31, 32, 33, 34, 35, 36, 37, 38, 39, 40, 41, 42, 43, 44, 45, 46, 47, 48, 49, 50, 51, 52, 53, 54, 55, 56] (by decide +kernel) (by decide +kernel)
set_option maxRecDepth 20000 in
theorem gX4_points_X4_refused : GoodIn wsX4_points (wsV RX4 95 RX4 yX4_refused wsX4_refused) := goodIn_app (goodIn_of _ (by decide +kernel)) ggX4_points_X4_refused
set_option maxRecDepth 20000 in
theorem ggX4_points_X4_pointsOf : GoodIn wsX4_points wsX4_pointsOf := goodIn_r _ [21, 22, 23, 24, 25, 26, 27, 28, 29, 30, 31, 32, 33, 34, 35, 36, 37, 38, 39, 40, 41, 42, 43, 44, 45, 46, 47, 48, 49, 50, 51, 52, 53, 54, 55, 56] (by decide +kernel) (by decide +kernel)
set_option maxRecDepth 20000 in
theorem gX4_points_X4_pointsOf : GoodIn wsX4_points (wsV RX4 108 RX4 yX4_pointsOf wsX4_pointsOf) := goodIn_app (goodIn_of _ (by decide +kernel)) ggX4_points_X4_pointsOf
theorem dX4_points_0 : decode cX4_points 0 = .ok (.aload_n 0, 1) := by decide +kernel
theorem dX4_points_1 : decode cX4_points 1 = .ok (.aload_n 0, 1) := by decide +kernel
theorem dX4_points_2 : decode cX4_points 2 = .ok (.iload_n 1, 1) := by decide +kernel
theorem dX4_points_3 : decode cX4_points 3 = .ok (.invokevirtual 105, 3) := by decide +kernel
theorem dX4_points_6 : decode cX4_points 6 = .ok (.ifCond .eq 14, 3) := by decide +kernel
theorem dX4_points_9 : decode cX4_points 9 = .ok (.iload_n 2, 1) := by decide +kernel
theorem dX4_points_10 : decode cX4_points 10 = .ok (.invokestatic 91, 3) := by decide +kernel
theorem dX4_points_13 : decode cX4_points 13 = .ok (.ifCond .eq 7, 3) := by decide +kernel
theorem dX4_points_16 : decode cX4_points 16 = .ok (.iconst 0, 1) := by decide +kernel
theorem dX4_points_17 : decode cX4_points 17 = .ok (.goto 4, 3) := by decide +kernel
theorem dX4_points_20 : decode cX4_points 20 = .ok (.iconst 1, 1) := by decide +kernel
theorem dX4_points_21 : decode cX4_points 21 = .ok (.invokevirtual 95, 3) := by decide +kernel
theorem dX4_points_24 : decode cX4_points 24 = .ok (.ifCond .eq 7, 3) := by decide +kernel
theorem dX4_points_27 : decode cX4_points 27 = .ok (.iconst 0, 1) := by decide +kernel
theorem dX4_points_28 : decode cX4_points 28 = .ok (.goto 12, 3) := by decide +kernel
theorem dX4_points_31 : decode cX4_points 31 = .ok (.aload_n 0, 1) := by decide +kernel
theorem dX4_points_32 : decode cX4_points 32 = .ok (.iload_n 1, 1) := by decide +kernel
theorem dX4_points_33 : decode cX4_points 33 = .ok (.iload_n 2, 1) := by decide +kernel
theorem dX4_points_34 : decode cX4_points 34 = .ok (.sipush 3000, 3) := by decide +kernel
theorem dX4_points_37 : decode cX4_points 37 = .ok (.invokevirtual 108, 3) := by decide +kernel
theorem dX4_points_40 : decode cX4_points 40 = .ok (.ireturn, 1) := by decide +kernel
set_option maxRecDepth 20000 in
theorem ggX4_overlay_X4_isFight : GoodIn wsX4_overlay wsX4_isFight := goodIn_r _ [6, 7, 8, 9, 5, 10, 29, 30, 31, 32, 33, 34, 35, 36, 37, 38, 39, 40, 41, 42, 43, 44, 45, 46, 47, 48, 49, 50, 51, 52, 53, 54, 55, 56, 57] (by decide +kernel) (by decide +kernel)
set_option maxRecDepth 20000 in
theorem gX4_overlay_X4_isFight : GoodIn wsX4_overlay (wsV RX4 105 RX4 yX4_isFight wsX4_isFight) := goodIn_app (goodIn_of _ (by decide +kernel)) ggX4_overlay_X4_isFight
set_option maxRecDepth 20000 in
theorem ggX4_overlay_X4_isPlayer : GoodIn wsX4_overlay wsX4_isPlayer := goodIn_r _ [13, 8, 9, 5, 10] (by decide +kernel) (by decide +kernel)
set_option maxRecDepth 20000 in
theorem gX4_overlay_X4_isPlayer : GoodIn wsX4_overlay (va_wsS RX4 91 yX4_isPlayer wsX4_isPlayer) := goodIn_app (goodIn_of _ (by decide +kernel)) ggX4_overlay_X4_isPlayer
set_option maxRecDepth 20000 in
theorem ggX4_overlay_X4_refused : GoodIn wsX4_overlay wsX4_refused := goodIn_r _ [17, 18, 29, 30, 31, 32, 33, 34, 35, 36, 37, 38, 39, 40, 41, 42, 43, 44, 45, 46, 47, 48, 49, 50, 51, 52, 53, 54, 55, 56, 57] (by decide +kernel) (by decide +kernel)
set_option maxRecDepth 20000 in
theorem gX4_overlay_X4_refused : GoodIn wsX4_overlay (wsV RX4 95 RX4 yX4_refused wsX4_refused) := goodIn_app (goodIn_of _ (by decide +kernel)) ggX4_overlay_X4_refused
set_option maxRecDepth 20000 in
theorem ggX4_overlay_X4_pointsOf : GoodIn wsX4_overlay wsX4_pointsOf := goodIn_r _ [22, 23, 24, 25, 26, 27, 28, 29, 30, 31, 32, 33, 34, 35, 36, 37, 38, 39, 40, 41, 42, 43, 44, 45, 46, 47, 48, 49, 50, 51, 52, 53, 54, 55, 56, 57] (by decide +kernel) (by decide +kernel)
set_option maxRecDepth 20000 in
theorem gX4_overlay_X4_pointsOf : GoodIn wsX4_overlay (wsV RX4 108 RX4 yX4_pointsOf wsX4_pointsOf) := goodIn_app (goodIn_of _ (by decide +kernel)) ggX4_overlay_X4_pointsOf
theorem dX4_overlay_0 : decode cX4_overlay 0 = .ok (.aload_n 0, 1) := by decide +kernel
theorem dX4_overlay_1 : decode cX4_overlay 1 = .ok (.aload_n 0, 1) := by decide +kernel
theorem dX4_overlay_2 : decode cX4_overlay 2 = .ok (.iload_n 1, 1) := by decide +kernel
theorem dX4_overlay_3 : decode cX4_overlay 3 = .ok (.invokevirtual 105, 3) := by decide +kernel
theorem dX4_overlay_6 : decode cX4_overlay 6 = .ok (.ifCond .eq 14, 3) := by decide +kernel
theorem dX4_overlay_9 : decode cX4_overlay 9 = .ok (.iload_n 2, 1) := by decide +kernel
theorem dX4_overlay_10 : decode cX4_overlay 10 = .ok (.invokestatic 91, 3) := by decide +kernel
theorem dX4_overlay_13 : decode cX4_overlay 13 = .ok (.ifCond .eq 7, 3) := by decide +kernel
theorem dX4_overlay_16 : decode cX4_overlay 16 = .ok (.iconst 0, 1) := by decide +kernel
theorem dX4_overlay_17 : decode cX4_overlay 17 = .ok (.goto 4, 3) := by decide +kernel
theorem dX4_overlay_20 : decode cX4_overlay 20 = .ok (.iconst 1, 1) := by decide +kernel
theorem dX4_overlay_21 : decode cX4_overlay 21 = .ok (.invokevirtual 95, 3) := by decide +kernel
theorem dX4_overlay_24 : decode cX4_overlay 24 = .ok (.ifCond .eq 7, 3) := by decide +kernel
theorem dX4_overlay_27 : decode cX4_overlay 27 = .ok (.iconst 0, 1) := by decide +kernel
theorem dX4_overlay_28 : decode cX4_overlay 28 = .ok (.goto 13, 3) := by decide +kernel
theorem dX4_overlay_31 : decode cX4_overlay 31 = .ok (.aload_n 0, 1) := by decide +kernel
theorem dX4_overlay_32 : decode cX4_overlay 32 = .ok (.iload_n 1, 1) := by decide +kernel
theorem dX4_overlay_33 : decode cX4_overlay 33 = .ok (.iload_n 2, 1) := by decide +kernel
theorem dX4_overlay_34 : decode cX4_overlay 34 = .ok (.aload_n 0, 1) := by decide +kernel
theorem dX4_overlay_35 : decode cX4_overlay 35 = .ok (.getfield 13, 3) := by decide +kernel
theorem dX4_overlay_38 : decode cX4_overlay 38 = .ok (.invokevirtual 108, 3) := by decide +kernel
theorem dX4_overlay_41 : decode cX4_overlay 41 = .ok (.ireturn, 1) := by decide +kernel
set_option maxRecDepth 20000 in
theorem ggX4_fightOf_X4_isFight : GoodIn wsX4_fightOf wsX4_isFight := goodIn_r _ [11, 12, 13, 14, 10, 15, 21, 22, 23, 24, 25, 26, 27, 28, 29, 30, 31, 32, 33, 34, 35, 36, 37, 38, 39, 40, 41, 42, 43, 44, 45, 46, 47, 48, 49] (by decide +kernel) (by decide +kernel)
set_option maxRecDepth 20000 in
theorem gX4_fightOf_X4_isFight : GoodIn wsX4_fightOf (wsV RX4 105 RX4 yX4_isFight wsX4_isFight) := goodIn_app (goodIn_of _ (by decide +kernel)) ggX4_fightOf_X4_isFight
set_option maxRecDepth 20000 in
theorem ggX4_fightOf_X4_in : GoodIn wsX4_fightOf wsX4_in := goodIn_r _ [15] (by decide +kernel) (by decide +kernel)
set_option maxRecDepth 20000 in
theorem gX4_fightOf_X4_in : GoodIn wsX4_fightOf (va_wsS RX4 84 yX4_in wsX4_in) := goodIn_app (goodIn_of _ (by decide +kernel)) ggX4_fightOf_X4_in
set_option maxRecDepth 20000 in
theorem ggX4_fightOf_X4_refused : GoodIn wsX4_fightOf wsX4_refused := goodIn_r _ [19, 20, 21, 22, 23, 24, 25, 26, 27, 28, 29, 30, 31, 32, 33, 34, 35, 36, 37, 38, 39, 40, 41, 42, 43, 44, 45, 46, 47, 48, 49] (by decide +kernel) (by decide +kernel)
set_option maxRecDepth 20000 in
theorem gX4_fightOf_X4_refused : GoodIn wsX4_fightOf (wsV RX4 95 RX4 yX4_refused wsX4_refused) := goodIn_app (goodIn_of _ (by decide +kernel)) ggX4_fightOf_X4_refused
theorem dX4_fightOf_0 : decode cX4_fightOf 0 = .ok (.aload_n 0, 1) := by decide +kernel
theorem dX4_fightOf_1 : decode cX4_fightOf 1 = .ok (.aload_n 0, 1) := by decide +kernel
theorem dX4_fightOf_2 : decode cX4_fightOf 2 = .ok (.iload_n 1, 1) := by decide +kernel
theorem dX4_fightOf_3 : decode cX4_fightOf 3 = .ok (.invokevirtual 105, 3) := by decide +kernel
theorem dX4_fightOf_6 : decode cX4_fightOf 6 = .ok (.ifCond .ne 7, 3) := by decide +kernel
theorem dX4_fightOf_9 : decode cX4_fightOf 9 = .ok (.iconst 1, 1) := by decide +kernel
theorem dX4_fightOf_10 : decode cX4_fightOf 10 = .ok (.goto 17, 3) := by decide +kernel
theorem dX4_fightOf_13 : decode cX4_fightOf 13 = .ok (.iload_n 2, 1) := by decide +kernel
theorem dX4_fightOf_14 : decode cX4_fightOf 14 = .ok (.iconst 0, 1) := by decide +kernel
theorem dX4_fightOf_15 : decode cX4_fightOf 15 = .ok (.iconst 4, 1) := by decide +kernel
theorem dX4_fightOf_16 : decode cX4_fightOf 16 = .ok (.invokestatic 84, 3) := by decide +kernel
theorem dX4_fightOf_19 : decode cX4_fightOf 19 = .ok (.ifCond .ne 7, 3) := by decide +kernel
theorem dX4_fightOf_22 : decode cX4_fightOf 22 = .ok (.iconst 2, 1) := by decide +kernel
theorem dX4_fightOf_23 : decode cX4_fightOf 23 = .ok (.goto 4, 3) := by decide +kernel
theorem dX4_fightOf_26 : decode cX4_fightOf 26 = .ok (.iconst 0, 1) := by decide +kernel
theorem dX4_fightOf_27 : decode cX4_fightOf 27 = .ok (.invokevirtual 95, 3) := by decide +kernel
theorem dX4_fightOf_30 : decode cX4_fightOf 30 = .ok (.ifCond .eq 5, 3) := by decide +kernel
theorem dX4_fightOf_33 : decode cX4_fightOf 33 = .ok (.iconst 0, 1) := by decide +kernel
theorem dX4_fightOf_34 : decode cX4_fightOf 34 = .ok (.ireturn, 1) := by decide +kernel
theorem dX4_fightOf_35 : decode cX4_fightOf 35 = .ok (.iload_n 2, 1) := by decide +kernel
theorem dX4_fightOf_36 : decode cX4_fightOf 36 = .ok (.iconst 4, 1) := by decide +kernel
theorem dX4_fightOf_37 : decode cX4_fightOf 37 = .ok (.if_icmp .ge 51, 3) := by decide +kernel
theorem dX4_fightOf_40 : decode cX4_fightOf 40 = .ok (.iload_n 2, 1) := by decide +kernel
theorem dX4_fightOf_41 : decode cX4_fightOf 41 = .ok (.ifCond .ne 12, 3) := by decide +kernel
theorem dX4_fightOf_44 : decode cX4_fightOf 44 = .ok (.aload_n 0, 1) := by decide +kernel
theorem dX4_fightOf_45 : decode cX4_fightOf 45 = .ok (.getfield 20, 3) := by decide +kernel
theorem dX4_fightOf_48 : decode cX4_fightOf 48 = .ok (.iload_n 1, 1) := by decide +kernel
theorem dX4_fightOf_49 : decode cX4_fightOf 49 = .ok (.iaload, 1) := by decide +kernel
theorem dX4_fightOf_50 : decode cX4_fightOf 50 = .ok (.goto 37, 3) := by decide +kernel
theorem dX4_fightOf_53 : decode cX4_fightOf 53 = .ok (.iload_n 2, 1) := by decide +kernel
theorem dX4_fightOf_54 : decode cX4_fightOf 54 = .ok (.iconst 1, 1) := by decide +kernel
theorem dX4_fightOf_55 : decode cX4_fightOf 55 = .ok (.if_icmp .ne 12, 3) := by decide +kernel
theorem dX4_fightOf_58 : decode cX4_fightOf 58 = .ok (.aload_n 0, 1) := by decide +kernel
theorem dX4_fightOf_59 : decode cX4_fightOf 59 = .ok (.getfield 23, 3) := by decide +kernel
theorem dX4_fightOf_62 : decode cX4_fightOf 62 = .ok (.iload_n 1, 1) := by decide +kernel
theorem dX4_fightOf_63 : decode cX4_fightOf 63 = .ok (.iaload, 1) := by decide +kernel
theorem dX4_fightOf_64 : decode cX4_fightOf 64 = .ok (.goto 23, 3) := by decide +kernel
theorem dX4_fightOf_67 : decode cX4_fightOf 67 = .ok (.iload_n 2, 1) := by decide +kernel
theorem dX4_fightOf_68 : decode cX4_fightOf 68 = .ok (.iconst 2, 1) := by decide +kernel
theorem dX4_fightOf_69 : decode cX4_fightOf 69 = .ok (.if_icmp .ne 12, 3) := by decide +kernel
theorem dX4_fightOf_72 : decode cX4_fightOf 72 = .ok (.aload_n 0, 1) := by decide +kernel
theorem dX4_fightOf_73 : decode cX4_fightOf 73 = .ok (.getfield 26, 3) := by decide +kernel
theorem dX4_fightOf_76 : decode cX4_fightOf 76 = .ok (.iload_n 1, 1) := by decide +kernel
theorem dX4_fightOf_77 : decode cX4_fightOf 77 = .ok (.iaload, 1) := by decide +kernel
theorem dX4_fightOf_78 : decode cX4_fightOf 78 = .ok (.goto 9, 3) := by decide +kernel
theorem dX4_fightOf_81 : decode cX4_fightOf 81 = .ok (.aload_n 0, 1) := by decide +kernel
theorem dX4_fightOf_82 : decode cX4_fightOf 82 = .ok (.getfield 29, 3) := by decide +kernel
theorem dX4_fightOf_85 : decode cX4_fightOf 85 = .ok (.iload_n 1, 1) := by decide +kernel
theorem dX4_fightOf_86 : decode cX4_fightOf 86 = .ok (.iaload, 1) := by decide +kernel
theorem dX4_fightOf_87 : decode cX4_fightOf 87 = .ok (.ireturn, 1) := by decide +kernel
theorem dX4_fightOf_88 : decode cX4_fightOf 88 = .ok (.iconst 0, 1) := by decide +kernel
theorem dX4_fightOf_89 : decode cX4_fightOf 89 = .ok (.istore_n 3, 1) := by decide +kernel
theorem dX4_fightOf_90 : decode cX4_fightOf 90 = .ok (.iconst 0, 1) := by decide +kernel
theorem dX4_fightOf_91 : decode cX4_fightOf 91 = .ok (.istore 4, 2) := by decide +kernel
theorem dX4_fightOf_93 : decode cX4_fightOf 93 = .ok (.iload 4, 2) := by decide +kernel
theorem dX4_fightOf_95 : decode cX4_fightOf 95 = .ok (.aload_n 0, 1) := by decide +kernel
theorem dX4_fightOf_96 : decode cX4_fightOf 96 = .ok (.getfield 115, 3) := by decide +kernel
theorem dX4_fightOf_99 : decode cX4_fightOf 99 = .ok (.if_icmp .ge 28, 3) := by decide +kernel
theorem dX4_fightOf_102 : decode cX4_fightOf 102 = .ok (.iload_n 3, 1) := by decide +kernel
theorem dX4_fightOf_103 : decode cX4_fightOf 103 = .ok (.aload_n 0, 1) := by decide +kernel
theorem dX4_fightOf_104 : decode cX4_fightOf 104 = .ok (.getfield 50, 3) := by decide +kernel
theorem dX4_fightOf_107 : decode cX4_fightOf 107 = .ok (.iload 4, 2) := by decide +kernel
theorem dX4_fightOf_109 : decode cX4_fightOf 109 = .ok (.iaload, 1) := by decide +kernel
theorem dX4_fightOf_110 : decode cX4_fightOf 110 = .ok (.iload_n 1, 1) := by decide +kernel
theorem dX4_fightOf_111 : decode cX4_fightOf 111 = .ok (.if_icmp .ne 7, 3) := by decide +kernel
theorem dX4_fightOf_114 : decode cX4_fightOf 114 = .ok (.iconst 1, 1) := by decide +kernel
theorem dX4_fightOf_115 : decode cX4_fightOf 115 = .ok (.goto 4, 3) := by decide +kernel
theorem dX4_fightOf_118 : decode cX4_fightOf 118 = .ok (.iconst 0, 1) := by decide +kernel
theorem dX4_fightOf_119 : decode cX4_fightOf 119 = .ok (.iadd, 1) := by decide +kernel
theorem dX4_fightOf_120 : decode cX4_fightOf 120 = .ok (.istore_n 3, 1) := by decide +kernel
theorem dX4_fightOf_121 : decode cX4_fightOf 121 = .ok (.iinc 4 1, 3) := by decide +kernel
theorem dX4_fightOf_124 : decode cX4_fightOf 124 = .ok (.goto (-31), 3) := by decide +kernel
theorem dX4_fightOf_127 : decode cX4_fightOf 127 = .ok (.iload_n 3, 1) := by decide +kernel
theorem dX4_fightOf_128 : decode cX4_fightOf 128 = .ok (.ireturn, 1) := by decide +kernel
set_option maxRecDepth 20000 in
theorem ggX4_cameraOf_X4_in : GoodIn wsX4_cameraOf wsX4_in := goodIn_r _ [7] (by decide +kernel) (by decide +kernel)
set_option maxRecDepth 20000 in
theorem gX4_cameraOf_X4_in : GoodIn wsX4_cameraOf (va_wsS RX4 84 yX4_in wsX4_in) := goodIn_app (goodIn_of _ (by decide +kernel)) ggX4_cameraOf_X4_in
set_option maxRecDepth 20000 in
theorem ggX4_cameraOf_X4_refused : GoodIn wsX4_cameraOf wsX4_refused := goodIn_r _ [11, 12, 13, 14, 15, 16, 17, 18, 19, 20, 21, 22, 23, 24, 25, 26, 27, 28, 29, 30, 31, 32, 33, 34, 35, 36, 37, 38, 39, 40, 41] (by decide +kernel) (by decide +kernel)
set_option maxRecDepth 20000 in
theorem gX4_cameraOf_X4_refused : GoodIn wsX4_cameraOf (wsV RX4 95 RX4 yX4_refused wsX4_refused) := goodIn_app (goodIn_of _ (by decide +kernel)) ggX4_cameraOf_X4_refused
theorem dX4_cameraOf_0 : decode cX4_cameraOf 0 = .ok (.aload_n 0, 1) := by decide +kernel
theorem dX4_cameraOf_1 : decode cX4_cameraOf 1 = .ok (.iload_n 1, 1) := by decide +kernel
theorem dX4_cameraOf_2 : decode cX4_cameraOf 2 = .ok (.iconst 0, 1) := by decide +kernel
theorem dX4_cameraOf_3 : decode cX4_cameraOf 3 = .ok (.aload_n 0, 1) := by decide +kernel
theorem dX4_cameraOf_4 : decode cX4_cameraOf 4 = .ok (.getfield 118, 3) := by decide +kernel
theorem dX4_cameraOf_7 : decode cX4_cameraOf 7 = .ok (.iconst 1, 1) := by decide +kernel
theorem dX4_cameraOf_8 : decode cX4_cameraOf 8 = .ok (.isub, 1) := by decide +kernel
theorem dX4_cameraOf_9 : decode cX4_cameraOf 9 = .ok (.invokestatic 84, 3) := by decide +kernel
theorem dX4_cameraOf_12 : decode cX4_cameraOf 12 = .ok (.ifCond .ne 7, 3) := by decide +kernel
theorem dX4_cameraOf_15 : decode cX4_cameraOf 15 = .ok (.iconst 1, 1) := by decide +kernel
theorem dX4_cameraOf_16 : decode cX4_cameraOf 16 = .ok (.goto 17, 3) := by decide +kernel
theorem dX4_cameraOf_19 : decode cX4_cameraOf 19 = .ok (.iload_n 2, 1) := by decide +kernel
theorem dX4_cameraOf_20 : decode cX4_cameraOf 20 = .ok (.iconst 0, 1) := by decide +kernel
theorem dX4_cameraOf_21 : decode cX4_cameraOf 21 = .ok (.iconst 1, 1) := by decide +kernel
theorem dX4_cameraOf_22 : decode cX4_cameraOf 22 = .ok (.invokestatic 84, 3) := by decide +kernel
theorem dX4_cameraOf_25 : decode cX4_cameraOf 25 = .ok (.ifCond .ne 7, 3) := by decide +kernel
theorem dX4_cameraOf_28 : decode cX4_cameraOf 28 = .ok (.iconst 2, 1) := by decide +kernel
theorem dX4_cameraOf_29 : decode cX4_cameraOf 29 = .ok (.goto 4, 3) := by decide +kernel
theorem dX4_cameraOf_32 : decode cX4_cameraOf 32 = .ok (.iconst 0, 1) := by decide +kernel
theorem dX4_cameraOf_33 : decode cX4_cameraOf 33 = .ok (.invokevirtual 95, 3) := by decide +kernel
theorem dX4_cameraOf_36 : decode cX4_cameraOf 36 = .ok (.ifCond .eq 5, 3) := by decide +kernel
theorem dX4_cameraOf_39 : decode cX4_cameraOf 39 = .ok (.iconst 0, 1) := by decide +kernel
theorem dX4_cameraOf_40 : decode cX4_cameraOf 40 = .ok (.ireturn, 1) := by decide +kernel
theorem dX4_cameraOf_41 : decode cX4_cameraOf 41 = .ok (.iload_n 2, 1) := by decide +kernel
theorem dX4_cameraOf_42 : decode cX4_cameraOf 42 = .ok (.ifCond .ne 12, 3) := by decide +kernel
theorem dX4_cameraOf_45 : decode cX4_cameraOf 45 = .ok (.aload_n 0, 1) := by decide +kernel
theorem dX4_cameraOf_46 : decode cX4_cameraOf 46 = .ok (.getfield 38, 3) := by decide +kernel
theorem dX4_cameraOf_49 : decode cX4_cameraOf 49 = .ok (.iload_n 1, 1) := by decide +kernel
theorem dX4_cameraOf_50 : decode cX4_cameraOf 50 = .ok (.iaload, 1) := by decide +kernel
theorem dX4_cameraOf_51 : decode cX4_cameraOf 51 = .ok (.goto 9, 3) := by decide +kernel
theorem dX4_cameraOf_54 : decode cX4_cameraOf 54 = .ok (.aload_n 0, 1) := by decide +kernel
theorem dX4_cameraOf_55 : decode cX4_cameraOf 55 = .ok (.getfield 41, 3) := by decide +kernel
theorem dX4_cameraOf_58 : decode cX4_cameraOf 58 = .ok (.iload_n 1, 1) := by decide +kernel
theorem dX4_cameraOf_59 : decode cX4_cameraOf 59 = .ok (.iaload, 1) := by decide +kernel
theorem dX4_cameraOf_60 : decode cX4_cameraOf 60 = .ok (.ireturn, 1) := by decide +kernel
theorem dX4_countedFor_0 : decode cX4_countedFor 0 = .ok (.iconst 0, 1) := by decide +kernel
theorem dX4_countedFor_1 : decode cX4_countedFor 1 = .ok (.istore_n 2, 1) := by decide +kernel
theorem dX4_countedFor_2 : decode cX4_countedFor 2 = .ok (.iconst 0, 1) := by decide +kernel
theorem dX4_countedFor_3 : decode cX4_countedFor 3 = .ok (.istore_n 3, 1) := by decide +kernel
theorem dX4_countedFor_4 : decode cX4_countedFor 4 = .ok (.iload_n 3, 1) := by decide +kernel
theorem dX4_countedFor_5 : decode cX4_countedFor 5 = .ok (.aload_n 0, 1) := by decide +kernel
theorem dX4_countedFor_6 : decode cX4_countedFor 6 = .ok (.getfield 115, 3) := by decide +kernel
theorem dX4_countedFor_9 : decode cX4_countedFor 9 = .ok (.if_icmp .ge 27, 3) := by decide +kernel
theorem dX4_countedFor_12 : decode cX4_countedFor 12 = .ok (.iload_n 2, 1) := by decide +kernel
theorem dX4_countedFor_13 : decode cX4_countedFor 13 = .ok (.aload_n 0, 1) := by decide +kernel
theorem dX4_countedFor_14 : decode cX4_countedFor 14 = .ok (.getfield 56, 3) := by decide +kernel
theorem dX4_countedFor_17 : decode cX4_countedFor 17 = .ok (.iload_n 3, 1) := by decide +kernel
theorem dX4_countedFor_18 : decode cX4_countedFor 18 = .ok (.iaload, 1) := by decide +kernel
theorem dX4_countedFor_19 : decode cX4_countedFor 19 = .ok (.iload_n 1, 1) := by decide +kernel
theorem dX4_countedFor_20 : decode cX4_countedFor 20 = .ok (.if_icmp .ne 7, 3) := by decide +kernel
theorem dX4_countedFor_23 : decode cX4_countedFor 23 = .ok (.iconst 1, 1) := by decide +kernel
theorem dX4_countedFor_24 : decode cX4_countedFor 24 = .ok (.goto 4, 3) := by decide +kernel
theorem dX4_countedFor_27 : decode cX4_countedFor 27 = .ok (.iconst 0, 1) := by decide +kernel
theorem dX4_countedFor_28 : decode cX4_countedFor 28 = .ok (.iadd, 1) := by decide +kernel
theorem dX4_countedFor_29 : decode cX4_countedFor 29 = .ok (.istore_n 2, 1) := by decide +kernel
theorem dX4_countedFor_30 : decode cX4_countedFor 30 = .ok (.iinc 3 1, 3) := by decide +kernel
theorem dX4_countedFor_33 : decode cX4_countedFor 33 = .ok (.goto (-29), 3) := by decide +kernel
theorem dX4_countedFor_36 : decode cX4_countedFor 36 = .ok (.iload_n 2, 1) := by decide +kernel
theorem dX4_countedFor_37 : decode cX4_countedFor 37 = .ok (.ireturn, 1) := by decide +kernel
set_option maxRecDepth 20000 in
theorem ggX4_owedTo_X4_countedFor : GoodIn wsX4_owedTo wsX4_countedFor := goodIn_r _ [6, 7, 8, 9, 10, 11, 12, 13, 14, 15, 16, 17, 18, 19, 20, 21, 22, 23, 24, 25, 26, 27, 28, 29, 30, 31, 32, 33, 34, 35, 36, 37] (by decide +kernel) (by decide +kernel)
set_option maxRecDepth 20000 in
theorem gX4_owedTo_X4_countedFor : GoodIn wsX4_owedTo (wsV RX4 156 RX4 yX4_countedFor wsX4_countedFor) := goodIn_app (goodIn_of _ (by decide +kernel)) ggX4_owedTo_X4_countedFor
theorem dX4_owedTo_0 : decode cX4_owedTo 0 = .ok (.aload_n 0, 1) := by decide +kernel
theorem dX4_owedTo_1 : decode cX4_owedTo 1 = .ok (.getfield 75, 3) := by decide +kernel
theorem dX4_owedTo_4 : decode cX4_owedTo 4 = .ok (.iload_n 1, 1) := by decide +kernel
theorem dX4_owedTo_5 : decode cX4_owedTo 5 = .ok (.iaload, 1) := by decide +kernel
theorem dX4_owedTo_6 : decode cX4_owedTo 6 = .ok (.aload_n 0, 1) := by decide +kernel
theorem dX4_owedTo_7 : decode cX4_owedTo 7 = .ok (.iload_n 1, 1) := by decide +kernel
theorem dX4_owedTo_8 : decode cX4_owedTo 8 = .ok (.invokevirtual 156, 3) := by decide +kernel
theorem dX4_owedTo_11 : decode cX4_owedTo 11 = .ok (.isub, 1) := by decide +kernel
theorem dX4_owedTo_12 : decode cX4_owedTo 12 = .ok (.istore_n 2, 1) := by decide +kernel
theorem dX4_owedTo_13 : decode cX4_owedTo 13 = .ok (.iload_n 2, 1) := by decide +kernel
theorem dX4_owedTo_14 : decode cX4_owedTo 14 = .ok (.ifCond .ge 7, 3) := by decide +kernel
theorem dX4_owedTo_17 : decode cX4_owedTo 17 = .ok (.iconst 0, 1) := by decide +kernel
theorem dX4_owedTo_18 : decode cX4_owedTo 18 = .ok (.goto 4, 3) := by decide +kernel
theorem dX4_owedTo_21 : decode cX4_owedTo 21 = .ok (.iload_n 2, 1) := by decide +kernel
theorem dX4_owedTo_22 : decode cX4_owedTo 22 = .ok (.ireturn, 1) := by decide +kernel
set_option maxRecDepth 20000 in
theorem ggX4_counted_X4_isSponsor : GoodIn wsX4_counted wsX4_isSponsor := goodIn_r _ [4, 5, 6, 3, 7] (by decide +kernel) (by decide +kernel)
set_option maxRecDepth 20000 in
theorem gX4_counted_X4_isSponsor : GoodIn wsX4_counted (va_wsS RX4 150 yX4_isSponsor wsX4_isSponsor) := goodIn_app (goodIn_of _ (by decide +kernel)) ggX4_counted_X4_isSponsor
set_option maxRecDepth 20000 in
theorem ggX4_counted_X4_refused : GoodIn wsX4_counted wsX4_refused := goodIn_r _ [11, 12, 19, 20, 21, 22, 23, 24, 25, 26, 27, 28, 29, 30, 31, 32, 33, 34, 35, 36, 37, 38, 39, 40, 41, 42, 43, 44, 45, 46, 47] (by decide +kernel) (by decide +kernel)
set_option maxRecDepth 20000 in
theorem gX4_counted_X4_refused : GoodIn wsX4_counted (wsV RX4 95 RX4 yX4_refused wsX4_refused) := goodIn_app (goodIn_of _ (by decide +kernel)) ggX4_counted_X4_refused
set_option maxRecDepth 20000 in
theorem ggX4_counted_X4_countedFor : GoodIn wsX4_counted wsX4_countedFor := goodIn_r _ [16, 17, 18, 19, 20, 21, 22, 23, 24, 25, 26, 27, 28, 29, 30, 31, 32, 33, 34, 35, 36, 37, 38, 39, 40, 41, 42, 43, 44, 45, 46, 47] (by decide +kernel) (by decide +kernel)
set_option maxRecDepth 20000 in
theorem gX4_counted_X4_countedFor : GoodIn wsX4_counted (wsV RX4 156 RX4 yX4_countedFor wsX4_countedFor) := goodIn_app (goodIn_of _ (by decide +kernel)) ggX4_counted_X4_countedFor
theorem dX4_counted_0 : decode cX4_counted 0 = .ok (.aload_n 0, 1) := by decide +kernel
theorem dX4_counted_1 : decode cX4_counted 1 = .ok (.iload_n 1, 1) := by decide +kernel
theorem dX4_counted_2 : decode cX4_counted 2 = .ok (.invokestatic 150, 3) := by decide +kernel
theorem dX4_counted_5 : decode cX4_counted 5 = .ok (.ifCond .eq 7, 3) := by decide +kernel
theorem dX4_counted_8 : decode cX4_counted 8 = .ok (.iconst 0, 1) := by decide +kernel
theorem dX4_counted_9 : decode cX4_counted 9 = .ok (.goto 4, 3) := by decide +kernel
theorem dX4_counted_12 : decode cX4_counted 12 = .ok (.iconst 1, 1) := by decide +kernel
theorem dX4_counted_13 : decode cX4_counted 13 = .ok (.invokevirtual 95, 3) := by decide +kernel
theorem dX4_counted_16 : decode cX4_counted 16 = .ok (.ifCond .eq 7, 3) := by decide +kernel
theorem dX4_counted_19 : decode cX4_counted 19 = .ok (.iconst 0, 1) := by decide +kernel
theorem dX4_counted_20 : decode cX4_counted 20 = .ok (.goto 8, 3) := by decide +kernel
theorem dX4_counted_23 : decode cX4_counted 23 = .ok (.aload_n 0, 1) := by decide +kernel
theorem dX4_counted_24 : decode cX4_counted 24 = .ok (.iload_n 1, 1) := by decide +kernel
theorem dX4_counted_25 : decode cX4_counted 25 = .ok (.invokevirtual 156, 3) := by decide +kernel
theorem dX4_counted_28 : decode cX4_counted 28 = .ok (.ireturn, 1) := by decide +kernel
set_option maxRecDepth 20000 in
theorem ggX4_countedAnew_X4_counted : GoodIn wsX4_countedAnew wsX4_counted := goodIn_r _ [5, 6, 7, 4, 8, 9, 10, 11, 12, 13, 14, 15, 16, 17, 18, 19, 20, 21, 22, 23, 24, 25, 26, 27, 28, 29, 30, 31, 32, 33, 34, 35, 36, 37, 38, 39, 40, 41, 42, 43, 44, 45, 46, 47, 48, 49, 50, 51] (by decide +kernel) (by decide +kernel)
set_option maxRecDepth 20000 in
theorem gX4_countedAnew_X4_counted : GoodIn wsX4_countedAnew (wsV RX4 159 RX4 yX4_counted wsX4_counted) := goodIn_app (goodIn_of _ (by decide +kernel)) ggX4_countedAnew_X4_counted
theorem dX4_countedAnew_0 : decode cX4_countedAnew 0 = .ok (.aload_n 0, 1) := by decide +kernel
theorem dX4_countedAnew_1 : decode cX4_countedAnew 1 = .ok (.iload_n 1, 1) := by decide +kernel
theorem dX4_countedAnew_2 : decode cX4_countedAnew 2 = .ok (.invokevirtual 159, 3) := by decide +kernel
theorem dX4_countedAnew_5 : decode cX4_countedAnew 5 = .ok (.ireturn, 1) := by decide +kernel
set_option maxRecDepth 20000 in
theorem ggX4_owed_X4_isSponsor : GoodIn wsX4_owed wsX4_isSponsor := goodIn_r _ [4, 5, 6, 3, 7] (by decide +kernel) (by decide +kernel)
set_option maxRecDepth 20000 in
theorem gX4_owed_X4_isSponsor : GoodIn wsX4_owed (va_wsS RX4 150 yX4_isSponsor wsX4_isSponsor) := goodIn_app (goodIn_of _ (by decide +kernel)) ggX4_owed_X4_isSponsor
set_option maxRecDepth 20000 in
theorem ggX4_owed_X4_refused : GoodIn wsX4_owed wsX4_refused := goodIn_r _ [11, 12, 24, 25, 26, 27, 28, 29, 30, 31, 32, 33, 34, 35, 36, 37, 38, 39, 40, 41, 42, 43, 44, 45, 46, 47, 48, 49, 50, 51, 52] (by decide +kernel) (by decide +kernel)
set_option maxRecDepth 20000 in
theorem gX4_owed_X4_refused : GoodIn wsX4_owed (wsV RX4 95 RX4 yX4_refused wsX4_refused) := goodIn_app (goodIn_of _ (by decide +kernel)) ggX4_owed_X4_refused
set_option maxRecDepth 20000 in
theorem ggX4_owed_X4_owedTo : GoodIn wsX4_owed wsX4_owedTo := goodIn_r _ [16, 17, 18, 19, 20, 3, 21, 22, 23, 24, 25, 26, 27, 28, 29, 30, 31, 32, 33, 34, 35, 36, 37, 38, 39, 40, 41, 42, 43, 44, 45, 46, 47, 48, 49, 50, 51, 52] (by decide +kernel) (by decide +kernel)
set_option maxRecDepth 20000 in
theorem gX4_owed_X4_owedTo : GoodIn wsX4_owed (wsV RX4 128 RX4 yX4_owedTo wsX4_owedTo) := goodIn_app (goodIn_of _ (by decide +kernel)) ggX4_owed_X4_owedTo
theorem dX4_owed_0 : decode cX4_owed 0 = .ok (.aload_n 0, 1) := by decide +kernel
theorem dX4_owed_1 : decode cX4_owed 1 = .ok (.iload_n 1, 1) := by decide +kernel
theorem dX4_owed_2 : decode cX4_owed 2 = .ok (.invokestatic 150, 3) := by decide +kernel
theorem dX4_owed_5 : decode cX4_owed 5 = .ok (.ifCond .eq 7, 3) := by decide +kernel
theorem dX4_owed_8 : decode cX4_owed 8 = .ok (.iconst 0, 1) := by decide +kernel
theorem dX4_owed_9 : decode cX4_owed 9 = .ok (.goto 4, 3) := by decide +kernel
theorem dX4_owed_12 : decode cX4_owed 12 = .ok (.iconst 1, 1) := by decide +kernel
theorem dX4_owed_13 : decode cX4_owed 13 = .ok (.invokevirtual 95, 3) := by decide +kernel
theorem dX4_owed_16 : decode cX4_owed 16 = .ok (.ifCond .eq 7, 3) := by decide +kernel
theorem dX4_owed_19 : decode cX4_owed 19 = .ok (.iconst 0, 1) := by decide +kernel
theorem dX4_owed_20 : decode cX4_owed 20 = .ok (.goto 8, 3) := by decide +kernel
theorem dX4_owed_23 : decode cX4_owed 23 = .ok (.aload_n 0, 1) := by decide +kernel
theorem dX4_owed_24 : decode cX4_owed 24 = .ok (.iload_n 1, 1) := by decide +kernel
theorem dX4_owed_25 : decode cX4_owed 25 = .ok (.invokevirtual 128, 3) := by decide +kernel
theorem dX4_owed_28 : decode cX4_owed 28 = .ok (.ireturn, 1) := by decide +kernel
theorem dX4_wins_0 : decode cX4_wins 0 = .ok (.iconst 0, 1) := by decide +kernel
theorem dX4_wins_1 : decode cX4_wins 1 = .ok (.istore_n 2, 1) := by decide +kernel
theorem dX4_wins_2 : decode cX4_wins 2 = .ok (.iconst 0, 1) := by decide +kernel
theorem dX4_wins_3 : decode cX4_wins 3 = .ok (.istore_n 3, 1) := by decide +kernel
theorem dX4_wins_4 : decode cX4_wins 4 = .ok (.iload_n 3, 1) := by decide +kernel
theorem dX4_wins_5 : decode cX4_wins 5 = .ok (.aload_n 0, 1) := by decide +kernel
theorem dX4_wins_6 : decode cX4_wins 6 = .ok (.getfield 88, 3) := by decide +kernel
theorem dX4_wins_9 : decode cX4_wins 9 = .ok (.if_icmp .ge 37, 3) := by decide +kernel
theorem dX4_wins_12 : decode cX4_wins 12 = .ok (.iload_n 2, 1) := by decide +kernel
theorem dX4_wins_13 : decode cX4_wins 13 = .ok (.aload_n 0, 1) := by decide +kernel
theorem dX4_wins_14 : decode cX4_wins 14 = .ok (.getfield 20, 3) := by decide +kernel
theorem dX4_wins_17 : decode cX4_wins 17 = .ok (.iload_n 3, 1) := by decide +kernel
theorem dX4_wins_18 : decode cX4_wins 18 = .ok (.iaload, 1) := by decide +kernel
theorem dX4_wins_19 : decode cX4_wins 19 = .ok (.iconst 1, 1) := by decide +kernel
theorem dX4_wins_20 : decode cX4_wins 20 = .ok (.if_icmp .ne 17, 3) := by decide +kernel
theorem dX4_wins_23 : decode cX4_wins 23 = .ok (.aload_n 0, 1) := by decide +kernel
theorem dX4_wins_24 : decode cX4_wins 24 = .ok (.getfield 29, 3) := by decide +kernel
theorem dX4_wins_27 : decode cX4_wins 27 = .ok (.iload_n 3, 1) := by decide +kernel
theorem dX4_wins_28 : decode cX4_wins 28 = .ok (.iaload, 1) := by decide +kernel
theorem dX4_wins_29 : decode cX4_wins 29 = .ok (.iload_n 1, 1) := by decide +kernel
theorem dX4_wins_30 : decode cX4_wins 30 = .ok (.if_icmp .ne 7, 3) := by decide +kernel
theorem dX4_wins_33 : decode cX4_wins 33 = .ok (.iconst 1, 1) := by decide +kernel
theorem dX4_wins_34 : decode cX4_wins 34 = .ok (.goto 4, 3) := by decide +kernel
theorem dX4_wins_37 : decode cX4_wins 37 = .ok (.iconst 0, 1) := by decide +kernel
theorem dX4_wins_38 : decode cX4_wins 38 = .ok (.iadd, 1) := by decide +kernel
theorem dX4_wins_39 : decode cX4_wins 39 = .ok (.istore_n 2, 1) := by decide +kernel
theorem dX4_wins_40 : decode cX4_wins 40 = .ok (.iinc 3 1, 3) := by decide +kernel
theorem dX4_wins_43 : decode cX4_wins 43 = .ok (.goto (-39), 3) := by decide +kernel
theorem dX4_wins_46 : decode cX4_wins 46 = .ok (.iload_n 2, 1) := by decide +kernel
theorem dX4_wins_47 : decode cX4_wins 47 = .ok (.ireturn, 1) := by decide +kernel
set_option maxRecDepth 20000 in
theorem ggX4_leader_X4_isPlayer : GoodIn wsX4_leader wsX4_isPlayer := goodIn_r _ [4, 5, 6, 3, 7] (by decide +kernel) (by decide +kernel)
set_option maxRecDepth 20000 in
theorem gX4_leader_X4_isPlayer : GoodIn wsX4_leader (va_wsS RX4 91 yX4_isPlayer wsX4_isPlayer) := goodIn_app (goodIn_of _ (by decide +kernel)) ggX4_leader_X4_isPlayer
set_option maxRecDepth 20000 in
theorem ggX4_leader_X4_refused : GoodIn wsX4_leader wsX4_refused := goodIn_r _ [11, 12, 20, 21, 22, 23, 24, 25, 26, 27, 28, 29, 30, 31, 32, 33, 34, 35, 36, 37, 38, 39, 40, 41, 42, 43, 44, 45, 46, 47, 48] (by decide +kernel) (by decide +kernel)
set_option maxRecDepth 20000 in
theorem gX4_leader_X4_refused : GoodIn wsX4_leader (wsV RX4 95 RX4 yX4_refused wsX4_refused) := goodIn_app (goodIn_of _ (by decide +kernel)) ggX4_leader_X4_refused
set_option maxRecDepth 20000 in
theorem ggX4_leader_X4_wins : GoodIn wsX4_leader wsX4_wins := goodIn_r _ [16, 17, 18, 19, 20, 21, 22, 23, 24, 25, 26, 27, 28, 29, 30, 31, 32, 33, 34, 35, 36, 37, 38, 39, 40, 41, 42, 43, 44, 45, 46, 47, 48] (by decide +kernel) (by decide +kernel)
set_option maxRecDepth 20000 in
theorem gX4_leader_X4_wins : GoodIn wsX4_leader (wsV RX4 162 RX4 yX4_wins wsX4_wins) := goodIn_app (goodIn_of _ (by decide +kernel)) ggX4_leader_X4_wins
theorem dX4_leader_0 : decode cX4_leader 0 = .ok (.aload_n 0, 1) := by decide +kernel
theorem dX4_leader_1 : decode cX4_leader 1 = .ok (.iload_n 1, 1) := by decide +kernel
theorem dX4_leader_2 : decode cX4_leader 2 = .ok (.invokestatic 91, 3) := by decide +kernel
theorem dX4_leader_5 : decode cX4_leader 5 = .ok (.ifCond .eq 7, 3) := by decide +kernel
theorem dX4_leader_8 : decode cX4_leader 8 = .ok (.iconst 0, 1) := by decide +kernel
theorem dX4_leader_9 : decode cX4_leader 9 = .ok (.goto 4, 3) := by decide +kernel
theorem dX4_leader_12 : decode cX4_leader 12 = .ok (.iconst 1, 1) := by decide +kernel
theorem dX4_leader_13 : decode cX4_leader 13 = .ok (.invokevirtual 95, 3) := by decide +kernel
theorem dX4_leader_16 : decode cX4_leader 16 = .ok (.ifCond .eq 5, 3) := by decide +kernel
theorem dX4_leader_19 : decode cX4_leader 19 = .ok (.iconst 0, 1) := by decide +kernel
theorem dX4_leader_20 : decode cX4_leader 20 = .ok (.ireturn, 1) := by decide +kernel
theorem dX4_leader_21 : decode cX4_leader 21 = .ok (.iconst 0, 1) := by decide +kernel
theorem dX4_leader_22 : decode cX4_leader 22 = .ok (.istore_n 2, 1) := by decide +kernel
theorem dX4_leader_23 : decode cX4_leader 23 = .ok (.iconst 0, 1) := by decide +kernel
theorem dX4_leader_24 : decode cX4_leader 24 = .ok (.istore_n 3, 1) := by decide +kernel
theorem dX4_leader_25 : decode cX4_leader 25 = .ok (.iload_n 3, 1) := by decide +kernel
theorem dX4_leader_26 : decode cX4_leader 26 = .ok (.bipush 10, 2) := by decide +kernel
theorem dX4_leader_28 : decode cX4_leader 28 = .ok (.if_icmp .ge 84, 3) := by decide +kernel
theorem dX4_leader_31 : decode cX4_leader 31 = .ok (.iconst 0, 1) := by decide +kernel
theorem dX4_leader_32 : decode cX4_leader 32 = .ok (.istore 4, 2) := by decide +kernel
theorem dX4_leader_34 : decode cX4_leader 34 = .ok (.iconst 0, 1) := by decide +kernel
theorem dX4_leader_35 : decode cX4_leader 35 = .ok (.istore 5, 2) := by decide +kernel
theorem dX4_leader_37 : decode cX4_leader 37 = .ok (.iload 5, 2) := by decide +kernel
theorem dX4_leader_39 : decode cX4_leader 39 = .ok (.bipush 10, 2) := by decide +kernel
theorem dX4_leader_41 : decode cX4_leader 41 = .ok (.if_icmp .ge 53, 3) := by decide +kernel
theorem dX4_leader_44 : decode cX4_leader 44 = .ok (.iload 4, 2) := by decide +kernel
theorem dX4_leader_46 : decode cX4_leader 46 = .ok (.aload_n 0, 1) := by decide +kernel
theorem dX4_leader_47 : decode cX4_leader 47 = .ok (.iload 5, 2) := by decide +kernel
theorem dX4_leader_49 : decode cX4_leader 49 = .ok (.invokevirtual 162, 3) := by decide +kernel
theorem dX4_leader_52 : decode cX4_leader 52 = .ok (.aload_n 0, 1) := by decide +kernel
theorem dX4_leader_53 : decode cX4_leader 53 = .ok (.iload_n 3, 1) := by decide +kernel
theorem dX4_leader_54 : decode cX4_leader 54 = .ok (.invokevirtual 162, 3) := by decide +kernel
theorem dX4_leader_57 : decode cX4_leader 57 = .ok (.if_icmp .gt 23, 3) := by decide +kernel
theorem dX4_leader_60 : decode cX4_leader 60 = .ok (.aload_n 0, 1) := by decide +kernel
theorem dX4_leader_61 : decode cX4_leader 61 = .ok (.iload 5, 2) := by decide +kernel
theorem dX4_leader_63 : decode cX4_leader 63 = .ok (.invokevirtual 162, 3) := by decide +kernel
theorem dX4_leader_66 : decode cX4_leader 66 = .ok (.aload_n 0, 1) := by decide +kernel
theorem dX4_leader_67 : decode cX4_leader 67 = .ok (.iload_n 3, 1) := by decide +kernel
theorem dX4_leader_68 : decode cX4_leader 68 = .ok (.invokevirtual 162, 3) := by decide +kernel
theorem dX4_leader_71 : decode cX4_leader 71 = .ok (.if_icmp .ne 13, 3) := by decide +kernel
theorem dX4_leader_74 : decode cX4_leader 74 = .ok (.iload 5, 2) := by decide +kernel
theorem dX4_leader_76 : decode cX4_leader 76 = .ok (.iload_n 3, 1) := by decide +kernel
theorem dX4_leader_77 : decode cX4_leader 77 = .ok (.if_icmp .ge 7, 3) := by decide +kernel
theorem dX4_leader_80 : decode cX4_leader 80 = .ok (.iconst 1, 1) := by decide +kernel
theorem dX4_leader_81 : decode cX4_leader 81 = .ok (.goto 4, 3) := by decide +kernel
theorem dX4_leader_84 : decode cX4_leader 84 = .ok (.iconst 0, 1) := by decide +kernel
theorem dX4_leader_85 : decode cX4_leader 85 = .ok (.iadd, 1) := by decide +kernel
theorem dX4_leader_86 : decode cX4_leader 86 = .ok (.istore 4, 2) := by decide +kernel
theorem dX4_leader_88 : decode cX4_leader 88 = .ok (.iinc 5 1, 3) := by decide +kernel
theorem dX4_leader_91 : decode cX4_leader 91 = .ok (.goto (-54), 3) := by decide +kernel
theorem dX4_leader_94 : decode cX4_leader 94 = .ok (.iload 4, 2) := by decide +kernel
theorem dX4_leader_96 : decode cX4_leader 96 = .ok (.iload_n 1, 1) := by decide +kernel
theorem dX4_leader_97 : decode cX4_leader 97 = .ok (.if_icmp .ne 7, 3) := by decide +kernel
theorem dX4_leader_100 : decode cX4_leader 100 = .ok (.iload_n 3, 1) := by decide +kernel
theorem dX4_leader_101 : decode cX4_leader 101 = .ok (.goto 4, 3) := by decide +kernel
theorem dX4_leader_104 : decode cX4_leader 104 = .ok (.iload_n 2, 1) := by decide +kernel
theorem dX4_leader_105 : decode cX4_leader 105 = .ok (.istore_n 2, 1) := by decide +kernel
theorem dX4_leader_106 : decode cX4_leader 106 = .ok (.iinc 3 1, 3) := by decide +kernel
theorem dX4_leader_109 : decode cX4_leader 109 = .ok (.goto (-84), 3) := by decide +kernel
theorem dX4_leader_112 : decode cX4_leader 112 = .ok (.iload_n 2, 1) := by decide +kernel
theorem dX4_leader_113 : decode cX4_leader 113 = .ok (.ireturn, 1) := by decide +kernel
theorem dJ6_bitCount_0f7a4_0 : decode cJ6_bitCount_0f7a4 0 = .ok (.iload_n 0, 1) := by decide +kernel
theorem dJ6_bitCount_0f7a4_1 : decode cJ6_bitCount_0f7a4 1 = .ok (.iload_n 0, 1) := by decide +kernel
theorem dJ6_bitCount_0f7a4_2 : decode cJ6_bitCount_0f7a4 2 = .ok (.iconst 1, 1) := by decide +kernel
theorem dJ6_bitCount_0f7a4_3 : decode cJ6_bitCount_0f7a4 3 = .ok (.iushr, 1) := by decide +kernel
theorem dJ6_bitCount_0f7a4_4 : decode cJ6_bitCount_0f7a4 4 = .ok (.ldc_w 265, 3) := by decide +kernel
theorem dJ6_bitCount_0f7a4_7 : decode cJ6_bitCount_0f7a4 7 = .ok (.iand, 1) := by decide +kernel
theorem dJ6_bitCount_0f7a4_8 : decode cJ6_bitCount_0f7a4 8 = .ok (.isub, 1) := by decide +kernel
theorem dJ6_bitCount_0f7a4_9 : decode cJ6_bitCount_0f7a4 9 = .ok (.istore_n 0, 1) := by decide +kernel
theorem dJ6_bitCount_0f7a4_10 : decode cJ6_bitCount_0f7a4 10 = .ok (.iload_n 0, 1) := by decide +kernel
theorem dJ6_bitCount_0f7a4_11 : decode cJ6_bitCount_0f7a4 11 = .ok (.ldc_w 266, 3) := by decide +kernel
theorem dJ6_bitCount_0f7a4_14 : decode cJ6_bitCount_0f7a4 14 = .ok (.iand, 1) := by decide +kernel
theorem dJ6_bitCount_0f7a4_15 : decode cJ6_bitCount_0f7a4 15 = .ok (.iload_n 0, 1) := by decide +kernel
theorem dJ6_bitCount_0f7a4_16 : decode cJ6_bitCount_0f7a4 16 = .ok (.iconst 2, 1) := by decide +kernel
theorem dJ6_bitCount_0f7a4_17 : decode cJ6_bitCount_0f7a4 17 = .ok (.iushr, 1) := by decide +kernel
theorem dJ6_bitCount_0f7a4_18 : decode cJ6_bitCount_0f7a4 18 = .ok (.ldc_w 266, 3) := by decide +kernel
theorem dJ6_bitCount_0f7a4_21 : decode cJ6_bitCount_0f7a4 21 = .ok (.iand, 1) := by decide +kernel
theorem dJ6_bitCount_0f7a4_22 : decode cJ6_bitCount_0f7a4 22 = .ok (.iadd, 1) := by decide +kernel
theorem dJ6_bitCount_0f7a4_23 : decode cJ6_bitCount_0f7a4 23 = .ok (.istore_n 0, 1) := by decide +kernel
theorem dJ6_bitCount_0f7a4_24 : decode cJ6_bitCount_0f7a4 24 = .ok (.iload_n 0, 1) := by decide +kernel
theorem dJ6_bitCount_0f7a4_25 : decode cJ6_bitCount_0f7a4 25 = .ok (.iload_n 0, 1) := by decide +kernel
theorem dJ6_bitCount_0f7a4_26 : decode cJ6_bitCount_0f7a4 26 = .ok (.iconst 4, 1) := by decide +kernel
theorem dJ6_bitCount_0f7a4_27 : decode cJ6_bitCount_0f7a4 27 = .ok (.iushr, 1) := by decide +kernel
theorem dJ6_bitCount_0f7a4_28 : decode cJ6_bitCount_0f7a4 28 = .ok (.iadd, 1) := by decide +kernel
theorem dJ6_bitCount_0f7a4_29 : decode cJ6_bitCount_0f7a4 29 = .ok (.ldc_w 267, 3) := by decide +kernel
theorem dJ6_bitCount_0f7a4_32 : decode cJ6_bitCount_0f7a4 32 = .ok (.iand, 1) := by decide +kernel
theorem dJ6_bitCount_0f7a4_33 : decode cJ6_bitCount_0f7a4 33 = .ok (.istore_n 0, 1) := by decide +kernel
theorem dJ6_bitCount_0f7a4_34 : decode cJ6_bitCount_0f7a4 34 = .ok (.iload_n 0, 1) := by decide +kernel
theorem dJ6_bitCount_0f7a4_35 : decode cJ6_bitCount_0f7a4 35 = .ok (.iload_n 0, 1) := by decide +kernel
theorem dJ6_bitCount_0f7a4_36 : decode cJ6_bitCount_0f7a4 36 = .ok (.bipush 8, 2) := by decide +kernel
theorem dJ6_bitCount_0f7a4_38 : decode cJ6_bitCount_0f7a4 38 = .ok (.iushr, 1) := by decide +kernel
theorem dJ6_bitCount_0f7a4_39 : decode cJ6_bitCount_0f7a4 39 = .ok (.iadd, 1) := by decide +kernel
theorem dJ6_bitCount_0f7a4_40 : decode cJ6_bitCount_0f7a4 40 = .ok (.istore_n 0, 1) := by decide +kernel
theorem dJ6_bitCount_0f7a4_41 : decode cJ6_bitCount_0f7a4 41 = .ok (.iload_n 0, 1) := by decide +kernel
theorem dJ6_bitCount_0f7a4_42 : decode cJ6_bitCount_0f7a4 42 = .ok (.iload_n 0, 1) := by decide +kernel
theorem dJ6_bitCount_0f7a4_43 : decode cJ6_bitCount_0f7a4 43 = .ok (.bipush 16, 2) := by decide +kernel
theorem dJ6_bitCount_0f7a4_45 : decode cJ6_bitCount_0f7a4 45 = .ok (.iushr, 1) := by decide +kernel
theorem dJ6_bitCount_0f7a4_46 : decode cJ6_bitCount_0f7a4 46 = .ok (.iadd, 1) := by decide +kernel
theorem dJ6_bitCount_0f7a4_47 : decode cJ6_bitCount_0f7a4 47 = .ok (.istore_n 0, 1) := by decide +kernel
theorem dJ6_bitCount_0f7a4_48 : decode cJ6_bitCount_0f7a4 48 = .ok (.iload_n 0, 1) := by decide +kernel
theorem dJ6_bitCount_0f7a4_49 : decode cJ6_bitCount_0f7a4 49 = .ok (.bipush 63, 2) := by decide +kernel
theorem dJ6_bitCount_0f7a4_51 : decode cJ6_bitCount_0f7a4 51 = .ok (.iand, 1) := by decide +kernel
theorem dJ6_bitCount_0f7a4_52 : decode cJ6_bitCount_0f7a4 52 = .ok (.ireturn, 1) := by decide +kernel
theorem dJ9_max_7cf53_0 : decode cJ9_max_7cf53 0 = .ok (.iload_n 0, 1) := by decide +kernel
theorem dJ9_max_7cf53_1 : decode cJ9_max_7cf53 1 = .ok (.iload_n 1, 1) := by decide +kernel
theorem dJ9_max_7cf53_2 : decode cJ9_max_7cf53 2 = .ok (.if_icmp .lt 7, 3) := by decide +kernel
theorem dJ9_max_7cf53_5 : decode cJ9_max_7cf53 5 = .ok (.iload_n 0, 1) := by decide +kernel
theorem dJ9_max_7cf53_6 : decode cJ9_max_7cf53 6 = .ok (.goto 4, 3) := by decide +kernel
theorem dJ9_max_7cf53_9 : decode cJ9_max_7cf53 9 = .ok (.iload_n 1, 1) := by decide +kernel
theorem dJ9_max_7cf53_10 : decode cJ9_max_7cf53 10 = .ok (.ireturn, 1) := by decide +kernel
theorem dJ9_min_7cf53_0 : decode cJ9_min_7cf53 0 = .ok (.iload_n 0, 1) := by decide +kernel
theorem dJ9_min_7cf53_1 : decode cJ9_min_7cf53 1 = .ok (.iload_n 1, 1) := by decide +kernel
theorem dJ9_min_7cf53_2 : decode cJ9_min_7cf53 2 = .ok (.if_icmp .gt 7, 3) := by decide +kernel
theorem dJ9_min_7cf53_5 : decode cJ9_min_7cf53 5 = .ok (.iload_n 0, 1) := by decide +kernel
theorem dJ9_min_7cf53_6 : decode cJ9_min_7cf53 6 = .ok (.goto 4, 3) := by decide +kernel
theorem dJ9_min_7cf53_9 : decode cJ9_min_7cf53 9 = .ok (.iload_n 1, 1) := by decide +kernel
theorem dJ9_min_7cf53_10 : decode cJ9_min_7cf53 10 = .ok (.ireturn, 1) := by decide +kernel
theorem dJxa1e45_init_da8c8_0 : decode cJxa1e45_init_da8c8 0 = .ok (.aload_n 0, 1) := by decide +kernel
theorem dJxa1e45_init_da8c8_1 : decode cJxa1e45_init_da8c8 1 = .ok (.invokespecial 1, 3) := by decide +kernel
theorem dJxa1e45_init_da8c8_4 : decode cJxa1e45_init_da8c8 4 = .ok (.return_, 1) := by decide +kernel
set_option maxRecDepth 20000 in
theorem ggJxc12de_init_da8c8_Jxa1e45_init_da8c8 : GoodIn wsJxc12de_init_da8c8 wsJxa1e45_init_da8c8 := goodIn_r _ [5, 6, 7, 8] (by decide +kernel) (by decide +kernel)
set_option maxRecDepth 20000 in
theorem gJxc12de_init_da8c8_Jxa1e45_init_da8c8 : GoodIn wsJxc12de_init_da8c8 (wsJxa1e45_init_da8c8) := ggJxc12de_init_da8c8_Jxa1e45_init_da8c8
theorem dJxc12de_init_da8c8_0 : decode cJxc12de_init_da8c8 0 = .ok (.aload_n 0, 1) := by decide +kernel
theorem dJxc12de_init_da8c8_1 : decode cJxc12de_init_da8c8 1 = .ok (.invokespecial 1, 3) := by decide +kernel
theorem dJxc12de_init_da8c8_4 : decode cJxc12de_init_da8c8 4 = .ok (.aload_n 0, 1) := by decide +kernel
theorem dJxc12de_init_da8c8_5 : decode cJxc12de_init_da8c8 5 = .ok (.iconst 0, 1) := by decide +kernel
theorem dJxc12de_init_da8c8_6 : decode cJxc12de_init_da8c8 6 = .ok (.putfield 7, 3) := by decide +kernel
theorem dJxc12de_init_da8c8_9 : decode cJxc12de_init_da8c8 9 = .ok (.return_, 1) := by decide +kernel
set_option maxRecDepth 20000 in
theorem ggJx4a65c_init_da8c8_Jxc12de_init_da8c8 : GoodIn wsJx4a65c_init_da8c8 wsJxc12de_init_da8c8 := goodIn_r _ [6, 7, 8, 9, 10, 11, 12, 13, 14, 15, 16, 17] (by decide +kernel) (by decide +kernel)
set_option maxRecDepth 20000 in
theorem gJx4a65c_init_da8c8_Jxc12de_init_da8c8 : GoodIn wsJx4a65c_init_da8c8 (wsJxc12de_init_da8c8) := ggJx4a65c_init_da8c8_Jxc12de_init_da8c8
theorem dJx4a65c_init_da8c8_0 : decode cJx4a65c_init_da8c8 0 = .ok (.aload_n 0, 1) := by decide +kernel
theorem dJx4a65c_init_da8c8_1 : decode cJx4a65c_init_da8c8 1 = .ok (.invokespecial 1, 3) := by decide +kernel
theorem dJx4a65c_init_da8c8_4 : decode cJx4a65c_init_da8c8 4 = .ok (.aload_n 0, 1) := by decide +kernel
theorem dJx4a65c_init_da8c8_5 : decode cJx4a65c_init_da8c8 5 = .ok (.getstatic 39, 3) := by decide +kernel
theorem dJx4a65c_init_da8c8_8 : decode cJx4a65c_init_da8c8 8 = .ok (.putfield 9, 3) := by decide +kernel
theorem dJx4a65c_init_da8c8_11 : decode cJx4a65c_init_da8c8 11 = .ok (.return_, 1) := by decide +kernel
set_option maxRecDepth 20000 in
theorem ggJx4a65c_grow_92f84_J8_newLength_cabcc : GoodIn wsJx4a65c_grow_92f84 wsJ8_newLength_cabcc := goodIn_r _ [11, 12, 4, 5, 6, 13, 14, 15, 10, 16] (by decide +kernel) (by decide +kernel)
set_option maxRecDepth 20000 in
theorem gJx4a65c_grow_92f84_J8_newLength_cabcc : GoodIn wsJx4a65c_grow_92f84 (va_wsS RJx4a65c 73 yJ8_newLength_cabcc wsJ8_newLength_cabcc) := goodIn_app (goodIn_of _ (by decide +kernel)) ggJx4a65c_grow_92f84_J8_newLength_cabcc
set_option maxRecDepth 20000 in
theorem ggJx4a65c_grow_92f84_J7_copyOf_1904c : GoodIn wsJx4a65c_grow_92f84 wsJ7_copyOf_1904c := goodIn_r _ [20, 21, 22, 23, 24, 25, 26, 19, 27, 28, 29, 30, 31, 5, 32, 33, 34, 35, 36] (by decide +kernel) (by decide +kernel)
set_option maxRecDepth 20000 in
theorem gJx4a65c_grow_92f84_J7_copyOf_1904c : GoodIn wsJx4a65c_grow_92f84 (va_wsS RJx4a65c 66 yJ7_copyOf_1904c wsJ7_copyOf_1904c) := goodIn_app (goodIn_of _ (by decide +kernel)) ggJx4a65c_grow_92f84_J7_copyOf_1904c
theorem dJx4a65c_grow_92f84_0 : decode cJx4a65c_grow_92f84 0 = .ok (.aload_n 0, 1) := by decide +kernel
theorem dJx4a65c_grow_92f84_1 : decode cJx4a65c_grow_92f84 1 = .ok (.getfield 9, 3) := by decide +kernel
theorem dJx4a65c_grow_92f84_4 : decode cJx4a65c_grow_92f84 4 = .ok (.arraylength, 1) := by decide +kernel
theorem dJx4a65c_grow_92f84_5 : decode cJx4a65c_grow_92f84 5 = .ok (.istore_n 2, 1) := by decide +kernel
theorem dJx4a65c_grow_92f84_6 : decode cJx4a65c_grow_92f84 6 = .ok (.iload_n 2, 1) := by decide +kernel
theorem dJx4a65c_grow_92f84_7 : decode cJx4a65c_grow_92f84 7 = .ok (.ifCond .gt 13, 3) := by decide +kernel
theorem dJx4a65c_grow_92f84_10 : decode cJx4a65c_grow_92f84 10 = .ok (.aload_n 0, 1) := by decide +kernel
theorem dJx4a65c_grow_92f84_11 : decode cJx4a65c_grow_92f84 11 = .ok (.getfield 9, 3) := by decide +kernel
theorem dJx4a65c_grow_92f84_14 : decode cJx4a65c_grow_92f84 14 = .ok (.getstatic 39, 3) := by decide +kernel
theorem dJx4a65c_grow_92f84_17 : decode cJx4a65c_grow_92f84 17 = .ok (.if_acmp .eq 28, 3) := by decide +kernel
theorem dJx4a65c_grow_92f84_20 : decode cJx4a65c_grow_92f84 20 = .ok (.iload_n 2, 1) := by decide +kernel
theorem dJx4a65c_grow_92f84_21 : decode cJx4a65c_grow_92f84 21 = .ok (.iload_n 1, 1) := by decide +kernel
theorem dJx4a65c_grow_92f84_22 : decode cJx4a65c_grow_92f84 22 = .ok (.iload_n 2, 1) := by decide +kernel
theorem dJx4a65c_grow_92f84_23 : decode cJx4a65c_grow_92f84 23 = .ok (.isub, 1) := by decide +kernel
theorem dJx4a65c_grow_92f84_24 : decode cJx4a65c_grow_92f84 24 = .ok (.iload_n 2, 1) := by decide +kernel
theorem dJx4a65c_grow_92f84_25 : decode cJx4a65c_grow_92f84 25 = .ok (.iconst 1, 1) := by decide +kernel
theorem dJx4a65c_grow_92f84_26 : decode cJx4a65c_grow_92f84 26 = .ok (.ishr, 1) := by decide +kernel
theorem dJx4a65c_grow_92f84_27 : decode cJx4a65c_grow_92f84 27 = .ok (.invokestatic 73, 3) := by decide +kernel
theorem dJx4a65c_grow_92f84_30 : decode cJx4a65c_grow_92f84 30 = .ok (.istore_n 3, 1) := by decide +kernel
theorem dJx4a65c_grow_92f84_31 : decode cJx4a65c_grow_92f84 31 = .ok (.aload_n 0, 1) := by decide +kernel
theorem dJx4a65c_grow_92f84_32 : decode cJx4a65c_grow_92f84 32 = .ok (.aload_n 0, 1) := by decide +kernel
theorem dJx4a65c_grow_92f84_33 : decode cJx4a65c_grow_92f84 33 = .ok (.getfield 9, 3) := by decide +kernel
theorem dJx4a65c_grow_92f84_36 : decode cJx4a65c_grow_92f84 36 = .ok (.iload_n 3, 1) := by decide +kernel
theorem dJx4a65c_grow_92f84_37 : decode cJx4a65c_grow_92f84 37 = .ok (.invokestatic 66, 3) := by decide +kernel
theorem dJx4a65c_grow_92f84_40 : decode cJx4a65c_grow_92f84 40 = .ok (.dup_x1, 1) := by decide +kernel
theorem dJx4a65c_grow_92f84_41 : decode cJx4a65c_grow_92f84 41 = .ok (.putfield 9, 3) := by decide +kernel
theorem dJx4a65c_grow_92f84_44 : decode cJx4a65c_grow_92f84 44 = .ok (.areturn, 1) := by decide +kernel
theorem dJx4a65c_grow_92f84_45 : decode cJx4a65c_grow_92f84 45 = .ok (.aload_n 0, 1) := by decide +kernel
theorem dJx4a65c_grow_92f84_46 : decode cJx4a65c_grow_92f84 46 = .ok (.bipush 10, 2) := by decide +kernel
theorem dJx4a65c_grow_92f84_48 : decode cJx4a65c_grow_92f84 48 = .ok (.iload_n 1, 1) := by decide +kernel
theorem dJx4a65c_grow_92f84_49 : decode cJx4a65c_grow_92f84 49 = .ok (.invokestatic 79, 3) := by decide +kernel
theorem dJx4a65c_grow_92f84_52 : decode cJx4a65c_grow_92f84 52 = .ok (.anewarray 7, 3) := by decide +kernel
theorem dJx4a65c_grow_92f84_55 : decode cJx4a65c_grow_92f84 55 = .ok (.dup_x1, 1) := by decide +kernel
theorem dJx4a65c_grow_92f84_56 : decode cJx4a65c_grow_92f84 56 = .ok (.putfield 9, 3) := by decide +kernel
theorem dJx4a65c_grow_92f84_59 : decode cJx4a65c_grow_92f84 59 = .ok (.areturn, 1) := by decide +kernel
set_option maxRecDepth 20000 in
theorem ggJx4a65c_grow_d5877_Jx4a65c_grow_92f84 : GoodIn wsJx4a65c_grow_d5877 wsJx4a65c_grow_92f84 := goodIn_r _ [6, 7, 8, 9, 10, 11, 12, 13, 14, 15, 16, 17, 18, 19, 20, 21, 22, 23, 24, 25, 26, 27, 28, 29, 30, 31, 32, 33, 34, 35, 36, 37, 38, 39, 40, 41, 42, 43, 44, 45] (by decide +kernel) (by decide +kernel)
set_option maxRecDepth 20000 in
theorem gJx4a65c_grow_d5877_Jx4a65c_grow_92f84 : GoodIn wsJx4a65c_grow_d5877 (wsV RJx4a65c 69 RJx4a65c yJx4a65c_grow_92f84 wsJx4a65c_grow_92f84) := goodIn_app (goodIn_of _ (by decide +kernel)) ggJx4a65c_grow_d5877_Jx4a65c_grow_92f84
theorem dJx4a65c_grow_d5877_0 : decode cJx4a65c_grow_d5877 0 = .ok (.aload_n 0, 1) := by decide +kernel
theorem dJx4a65c_grow_d5877_1 : decode cJx4a65c_grow_d5877 1 = .ok (.aload_n 0, 1) := by decide +kernel
theorem dJx4a65c_grow_d5877_2 : decode cJx4a65c_grow_d5877 2 = .ok (.getfield 48, 3) := by decide +kernel
theorem dJx4a65c_grow_d5877_5 : decode cJx4a65c_grow_d5877 5 = .ok (.iconst 1, 1) := by decide +kernel
theorem dJx4a65c_grow_d5877_6 : decode cJx4a65c_grow_d5877 6 = .ok (.iadd, 1) := by decide +kernel
theorem dJx4a65c_grow_d5877_7 : decode cJx4a65c_grow_d5877 7 = .ok (.invokevirtual 69, 3) := by decide +kernel
theorem dJx4a65c_grow_d5877_10 : decode cJx4a65c_grow_d5877 10 = .ok (.areturn, 1) := by decide +kernel
theorem dJx4a65c_size_8abf5_0 : decode cJx4a65c_size_8abf5 0 = .ok (.aload_n 0, 1) := by decide +kernel
theorem dJx4a65c_size_8abf5_1 : decode cJx4a65c_size_8abf5 1 = .ok (.getfield 48, 3) := by decide +kernel
theorem dJx4a65c_size_8abf5_4 : decode cJx4a65c_size_8abf5 4 = .ok (.ireturn, 1) := by decide +kernel
theorem dJx4a65c_elementData_915e3_0 : decode cJx4a65c_elementData_915e3 0 = .ok (.aload_n 0, 1) := by decide +kernel
theorem dJx4a65c_elementData_915e3_1 : decode cJx4a65c_elementData_915e3 1 = .ok (.getfield 9, 3) := by decide +kernel
theorem dJx4a65c_elementData_915e3_4 : decode cJx4a65c_elementData_915e3 4 = .ok (.iload_n 1, 1) := by decide +kernel
theorem dJx4a65c_elementData_915e3_5 : decode cJx4a65c_elementData_915e3 5 = .ok (.aaload, 1) := by decide +kernel
theorem dJx4a65c_elementData_915e3_6 : decode cJx4a65c_elementData_915e3 6 = .ok (.areturn, 1) := by decide +kernel
set_option maxRecDepth 20000 in
theorem ggJx4a65c_get_915e3_J15_checkIndex_7cf53 : GoodIn wsJx4a65c_get_915e3 wsJ15_checkIndex_7cf53 := goodIn_r _ [5, 6, 7, 8, 9] (by decide +kernel) (by decide +kernel)
set_option maxRecDepth 20000 in
theorem gJx4a65c_get_915e3_J15_checkIndex_7cf53 : GoodIn wsJx4a65c_get_915e3 (va_wsS RJx4a65c 118 yJ15_checkIndex_7cf53 wsJ15_checkIndex_7cf53) := goodIn_app (goodIn_of _ (by decide +kernel)) ggJx4a65c_get_915e3_J15_checkIndex_7cf53
set_option maxRecDepth 20000 in
theorem ggJx4a65c_get_915e3_Jx4a65c_elementData_915e3 : GoodIn wsJx4a65c_get_915e3 wsJx4a65c_elementData_915e3 := goodIn_r _ [14, 15, 16, 17, 18] (by decide +kernel) (by decide +kernel)
set_option maxRecDepth 20000 in
theorem gJx4a65c_get_915e3_Jx4a65c_elementData_915e3 : GoodIn wsJx4a65c_get_915e3 (wsV RJx4a65c 123 RJx4a65c yJx4a65c_elementData_915e3 wsJx4a65c_elementData_915e3) := goodIn_app (goodIn_of _ (by decide +kernel)) ggJx4a65c_get_915e3_Jx4a65c_elementData_915e3
theorem dJx4a65c_get_915e3_0 : decode cJx4a65c_get_915e3 0 = .ok (.iload_n 1, 1) := by decide +kernel
theorem dJx4a65c_get_915e3_1 : decode cJx4a65c_get_915e3 1 = .ok (.aload_n 0, 1) := by decide +kernel
theorem dJx4a65c_get_915e3_2 : decode cJx4a65c_get_915e3 2 = .ok (.getfield 48, 3) := by decide +kernel
theorem dJx4a65c_get_915e3_5 : decode cJx4a65c_get_915e3 5 = .ok (.invokestatic 118, 3) := by decide +kernel
theorem dJx4a65c_get_915e3_8 : decode cJx4a65c_get_915e3 8 = .ok (.pop, 1) := by decide +kernel
theorem dJx4a65c_get_915e3_9 : decode cJx4a65c_get_915e3 9 = .ok (.aload_n 0, 1) := by decide +kernel
theorem dJx4a65c_get_915e3_10 : decode cJx4a65c_get_915e3 10 = .ok (.iload_n 1, 1) := by decide +kernel
theorem dJx4a65c_get_915e3_11 : decode cJx4a65c_get_915e3 11 = .ok (.invokevirtual 123, 3) := by decide +kernel
theorem dJx4a65c_get_915e3_14 : decode cJx4a65c_get_915e3 14 = .ok (.areturn, 1) := by decide +kernel
set_option maxRecDepth 20000 in
theorem ggJx4a65c_add_72be8_Jx4a65c_grow_d5877 : GoodIn wsJx4a65c_add_72be8 wsJx4a65c_grow_d5877 := goodIn_r _ [6, 1, 7, 8, 9, 5, 10, 11, 12, 13, 14, 15, 16, 17, 18, 19, 20, 21, 22, 23, 24, 25, 26, 27, 28, 29, 30, 31, 32, 33, 34, 35, 36, 37, 38, 39, 40, 41, 42, 43, 44, 45, 46, 47, 48, 49] (by decide +kernel) (by decide +kernel)
set_option maxRecDepth 20000 in
theorem gJx4a65c_add_72be8_Jx4a65c_grow_d5877 : GoodIn wsJx4a65c_add_72be8 (wsV RJx4a65c 129 RJx4a65c yJx4a65c_grow_d5877 wsJx4a65c_grow_d5877) := goodIn_app (goodIn_of _ (by decide +kernel)) ggJx4a65c_add_72be8_Jx4a65c_grow_d5877
theorem dJx4a65c_add_72be8_0 : decode cJx4a65c_add_72be8 0 = .ok (.iload_n 3, 1) := by decide +kernel
theorem dJx4a65c_add_72be8_1 : decode cJx4a65c_add_72be8 1 = .ok (.aload_n 2, 1) := by decide +kernel
theorem dJx4a65c_add_72be8_2 : decode cJx4a65c_add_72be8 2 = .ok (.arraylength, 1) := by decide +kernel
theorem dJx4a65c_add_72be8_3 : decode cJx4a65c_add_72be8 3 = .ok (.if_icmp .ne 8, 3) := by decide +kernel
theorem dJx4a65c_add_72be8_6 : decode cJx4a65c_add_72be8 6 = .ok (.aload_n 0, 1) := by decide +kernel
theorem dJx4a65c_add_72be8_7 : decode cJx4a65c_add_72be8 7 = .ok (.invokevirtual 129, 3) := by decide +kernel
theorem dJx4a65c_add_72be8_10 : decode cJx4a65c_add_72be8 10 = .ok (.astore_n 2, 1) := by decide +kernel
theorem dJx4a65c_add_72be8_11 : decode cJx4a65c_add_72be8 11 = .ok (.aload_n 2, 1) := by decide +kernel
theorem dJx4a65c_add_72be8_12 : decode cJx4a65c_add_72be8 12 = .ok (.iload_n 3, 1) := by decide +kernel
theorem dJx4a65c_add_72be8_13 : decode cJx4a65c_add_72be8 13 = .ok (.aload_n 1, 1) := by decide +kernel
theorem dJx4a65c_add_72be8_14 : decode cJx4a65c_add_72be8 14 = .ok (.aastore, 1) := by decide +kernel
theorem dJx4a65c_add_72be8_15 : decode cJx4a65c_add_72be8 15 = .ok (.aload_n 0, 1) := by decide +kernel
theorem dJx4a65c_add_72be8_16 : decode cJx4a65c_add_72be8 16 = .ok (.iload_n 3, 1) := by decide +kernel
theorem dJx4a65c_add_72be8_17 : decode cJx4a65c_add_72be8 17 = .ok (.iconst 1, 1) := by decide +kernel
theorem dJx4a65c_add_72be8_18 : decode cJx4a65c_add_72be8 18 = .ok (.iadd, 1) := by decide +kernel
theorem dJx4a65c_add_72be8_19 : decode cJx4a65c_add_72be8 19 = .ok (.putfield 48, 3) := by decide +kernel
theorem dJx4a65c_add_72be8_22 : decode cJx4a65c_add_72be8 22 = .ok (.return_, 1) := by decide +kernel
set_option maxRecDepth 20000 in
theorem ggJx4a65c_add_9ea2d_Jx4a65c_add_72be8 : GoodIn wsJx4a65c_add_9ea2d wsJx4a65c_add_72be8 := goodIn_r _ [9, 4, 10, 11, 12, 8, 13, 14, 15, 16, 17, 3, 18, 19, 20, 21, 22, 23, 24, 25, 26, 27, 28, 29, 30, 31, 32, 33, 34, 35, 36, 37, 38, 39, 40, 41, 42, 43, 44, 45, 46, 47, 48, 49, 50, 51, 52, 53, 54, 55] (by decide +kernel) (by decide +kernel)
set_option maxRecDepth 20000 in
theorem gJx4a65c_add_9ea2d_Jx4a65c_add_72be8 : GoodIn wsJx4a65c_add_9ea2d (wsV RJx4a65c 131 RJx4a65c yJx4a65c_add_72be8 wsJx4a65c_add_72be8) := goodIn_app (goodIn_of _ (by decide +kernel)) ggJx4a65c_add_9ea2d_Jx4a65c_add_72be8
theorem dJx4a65c_add_9ea2d_0 : decode cJx4a65c_add_9ea2d 0 = .ok (.aload_n 0, 1) := by decide +kernel
theorem dJx4a65c_add_9ea2d_1 : decode cJx4a65c_add_9ea2d 1 = .ok (.dup, 1) := by decide +kernel
theorem dJx4a65c_add_9ea2d_2 : decode cJx4a65c_add_9ea2d 2 = .ok (.getfield 63, 3) := by decide +kernel
theorem dJx4a65c_add_9ea2d_5 : decode cJx4a65c_add_9ea2d 5 = .ok (.iconst 1, 1) := by decide +kernel
theorem dJx4a65c_add_9ea2d_6 : decode cJx4a65c_add_9ea2d 6 = .ok (.iadd, 1) := by decide +kernel
theorem dJx4a65c_add_9ea2d_7 : decode cJx4a65c_add_9ea2d 7 = .ok (.putfield 63, 3) := by decide +kernel
theorem dJx4a65c_add_9ea2d_10 : decode cJx4a65c_add_9ea2d 10 = .ok (.aload_n 0, 1) := by decide +kernel
theorem dJx4a65c_add_9ea2d_11 : decode cJx4a65c_add_9ea2d 11 = .ok (.aload_n 1, 1) := by decide +kernel
theorem dJx4a65c_add_9ea2d_12 : decode cJx4a65c_add_9ea2d 12 = .ok (.aload_n 0, 1) := by decide +kernel
theorem dJx4a65c_add_9ea2d_13 : decode cJx4a65c_add_9ea2d 13 = .ok (.getfield 9, 3) := by decide +kernel
theorem dJx4a65c_add_9ea2d_16 : decode cJx4a65c_add_9ea2d 16 = .ok (.aload_n 0, 1) := by decide +kernel
theorem dJx4a65c_add_9ea2d_17 : decode cJx4a65c_add_9ea2d 17 = .ok (.getfield 48, 3) := by decide +kernel
theorem dJx4a65c_add_9ea2d_20 : decode cJx4a65c_add_9ea2d 20 = .ok (.invokevirtual 131, 3) := by decide +kernel
theorem dJx4a65c_add_9ea2d_23 : decode cJx4a65c_add_9ea2d 23 = .ok (.iconst 1, 1) := by decide +kernel
theorem dJx4a65c_add_9ea2d_24 : decode cJx4a65c_add_9ea2d 24 = .ok (.ireturn, 1) := by decide +kernel
set_option maxRecDepth 20000 in
theorem ggJ7_copyOf_1904c_J7_copyOf_6403c : GoodIn wsJ7_copyOf_1904c wsJ7_copyOf_6403c := goodIn_r _ [8, 9, 10, 11, 12, 13, 14, 15, 16, 17, 18] (by decide +kernel) (by decide +kernel)
set_option maxRecDepth 20000 in
theorem gJ7_copyOf_1904c_J7_copyOf_6403c : GoodIn wsJ7_copyOf_1904c (va_wsS RJ7 300 yJ7_copyOf_6403c wsJ7_copyOf_6403c) := goodIn_app (goodIn_of _ (by decide +kernel)) ggJ7_copyOf_1904c_J7_copyOf_6403c
theorem dJ7_copyOf_1904c_0 : decode cJ7_copyOf_1904c 0 = .ok (.aload_n 0, 1) := by decide +kernel
theorem dJ7_copyOf_1904c_1 : decode cJ7_copyOf_1904c 1 = .ok (.iload_n 1, 1) := by decide +kernel
theorem dJ7_copyOf_1904c_2 : decode cJ7_copyOf_1904c 2 = .ok (.aload_n 0, 1) := by decide +kernel
theorem dJ7_copyOf_1904c_3 : decode cJ7_copyOf_1904c 3 = .ok (.invokevirtual 86, 3) := by decide +kernel
theorem dJ7_copyOf_1904c_6 : decode cJ7_copyOf_1904c 6 = .ok (.invokestatic 300, 3) := by decide +kernel
theorem dJ7_copyOf_1904c_9 : decode cJ7_copyOf_1904c 9 = .ok (.areturn, 1) := by decide +kernel
theorem dJ7_copyOf_6403c_0 : decode cJ7_copyOf_6403c 0 = .ok (.aload_n 2, 1) := by decide +kernel
theorem dJ7_copyOf_6403c_1 : decode cJ7_copyOf_6403c 1 = .ok (.ldc 110, 2) := by decide +kernel
theorem dJ7_copyOf_6403c_3 : decode cJ7_copyOf_6403c 3 = .ok (.if_acmp .ne 10, 3) := by decide +kernel
theorem dJ7_copyOf_6403c_6 : decode cJ7_copyOf_6403c 6 = .ok (.iload_n 1, 1) := by decide +kernel
theorem dJ7_copyOf_6403c_7 : decode cJ7_copyOf_6403c 7 = .ok (.anewarray 2, 3) := by decide +kernel
theorem dJ7_copyOf_6403c_10 : decode cJ7_copyOf_6403c 10 = .ok (.goto 14, 3) := by decide +kernel
theorem dJ7_copyOf_6403c_13 : decode cJ7_copyOf_6403c 13 = .ok (.aload_n 2, 1) := by decide +kernel
theorem dJ7_copyOf_6403c_14 : decode cJ7_copyOf_6403c 14 = .ok (.invokevirtual 90, 3) := by decide +kernel
theorem dJ7_copyOf_6403c_17 : decode cJ7_copyOf_6403c 17 = .ok (.iload_n 1, 1) := by decide +kernel
theorem dJ7_copyOf_6403c_18 : decode cJ7_copyOf_6403c 18 = .ok (.invokestatic 95, 3) := by decide +kernel
theorem dJ7_copyOf_6403c_21 : decode cJ7_copyOf_6403c 21 = .ok (.checkcast 110, 3) := by decide +kernel
theorem dJ7_copyOf_6403c_24 : decode cJ7_copyOf_6403c 24 = .ok (.astore_n 3, 1) := by decide +kernel
theorem dJ7_copyOf_6403c_25 : decode cJ7_copyOf_6403c 25 = .ok (.aload_n 0, 1) := by decide +kernel
theorem dJ7_copyOf_6403c_26 : decode cJ7_copyOf_6403c 26 = .ok (.iconst 0, 1) := by decide +kernel
theorem dJ7_copyOf_6403c_27 : decode cJ7_copyOf_6403c 27 = .ok (.aload_n 3, 1) := by decide +kernel
theorem dJ7_copyOf_6403c_28 : decode cJ7_copyOf_6403c 28 = .ok (.iconst 0, 1) := by decide +kernel
theorem dJ7_copyOf_6403c_29 : decode cJ7_copyOf_6403c 29 = .ok (.aload_n 0, 1) := by decide +kernel
theorem dJ7_copyOf_6403c_30 : decode cJ7_copyOf_6403c 30 = .ok (.arraylength, 1) := by decide +kernel
theorem dJ7_copyOf_6403c_31 : decode cJ7_copyOf_6403c 31 = .ok (.iload_n 1, 1) := by decide +kernel
theorem dJ7_copyOf_6403c_32 : decode cJ7_copyOf_6403c 32 = .ok (.invokestatic 304, 3) := by decide +kernel
theorem dJ7_copyOf_6403c_35 : decode cJ7_copyOf_6403c 35 = .ok (.invokestatic 150, 3) := by decide +kernel
theorem dJ7_copyOf_6403c_38 : decode cJ7_copyOf_6403c 38 = .ok (.aload_n 3, 1) := by decide +kernel
theorem dJ7_copyOf_6403c_39 : decode cJ7_copyOf_6403c 39 = .ok (.areturn, 1) := by decide +kernel
set_option maxRecDepth 20000 in
theorem ggJ15_checkIndex_7cf53_J3_checkIndex_8e157 : GoodIn wsJ15_checkIndex_7cf53 wsJ3_checkIndex_8e157 := goodIn_r _ [4] (by decide +kernel) (by decide +kernel)
set_option maxRecDepth 20000 in
theorem gJ15_checkIndex_7cf53_J3_checkIndex_8e157 : GoodIn wsJ15_checkIndex_7cf53 (va_wsS RJ15 105 yJ3_checkIndex_8e157 wsJ3_checkIndex_8e157) := goodIn_app (goodIn_of _ (by decide +kernel)) ggJ15_checkIndex_7cf53_J3_checkIndex_8e157
theorem dJ15_checkIndex_7cf53_0 : decode cJ15_checkIndex_7cf53 0 = .ok (.iload_n 0, 1) := by decide +kernel
theorem dJ15_checkIndex_7cf53_1 : decode cJ15_checkIndex_7cf53 1 = .ok (.iload_n 1, 1) := by decide +kernel
theorem dJ15_checkIndex_7cf53_2 : decode cJ15_checkIndex_7cf53 2 = .ok (.aconst_null, 1) := by decide +kernel
theorem dJ15_checkIndex_7cf53_3 : decode cJ15_checkIndex_7cf53 3 = .ok (.invokestatic 105, 3) := by decide +kernel
theorem dJ15_checkIndex_7cf53_6 : decode cJ15_checkIndex_7cf53 6 = .ok (.ireturn, 1) := by decide +kernel
set_option maxRecDepth 20000 in
theorem ggJ8_newLength_cabcc_J8_hugeLength_7cf53 : GoodIn wsJ8_newLength_cabcc wsJ8_hugeLength_7cf53 := goodIn_r _ [9, 5] (by decide +kernel) (by decide +kernel)
set_option maxRecDepth 20000 in
theorem gJ8_newLength_cabcc_J8_hugeLength_7cf53 : GoodIn wsJ8_newLength_cabcc (va_wsS RJ8 201 yJ8_hugeLength_7cf53 wsJ8_hugeLength_7cf53) := goodIn_app (goodIn_of _ (by decide +kernel)) ggJ8_newLength_cabcc_J8_hugeLength_7cf53
theorem dJ8_newLength_cabcc_0 : decode cJ8_newLength_cabcc 0 = .ok (.iload_n 0, 1) := by decide +kernel
theorem dJ8_newLength_cabcc_1 : decode cJ8_newLength_cabcc 1 = .ok (.iload_n 1, 1) := by decide +kernel
theorem dJ8_newLength_cabcc_2 : decode cJ8_newLength_cabcc 2 = .ok (.iload_n 2, 1) := by decide +kernel
theorem dJ8_newLength_cabcc_3 : decode cJ8_newLength_cabcc 3 = .ok (.invokestatic 194, 3) := by decide +kernel
theorem dJ8_newLength_cabcc_6 : decode cJ8_newLength_cabcc 6 = .ok (.iadd, 1) := by decide +kernel
theorem dJ8_newLength_cabcc_7 : decode cJ8_newLength_cabcc 7 = .ok (.istore_n 3, 1) := by decide +kernel
theorem dJ8_newLength_cabcc_8 : decode cJ8_newLength_cabcc 8 = .ok (.iconst 0, 1) := by decide +kernel
theorem dJ8_newLength_cabcc_9 : decode cJ8_newLength_cabcc 9 = .ok (.iload_n 3, 1) := by decide +kernel
theorem dJ8_newLength_cabcc_10 : decode cJ8_newLength_cabcc 10 = .ok (.if_icmp .ge 11, 3) := by decide +kernel
theorem dJ8_newLength_cabcc_13 : decode cJ8_newLength_cabcc 13 = .ok (.iload_n 3, 1) := by decide +kernel
theorem dJ8_newLength_cabcc_14 : decode cJ8_newLength_cabcc 14 = .ok (.ldc 200, 2) := by decide +kernel
theorem dJ8_newLength_cabcc_16 : decode cJ8_newLength_cabcc 16 = .ok (.if_icmp .gt 5, 3) := by decide +kernel
theorem dJ8_newLength_cabcc_19 : decode cJ8_newLength_cabcc 19 = .ok (.iload_n 3, 1) := by decide +kernel
theorem dJ8_newLength_cabcc_20 : decode cJ8_newLength_cabcc 20 = .ok (.ireturn, 1) := by decide +kernel
theorem dJ8_newLength_cabcc_21 : decode cJ8_newLength_cabcc 21 = .ok (.iload_n 0, 1) := by decide +kernel
theorem dJ8_newLength_cabcc_22 : decode cJ8_newLength_cabcc 22 = .ok (.iload_n 1, 1) := by decide +kernel
theorem dJ8_newLength_cabcc_23 : decode cJ8_newLength_cabcc 23 = .ok (.invokestatic 201, 3) := by decide +kernel
theorem dJ8_newLength_cabcc_26 : decode cJ8_newLength_cabcc 26 = .ok (.ireturn, 1) := by decide +kernel
theorem dJ8_hugeLength_7cf53_0 : decode cJ8_hugeLength_7cf53 0 = .ok (.iload_n 0, 1) := by decide +kernel
theorem dJ8_hugeLength_7cf53_1 : decode cJ8_hugeLength_7cf53 1 = .ok (.iload_n 1, 1) := by decide +kernel
theorem dJ8_hugeLength_7cf53_2 : decode cJ8_hugeLength_7cf53 2 = .ok (.iadd, 1) := by decide +kernel
theorem dJ8_hugeLength_7cf53_3 : decode cJ8_hugeLength_7cf53 3 = .ok (.istore_n 2, 1) := by decide +kernel
theorem dJ8_hugeLength_7cf53_4 : decode cJ8_hugeLength_7cf53 4 = .ok (.iload_n 2, 1) := by decide +kernel
theorem dJ8_hugeLength_7cf53_5 : decode cJ8_hugeLength_7cf53 5 = .ok (.ifCond .ge 44, 3) := by decide +kernel
theorem dJ8_hugeLength_7cf53_8 : decode cJ8_hugeLength_7cf53 8 = .ok (.new 204, 3) := by decide +kernel
theorem dJ8_hugeLength_7cf53_11 : decode cJ8_hugeLength_7cf53 11 = .ok (.dup, 1) := by decide +kernel
theorem dJ8_hugeLength_7cf53_12 : decode cJ8_hugeLength_7cf53 12 = .ok (.new 89, 3) := by decide +kernel
theorem dJ8_hugeLength_7cf53_15 : decode cJ8_hugeLength_7cf53 15 = .ok (.dup, 1) := by decide +kernel
theorem dJ8_hugeLength_7cf53_16 : decode cJ8_hugeLength_7cf53 16 = .ok (.invokespecial 91, 3) := by decide +kernel
theorem dJ8_hugeLength_7cf53_19 : decode cJ8_hugeLength_7cf53 19 = .ok (.ldc 206, 2) := by decide +kernel
theorem dJ8_hugeLength_7cf53_21 : decode cJ8_hugeLength_7cf53 21 = .ok (.invokevirtual 94, 3) := by decide +kernel
theorem dJ8_hugeLength_7cf53_24 : decode cJ8_hugeLength_7cf53 24 = .ok (.iload_n 0, 1) := by decide +kernel
theorem dJ8_hugeLength_7cf53_25 : decode cJ8_hugeLength_7cf53 25 = .ok (.invokevirtual 98, 3) := by decide +kernel
theorem dJ8_hugeLength_7cf53_28 : decode cJ8_hugeLength_7cf53 28 = .ok (.ldc 208, 2) := by decide +kernel
theorem dJ8_hugeLength_7cf53_30 : decode cJ8_hugeLength_7cf53 30 = .ok (.invokevirtual 94, 3) := by decide +kernel
theorem dJ8_hugeLength_7cf53_33 : decode cJ8_hugeLength_7cf53 33 = .ok (.iload_n 1, 1) := by decide +kernel
theorem dJ8_hugeLength_7cf53_34 : decode cJ8_hugeLength_7cf53 34 = .ok (.invokevirtual 98, 3) := by decide +kernel
theorem dJ8_hugeLength_7cf53_37 : decode cJ8_hugeLength_7cf53 37 = .ok (.ldc 210, 2) := by decide +kernel
theorem dJ8_hugeLength_7cf53_39 : decode cJ8_hugeLength_7cf53 39 = .ok (.invokevirtual 94, 3) := by decide +kernel
theorem dJ8_hugeLength_7cf53_42 : decode cJ8_hugeLength_7cf53 42 = .ok (.invokevirtual 101, 3) := by decide +kernel
theorem dJ8_hugeLength_7cf53_45 : decode cJ8_hugeLength_7cf53 45 = .ok (.invokespecial 212, 3) := by decide +kernel
theorem dJ8_hugeLength_7cf53_48 : decode cJ8_hugeLength_7cf53 48 = .ok (.athrow, 1) := by decide +kernel
theorem dJ8_hugeLength_7cf53_49 : decode cJ8_hugeLength_7cf53 49 = .ok (.iload_n 2, 1) := by decide +kernel
theorem dJ8_hugeLength_7cf53_50 : decode cJ8_hugeLength_7cf53 50 = .ok (.ldc 200, 2) := by decide +kernel
theorem dJ8_hugeLength_7cf53_52 : decode cJ8_hugeLength_7cf53 52 = .ok (.if_icmp .gt 6, 3) := by decide +kernel
theorem dJ8_hugeLength_7cf53_55 : decode cJ8_hugeLength_7cf53 55 = .ok (.ldc 200, 2) := by decide +kernel
theorem dJ8_hugeLength_7cf53_57 : decode cJ8_hugeLength_7cf53 57 = .ok (.ireturn, 1) := by decide +kernel
theorem dJ8_hugeLength_7cf53_58 : decode cJ8_hugeLength_7cf53 58 = .ok (.iload_n 2, 1) := by decide +kernel
theorem dJ8_hugeLength_7cf53_59 : decode cJ8_hugeLength_7cf53 59 = .ok (.ireturn, 1) := by decide +kernel
theorem dJ3_checkIndex_8e157_0 : decode cJ3_checkIndex_8e157 0 = .ok (.iload_n 0, 1) := by decide +kernel
theorem dJ3_checkIndex_8e157_1 : decode cJ3_checkIndex_8e157 1 = .ok (.ifCond .lt 8, 3) := by decide +kernel
theorem dJ3_checkIndex_8e157_4 : decode cJ3_checkIndex_8e157 4 = .ok (.iload_n 0, 1) := by decide +kernel
theorem dJ3_checkIndex_8e157_5 : decode cJ3_checkIndex_8e157 5 = .ok (.iload_n 1, 1) := by decide +kernel
theorem dJ3_checkIndex_8e157_6 : decode cJ3_checkIndex_8e157 6 = .ok (.if_icmp .lt 10, 3) := by decide +kernel
theorem dJ3_checkIndex_8e157_9 : decode cJ3_checkIndex_8e157 9 = .ok (.aload_n 2, 1) := by decide +kernel
theorem dJ3_checkIndex_8e157_10 : decode cJ3_checkIndex_8e157 10 = .ok (.iload_n 0, 1) := by decide +kernel
theorem dJ3_checkIndex_8e157_11 : decode cJ3_checkIndex_8e157 11 = .ok (.iload_n 1, 1) := by decide +kernel
theorem dJ3_checkIndex_8e157_12 : decode cJ3_checkIndex_8e157 12 = .ok (.invokestatic 95, 3) := by decide +kernel
theorem dJ3_checkIndex_8e157_15 : decode cJ3_checkIndex_8e157 15 = .ok (.athrow, 1) := by decide +kernel
theorem dJ3_checkIndex_8e157_16 : decode cJ3_checkIndex_8e157 16 = .ok (.iload_n 0, 1) := by decide +kernel
theorem dJ3_checkIndex_8e157_17 : decode cJ3_checkIndex_8e157 17 = .ok (.ireturn, 1) := by decide +kernel
set_option maxRecDepth 20000 in
theorem ggL_rank_X3_rank : GoodIn wsL_rank wsX3_rank := goodIn_ca (goodIn_ca (goodIn_r _ [7, 8, 9, 10, 6, 11, 12, 13, 14, 15, 16, 17, 18, 19, 20, 21, 22, 23, 24, 25, 26, 27, 28, 29, 30, 31, 32, 33] (by decide +kernel) (by decide +kernel)) (goodIn_sub (fun _ h => List.mem_cons_of_mem _ (List.mem_append_left _ (List.mem_append_right _ h))) (by decide +kernel))) (goodIn_sub (fun _ h => List.mem_cons_of_mem _ (List.mem_append_right _ h)) (by decide +kernel))
set_option maxRecDepth 20000 in
theorem gL_rank_X3_rank : GoodIn wsL_rank (wsV RL 7 RX3 yX3_rank wsX3_rank) := goodIn_app (goodIn_of _ (by decide +kernel)) ggL_rank_X3_rank
end
section
theorem dX0_init_0 : decode cX0_init 0 = .ok (.aload_n 0, 1) := by decide +kernel
theorem dX0_init_1 : decode cX0_init 1 = .ok (.invokespecial 1, 3) := by decide +kernel
theorem dX0_init_4 : decode cX0_init 4 = .ok (.aload_n 0, 1) := by decide +kernel
theorem dX0_init_5 : decode cX0_init 5 = .ok (.iload_n 1, 1) := by decide +kernel
theorem dX0_init_6 : decode cX0_init 6 = .ok (.putfield 7, 3) := by decide +kernel
theorem dX0_init_9 : decode cX0_init 9 = .ok (.aload_n 0, 1) := by decide +kernel
theorem dX0_init_10 : decode cX0_init 10 = .ok (.iload_n 2, 1) := by decide +kernel
theorem dX0_init_11 : decode cX0_init 11 = .ok (.putfield 13, 3) := by decide +kernel
theorem dX0_init_14 : decode cX0_init 14 = .ok (.return_, 1) := by decide +kernel
theorem dX0_passOnAir_0 : decode cX0_passOnAir 0 = .ok (.aload_n 0, 1) := by decide +kernel
theorem dX0_passOnAir_1 : decode cX0_passOnAir 1 = .ok (.dup, 1) := by decide +kernel
theorem dX0_passOnAir_2 : decode cX0_passOnAir 2 = .ok (.getfield 16, 3) := by decide +kernel
theorem dX0_passOnAir_5 : decode cX0_passOnAir 5 = .ok (.iconst 1, 1) := by decide +kernel
theorem dX0_passOnAir_6 : decode cX0_passOnAir 6 = .ok (.iadd, 1) := by decide +kernel
theorem dX0_passOnAir_7 : decode cX0_passOnAir 7 = .ok (.putfield 16, 3) := by decide +kernel
theorem dX0_passOnAir_10 : decode cX0_passOnAir 10 = .ok (.aload_n 0, 1) := by decide +kernel
theorem dX0_passOnAir_11 : decode cX0_passOnAir 11 = .ok (.getfield 16, 3) := by decide +kernel
theorem dX0_passOnAir_14 : decode cX0_passOnAir 14 = .ok (.aload_n 0, 1) := by decide +kernel
theorem dX0_passOnAir_15 : decode cX0_passOnAir 15 = .ok (.getfield 7, 3) := by decide +kernel
theorem dX0_passOnAir_18 : decode cX0_passOnAir 18 = .ok (.if_icmp .lt 15, 3) := by decide +kernel
theorem dX0_passOnAir_21 : decode cX0_passOnAir 21 = .ok (.aload_n 0, 1) := by decide +kernel
theorem dX0_passOnAir_22 : decode cX0_passOnAir 22 = .ok (.aload_n 0, 1) := by decide +kernel
theorem dX0_passOnAir_23 : decode cX0_passOnAir 23 = .ok (.getfield 13, 3) := by decide +kernel
theorem dX0_passOnAir_26 : decode cX0_passOnAir 26 = .ok (.iconst 1, 1) := by decide +kernel
theorem dX0_passOnAir_27 : decode cX0_passOnAir 27 = .ok (.invokestatic 19, 3) := by decide +kernel
theorem dX0_passOnAir_30 : decode cX0_passOnAir 30 = .ok (.putfield 25, 3) := by decide +kernel
theorem dX0_passOnAir_33 : decode cX0_passOnAir 33 = .ok (.return_, 1) := by decide +kernel
theorem dX0_passOff_0 : decode cX0_passOff 0 = .ok (.aload_n 0, 1) := by decide +kernel
theorem dX0_passOff_1 : decode cX0_passOff 1 = .ok (.iconst 0, 1) := by decide +kernel
theorem dX0_passOff_2 : decode cX0_passOff 2 = .ok (.putfield 16, 3) := by decide +kernel
theorem dX0_passOff_5 : decode cX0_passOff 5 = .ok (.aload_n 0, 1) := by decide +kernel
theorem dX0_passOff_6 : decode cX0_passOff 6 = .ok (.aload_n 0, 1) := by decide +kernel
theorem dX0_passOff_7 : decode cX0_passOff 7 = .ok (.getfield 25, 3) := by decide +kernel
theorem dX0_passOff_10 : decode cX0_passOff 10 = .ok (.iconst 1, 1) := by decide +kernel
theorem dX0_passOff_11 : decode cX0_passOff 11 = .ok (.isub, 1) := by decide +kernel
theorem dX0_passOff_12 : decode cX0_passOff 12 = .ok (.iconst 0, 1) := by decide +kernel
theorem dX0_passOff_13 : decode cX0_passOff 13 = .ok (.invokestatic 19, 3) := by decide +kernel
theorem dX0_passOff_16 : decode cX0_passOff 16 = .ok (.putfield 25, 3) := by decide +kernel
theorem dX0_passOff_19 : decode cX0_passOff 19 = .ok (.return_, 1) := by decide +kernel
theorem dX1_init_0 : decode cX1_init 0 = .ok (.aload_n 0, 1) := by decide +kernel
theorem dX1_init_1 : decode cX1_init 1 = .ok (.invokespecial 3, 3) := by decide +kernel
theorem dX1_init_4 : decode cX1_init 4 = .ok (.aload_n 0, 1) := by decide +kernel
theorem dX1_init_5 : decode cX1_init 5 = .ok (.aload_n 1, 1) := by decide +kernel
theorem dX1_init_6 : decode cX1_init 6 = .ok (.putfield 9, 3) := by decide +kernel
theorem dX1_init_9 : decode cX1_init 9 = .ok (.aload_n 0, 1) := by decide +kernel
theorem dX1_init_10 : decode cX1_init 10 = .ok (.iload_n 2, 1) := by decide +kernel
theorem dX1_init_11 : decode cX1_init 11 = .ok (.putfield 15, 3) := by decide +kernel
theorem dX1_init_14 : decode cX1_init 14 = .ok (.aload_n 0, 1) := by decide +kernel
theorem dX1_init_15 : decode cX1_init 15 = .ok (.iload_n 3, 1) := by decide +kernel
theorem dX1_init_16 : decode cX1_init 16 = .ok (.putfield 19, 3) := by decide +kernel
theorem dX1_init_19 : decode cX1_init 19 = .ok (.aload_n 0, 1) := by decide +kernel
theorem dX1_init_20 : decode cX1_init 20 = .ok (.iload 4, 2) := by decide +kernel
theorem dX1_init_22 : decode cX1_init 22 = .ok (.putfield 22, 3) := by decide +kernel
theorem dX1_init_25 : decode cX1_init 25 = .ok (.return_, 1) := by decide +kernel
theorem dX1_canBeCorrected_0 : decode cX1_canBeCorrected 0 = .ok (.aload_n 0, 1) := by decide +kernel
theorem dX1_canBeCorrected_1 : decode cX1_canBeCorrected 1 = .ok (.getfield 25, 3) := by decide +kernel
theorem dX1_canBeCorrected_4 : decode cX1_canBeCorrected 4 = .ok (.ifCond .ne 17, 3) := by decide +kernel
theorem dX1_canBeCorrected_7 : decode cX1_canBeCorrected 7 = .ok (.aload_n 0, 1) := by decide +kernel
theorem dX1_canBeCorrected_8 : decode cX1_canBeCorrected 8 = .ok (.getfield 9, 3) := by decide +kernel
theorem dX1_canBeCorrected_11 : decode cX1_canBeCorrected 11 = .ok (.getfield 29, 3) := by decide +kernel
theorem dX1_canBeCorrected_14 : decode cX1_canBeCorrected 14 = .ok (.ifCond .ne 7, 3) := by decide +kernel
theorem dX1_canBeCorrected_17 : decode cX1_canBeCorrected 17 = .ok (.iconst 1, 1) := by decide +kernel
theorem dX1_canBeCorrected_18 : decode cX1_canBeCorrected 18 = .ok (.goto 4, 3) := by decide +kernel
theorem dX1_canBeCorrected_21 : decode cX1_canBeCorrected 21 = .ok (.iconst 0, 1) := by decide +kernel
theorem dX1_canBeCorrected_22 : decode cX1_canBeCorrected 22 = .ok (.ireturn, 1) := by decide +kernel
theorem dX2_init_0 : decode cX2_init 0 = .ok (.aload_n 0, 1) := by decide +kernel
theorem dX2_init_1 : decode cX2_init 1 = .ok (.invokespecial 3, 3) := by decide +kernel
theorem dX2_init_4 : decode cX2_init 4 = .ok (.aload_n 0, 1) := by decide +kernel
theorem dX2_init_5 : decode cX2_init 5 = .ok (.iload_n 1, 1) := by decide +kernel
theorem dX2_init_6 : decode cX2_init 6 = .ok (.putfield 9, 3) := by decide +kernel
theorem dX2_init_9 : decode cX2_init 9 = .ok (.aload_n 0, 1) := by decide +kernel
theorem dX2_init_10 : decode cX2_init 10 = .ok (.iload_n 2, 1) := by decide +kernel
theorem dX2_init_11 : decode cX2_init 11 = .ok (.putfield 15, 3) := by decide +kernel
theorem dX2_init_14 : decode cX2_init 14 = .ok (.aload_n 0, 1) := by decide +kernel
theorem dX2_init_15 : decode cX2_init 15 = .ok (.iload_n 3, 1) := by decide +kernel
theorem dX2_init_16 : decode cX2_init 16 = .ok (.putfield 18, 3) := by decide +kernel
theorem dX2_init_19 : decode cX2_init 19 = .ok (.aload_n 0, 1) := by decide +kernel
theorem dX2_init_20 : decode cX2_init 20 = .ok (.iconst 0, 1) := by decide +kernel
theorem dX2_init_21 : decode cX2_init 21 = .ok (.putfield 21, 3) := by decide +kernel
theorem dX2_init_24 : decode cX2_init 24 = .ok (.aload_n 0, 1) := by decide +kernel
theorem dX2_init_25 : decode cX2_init 25 = .ok (.iconst (-1), 1) := by decide +kernel
theorem dX2_init_26 : decode cX2_init 26 = .ok (.putfield 24, 3) := by decide +kernel
theorem dX2_init_29 : decode cX2_init 29 = .ok (.return_, 1) := by decide +kernel
theorem dX2_isOf_0 : decode cX2_isOf 0 = .ok (.iload_n 1, 1) := by decide +kernel
theorem dX2_isOf_1 : decode cX2_isOf 1 = .ok (.aload_n 0, 1) := by decide +kernel
theorem dX2_isOf_2 : decode cX2_isOf 2 = .ok (.getfield 15, 3) := by decide +kernel
theorem dX2_isOf_5 : decode cX2_isOf 5 = .ok (.if_icmp .eq 11, 3) := by decide +kernel
theorem dX2_isOf_8 : decode cX2_isOf 8 = .ok (.iload_n 1, 1) := by decide +kernel
theorem dX2_isOf_9 : decode cX2_isOf 9 = .ok (.aload_n 0, 1) := by decide +kernel
theorem dX2_isOf_10 : decode cX2_isOf 10 = .ok (.getfield 18, 3) := by decide +kernel
theorem dX2_isOf_13 : decode cX2_isOf 13 = .ok (.if_icmp .ne 7, 3) := by decide +kernel
theorem dX2_isOf_16 : decode cX2_isOf 16 = .ok (.iconst 1, 1) := by decide +kernel
theorem dX2_isOf_17 : decode cX2_isOf 17 = .ok (.goto 4, 3) := by decide +kernel
theorem dX2_isOf_20 : decode cX2_isOf 20 = .ok (.iconst 0, 1) := by decide +kernel
theorem dX2_isOf_21 : decode cX2_isOf 21 = .ok (.ireturn, 1) := by decide +kernel
theorem dX2_heatUp_0 : decode cX2_heatUp 0 = .ok (.aload_n 0, 1) := by decide +kernel
theorem dX2_heatUp_1 : decode cX2_heatUp 1 = .ok (.dup, 1) := by decide +kernel
theorem dX2_heatUp_2 : decode cX2_heatUp 2 = .ok (.getfield 27, 3) := by decide +kernel
theorem dX2_heatUp_5 : decode cX2_heatUp 5 = .ok (.iconst 1, 1) := by decide +kernel
theorem dX2_heatUp_6 : decode cX2_heatUp 6 = .ok (.ior, 1) := by decide +kernel
theorem dX2_heatUp_7 : decode cX2_heatUp 7 = .ok (.putfield 27, 3) := by decide +kernel
theorem dX2_heatUp_10 : decode cX2_heatUp 10 = .ok (.return_, 1) := by decide +kernel
set_option maxRecDepth 20000 in
theorem ggX2_heatOfBlows_J6_bitCount_0f7a4 : GoodIn wsX2_heatOfBlows wsJ6_bitCount_0f7a4 := goodIn_r _ [5, 6, 7, 8] (by decide +kernel) (by decide +kernel)
set_option maxRecDepth 20000 in
theorem gX2_heatOfBlows_J6_bitCount_0f7a4 : GoodIn wsX2_heatOfBlows (va_wsS RX2 30 yJ6_bitCount_0f7a4 wsJ6_bitCount_0f7a4) := goodIn_app (goodIn_of _ (by decide +kernel)) ggX2_heatOfBlows_J6_bitCount_0f7a4
theorem dX2_heatOfBlows_0 : decode cX2_heatOfBlows 0 = .ok (.bipush 10, 2) := by decide +kernel
theorem dX2_heatOfBlows_2 : decode cX2_heatOfBlows 2 = .ok (.aload_n 0, 1) := by decide +kernel
theorem dX2_heatOfBlows_3 : decode cX2_heatOfBlows 3 = .ok (.getfield 27, 3) := by decide +kernel
theorem dX2_heatOfBlows_6 : decode cX2_heatOfBlows 6 = .ok (.bipush 62, 2) := by decide +kernel
theorem dX2_heatOfBlows_8 : decode cX2_heatOfBlows 8 = .ok (.iand, 1) := by decide +kernel
theorem dX2_heatOfBlows_9 : decode cX2_heatOfBlows 9 = .ok (.invokestatic 30, 3) := by decide +kernel
theorem dX2_heatOfBlows_12 : decode cX2_heatOfBlows 12 = .ok (.imul, 1) := by decide +kernel
theorem dX2_heatOfBlows_13 : decode cX2_heatOfBlows 13 = .ok (.ireturn, 1) := by decide +kernel
theorem dX2_letFramePass_0 : decode cX2_letFramePass 0 = .ok (.aload_n 0, 1) := by decide +kernel
theorem dX2_letFramePass_1 : decode cX2_letFramePass 1 = .ok (.dup, 1) := by decide +kernel
theorem dX2_letFramePass_2 : decode cX2_letFramePass 2 = .ok (.getfield 27, 3) := by decide +kernel
theorem dX2_letFramePass_5 : decode cX2_letFramePass 5 = .ok (.iconst 1, 1) := by decide +kernel
theorem dX2_letFramePass_6 : decode cX2_letFramePass 6 = .ok (.ishl, 1) := by decide +kernel
theorem dX2_letFramePass_7 : decode cX2_letFramePass 7 = .ok (.putfield 27, 3) := by decide +kernel
theorem dX2_letFramePass_10 : decode cX2_letFramePass 10 = .ok (.return_, 1) := by decide +kernel
set_option maxRecDepth 20000 in
theorem ggX3_init_Jx4a65c_init_da8c8 : GoodIn wsX3_init wsJx4a65c_init_da8c8 := goodIn_r _ [23, 24, 25, 26, 27, 28, 29, 30, 31, 32, 33, 34, 35, 2, 3, 51, 52, 53] (by decide +kernel) (by decide +kernel)
set_option maxRecDepth 20000 in
theorem gX3_init_Jx4a65c_init_da8c8 : GoodIn wsX3_init (wsJx4a65c_init_da8c8) := ggX3_init_Jx4a65c_init_da8c8
theorem dX3_init_0 : decode cX3_init 0 = .ok (.aload_n 0, 1) := by decide +kernel
theorem dX3_init_1 : decode cX3_init 1 = .ok (.invokespecial 1, 3) := by decide +kernel
theorem dX3_init_4 : decode cX3_init 4 = .ok (.aload_n 0, 1) := by decide +kernel
theorem dX3_init_5 : decode cX3_init 5 = .ok (.bipush 10, 2) := by decide +kernel
theorem dX3_init_7 : decode cX3_init 7 = .ok (.newarray .int, 2) := by decide +kernel
theorem dX3_init_9 : decode cX3_init 9 = .ok (.putfield 9, 3) := by decide +kernel
theorem dX3_init_12 : decode cX3_init 12 = .ok (.aload_n 0, 1) := by decide +kernel
theorem dX3_init_13 : decode cX3_init 13 = .ok (.bipush 10, 2) := by decide +kernel
theorem dX3_init_15 : decode cX3_init 15 = .ok (.newarray .int, 2) := by decide +kernel
theorem dX3_init_17 : decode cX3_init 17 = .ok (.putfield 13, 3) := by decide +kernel
theorem dX3_init_20 : decode cX3_init 20 = .ok (.aload_n 0, 1) := by decide +kernel
theorem dX3_init_21 : decode cX3_init 21 = .ok (.new 16, 3) := by decide +kernel
theorem dX3_init_24 : decode cX3_init 24 = .ok (.dup, 1) := by decide +kernel
theorem dX3_init_25 : decode cX3_init 25 = .ok (.invokespecial 18, 3) := by decide +kernel
theorem dX3_init_28 : decode cX3_init 28 = .ok (.putfield 19, 3) := by decide +kernel
theorem dX3_init_31 : decode cX3_init 31 = .ok (.aload_n 0, 1) := by decide +kernel
theorem dX3_init_32 : decode cX3_init 32 = .ok (.new 16, 3) := by decide +kernel
theorem dX3_init_35 : decode cX3_init 35 = .ok (.dup, 1) := by decide +kernel
theorem dX3_init_36 : decode cX3_init 36 = .ok (.invokespecial 18, 3) := by decide +kernel
theorem dX3_init_39 : decode cX3_init 39 = .ok (.putfield 23, 3) := by decide +kernel
theorem dX3_init_42 : decode cX3_init 42 = .ok (.aload_n 0, 1) := by decide +kernel
theorem dX3_init_43 : decode cX3_init 43 = .ok (.new 16, 3) := by decide +kernel
theorem dX3_init_46 : decode cX3_init 46 = .ok (.dup, 1) := by decide +kernel
theorem dX3_init_47 : decode cX3_init 47 = .ok (.invokespecial 18, 3) := by decide +kernel
theorem dX3_init_50 : decode cX3_init 50 = .ok (.putfield 26, 3) := by decide +kernel
theorem dX3_init_53 : decode cX3_init 53 = .ok (.aload_n 0, 1) := by decide +kernel
theorem dX3_init_54 : decode cX3_init 54 = .ok (.bipush 6, 2) := by decide +kernel
theorem dX3_init_56 : decode cX3_init 56 = .ok (.newarray .int, 2) := by decide +kernel
theorem dX3_init_58 : decode cX3_init 58 = .ok (.putfield 29, 3) := by decide +kernel
theorem dX3_init_61 : decode cX3_init 61 = .ok (.aload_n 0, 1) := by decide +kernel
theorem dX3_init_62 : decode cX3_init 62 = .ok (.bipush 6, 2) := by decide +kernel
theorem dX3_init_64 : decode cX3_init 64 = .ok (.newarray .int, 2) := by decide +kernel
theorem dX3_init_66 : decode cX3_init 66 = .ok (.putfield 32, 3) := by decide +kernel
theorem dX3_init_69 : decode cX3_init 69 = .ok (.aload_n 0, 1) := by decide +kernel
theorem dX3_init_70 : decode cX3_init 70 = .ok (.bipush 6, 2) := by decide +kernel
theorem dX3_init_72 : decode cX3_init 72 = .ok (.newarray .int, 2) := by decide +kernel
theorem dX3_init_74 : decode cX3_init 74 = .ok (.putfield 35, 3) := by decide +kernel
theorem dX3_init_77 : decode cX3_init 77 = .ok (.aload_n 0, 1) := by decide +kernel
theorem dX3_init_78 : decode cX3_init 78 = .ok (.bipush 10, 2) := by decide +kernel
theorem dX3_init_80 : decode cX3_init 80 = .ok (.putfield 38, 3) := by decide +kernel
theorem dX3_init_83 : decode cX3_init 83 = .ok (.aload_n 0, 1) := by decide +kernel
theorem dX3_init_84 : decode cX3_init 84 = .ok (.iconst (-1), 1) := by decide +kernel
theorem dX3_init_85 : decode cX3_init 85 = .ok (.putfield 42, 3) := by decide +kernel
theorem dX3_init_88 : decode cX3_init 88 = .ok (.aload_n 0, 1) := by decide +kernel
theorem dX3_init_89 : decode cX3_init 89 = .ok (.sipush 3000, 3) := by decide +kernel
theorem dX3_init_92 : decode cX3_init 92 = .ok (.newarray .int, 2) := by decide +kernel
theorem dX3_init_94 : decode cX3_init 94 = .ok (.putfield 45, 3) := by decide +kernel
theorem dX3_init_97 : decode cX3_init 97 = .ok (.aload_n 0, 1) := by decide +kernel
theorem dX3_init_98 : decode cX3_init 98 = .ok (.sipush 3000, 3) := by decide +kernel
theorem dX3_init_101 : decode cX3_init 101 = .ok (.newarray .int, 2) := by decide +kernel
theorem dX3_init_103 : decode cX3_init 103 = .ok (.putfield 48, 3) := by decide +kernel
theorem dX3_init_106 : decode cX3_init 106 = .ok (.aload_n 0, 1) := by decide +kernel
theorem dX3_init_107 : decode cX3_init 107 = .ok (.sipush 3000, 3) := by decide +kernel
theorem dX3_init_110 : decode cX3_init 110 = .ok (.newarray .int, 2) := by decide +kernel
theorem dX3_init_112 : decode cX3_init 112 = .ok (.putfield 51, 3) := by decide +kernel
theorem dX3_init_115 : decode cX3_init 115 = .ok (.return_, 1) := by decide +kernel
set_option maxRecDepth 20000 in
theorem ggX3_rank_X3_checkPlayer : GoodIn wsX3_rank wsX3_checkPlayer := goodIn_ca (goodIn_r _ [5, 6, 7] (by decide +kernel) (by decide +kernel)) (goodIn_sub (fun _ h => List.mem_cons_of_mem _ (List.mem_append_left _ (List.mem_append_right _ h))) (by decide +kernel))
set_option maxRecDepth 20000 in
theorem gX3_rank_X3_checkPlayer : GoodIn wsX3_rank (va_wsS RX3 54 yX3_checkPlayer wsX3_checkPlayer) := goodIn_app (goodIn_of _ (by decide +kernel)) ggX3_rank_X3_checkPlayer
set_option maxRecDepth 20000 in
theorem ggX3_rank_X3_checkRange : GoodIn wsX3_rank wsX3_checkRange := goodIn_ca (goodIn_r _ [10, 11, 12] (by decide +kernel) (by decide +kernel)) (goodIn_sub (fun _ h => List.mem_cons_of_mem _ (List.mem_append_right _ h)) (by decide +kernel))
set_option maxRecDepth 20000 in
theorem gX3_rank_X3_checkRange : GoodIn wsX3_rank (va_wsS RX3 58 yX3_checkRange wsX3_checkRange) := goodIn_app (goodIn_of _ (by decide +kernel)) ggX3_rank_X3_checkRange
theorem dX3_rank_0 : decode cX3_rank 0 = .ok (.iload_n 1, 1) := by decide +kernel
theorem dX3_rank_1 : decode cX3_rank 1 = .ok (.invokestatic 54, 3) := by decide +kernel
theorem dX3_rank_4 : decode cX3_rank 4 = .ok (.iload_n 2, 1) := by decide +kernel
theorem dX3_rank_5 : decode cX3_rank 5 = .ok (.iconst 0, 1) := by decide +kernel
theorem dX3_rank_6 : decode cX3_rank 6 = .ok (.bipush 99, 2) := by decide +kernel
theorem dX3_rank_8 : decode cX3_rank 8 = .ok (.invokestatic 58, 3) := by decide +kernel
theorem dX3_rank_11 : decode cX3_rank 11 = .ok (.aload_n 0, 1) := by decide +kernel
theorem dX3_rank_12 : decode cX3_rank 12 = .ok (.getfield 9, 3) := by decide +kernel
theorem dX3_rank_15 : decode cX3_rank 15 = .ok (.iload_n 1, 1) := by decide +kernel
theorem dX3_rank_16 : decode cX3_rank 16 = .ok (.iaload, 1) := by decide +kernel
theorem dX3_rank_17 : decode cX3_rank 17 = .ok (.istore_n 3, 1) := by decide +kernel
theorem dX3_rank_18 : decode cX3_rank 18 = .ok (.aload_n 0, 1) := by decide +kernel
theorem dX3_rank_19 : decode cX3_rank 19 = .ok (.getfield 9, 3) := by decide +kernel
theorem dX3_rank_22 : decode cX3_rank 22 = .ok (.iload_n 1, 1) := by decide +kernel
theorem dX3_rank_23 : decode cX3_rank 23 = .ok (.iload_n 2, 1) := by decide +kernel
theorem dX3_rank_24 : decode cX3_rank 24 = .ok (.iastore, 1) := by decide +kernel
theorem dX3_rank_25 : decode cX3_rank 25 = .ok (.iload_n 3, 1) := by decide +kernel
theorem dX3_rank_26 : decode cX3_rank 26 = .ok (.ireturn, 1) := by decide +kernel
set_option maxRecDepth 20000 in
theorem ggX3_fight_X3_checkPlayer : GoodIn wsX3_fight wsX3_checkPlayer := goodIn_ca (goodIn_r _ [6, 7, 8] (by decide +kernel) (by decide +kernel)) (goodIn_sub (fun _ h => List.mem_cons_of_mem _ (List.mem_append_left _ (List.mem_append_right _ h))) (by decide +kernel))
set_option maxRecDepth 20000 in
theorem gX3_fight_X3_checkPlayer : GoodIn wsX3_fight (va_wsS RX3 54 yX3_checkPlayer wsX3_checkPlayer) := goodIn_app (goodIn_of _ (by decide +kernel)) ggX3_fight_X3_checkPlayer
set_option maxRecDepth 20000 in
theorem ggX3_fight_X3_checkCanBegin : GoodIn wsX3_fight wsX3_checkCanBegin := goodIn_ca (goodIn_r _ [12, 13, 14, 15, 16, 17, 18, 19, 20, 21, 22, 23, 24, 25, 26, 27, 28, 29, 30, 31, 32, 33, 34, 35, 36, 37, 38, 39, 40, 41, 42, 43, 44, 45, 46, 47, 116, 117, 118, 119, 120, 121, 122, 123, 124, 125, 126, 127, 128, 129, 130, 131, 132, 133, 134, 135, 136, 137, 138, 139, 140] (by decide +kernel) (by decide +kernel)) (goodIn_sub (fun _ h => List.mem_cons_of_mem _ (List.mem_append_right _ h)) (by decide +kernel))
set_option maxRecDepth 20000 in
theorem gX3_fight_X3_checkCanBegin : GoodIn wsX3_fight (wsV RX3 69 RX3 yX3_checkCanBegin wsX3_checkCanBegin) := goodIn_app (goodIn_of _ (by decide +kernel)) ggX3_fight_X3_checkCanBegin
set_option maxRecDepth 20000 in
theorem ggX3_fight_X3_begin : GoodIn wsX3_fight wsX3_begin := goodIn_r _ [51, 15, 52, 53, 44, 18, 19, 20, 21, 22, 23, 54, 55, 56, 57, 58, 59, 60, 46, 47, 61, 62, 63, 64, 65, 66, 67, 68, 40, 69, 70, 71, 72, 73, 74, 75, 76, 77, 78, 79, 80, 81, 82, 83, 84, 85, 86, 87, 88, 89, 90, 91, 92, 93, 94, 95, 96, 97, 98, 99, 100, 101, 102, 103, 104, 105, 106, 107, 108, 109, 110, 111, 112, 113, 114, 115, 116, 117, 118, 119, 120, 121, 122, 123, 124, 125, 126, 127, 128, 129, 130, 131, 132, 133, 134, 135, 136, 137, 138, 139, 140] (by decide +kernel) (by decide +kernel)
set_option maxRecDepth 20000 in
theorem gX3_fight_X3_begin : GoodIn wsX3_fight (wsV RX3 73 RX3 yX3_begin wsX3_begin) := goodIn_app (goodIn_of _ (by decide +kernel)) ggX3_fight_X3_begin
theorem dX3_fight_0 : decode cX3_fight 0 = .ok (.iload_n 1, 1) := by decide +kernel
theorem dX3_fight_1 : decode cX3_fight 1 = .ok (.invokestatic 54, 3) := by decide +kernel
theorem dX3_fight_4 : decode cX3_fight 4 = .ok (.iload_n 2, 1) := by decide +kernel
theorem dX3_fight_5 : decode cX3_fight 5 = .ok (.invokestatic 54, 3) := by decide +kernel
theorem dX3_fight_8 : decode cX3_fight 8 = .ok (.iload_n 1, 1) := by decide +kernel
theorem dX3_fight_9 : decode cX3_fight 9 = .ok (.iload_n 2, 1) := by decide +kernel
theorem dX3_fight_10 : decode cX3_fight 10 = .ok (.if_icmp .ne 13, 3) := by decide +kernel
theorem dX3_fight_13 : decode cX3_fight 13 = .ok (.new 62, 3) := by decide +kernel
theorem dX3_fight_16 : decode cX3_fight 16 = .ok (.dup, 1) := by decide +kernel
theorem dX3_fight_17 : decode cX3_fight 17 = .ok (.ldc 64, 2) := by decide +kernel
theorem dX3_fight_19 : decode cX3_fight 19 = .ok (.invokespecial 66, 3) := by decide +kernel
theorem dX3_fight_22 : decode cX3_fight 22 = .ok (.athrow, 1) := by decide +kernel
theorem dX3_fight_23 : decode cX3_fight 23 = .ok (.aload_n 0, 1) := by decide +kernel
theorem dX3_fight_24 : decode cX3_fight 24 = .ok (.iload_n 1, 1) := by decide +kernel
theorem dX3_fight_25 : decode cX3_fight 25 = .ok (.iload_n 2, 1) := by decide +kernel
theorem dX3_fight_26 : decode cX3_fight 26 = .ok (.invokevirtual 69, 3) := by decide +kernel
theorem dX3_fight_29 : decode cX3_fight 29 = .ok (.aload_n 0, 1) := by decide +kernel
theorem dX3_fight_30 : decode cX3_fight 30 = .ok (.iload_n 1, 1) := by decide +kernel
theorem dX3_fight_31 : decode cX3_fight 31 = .ok (.iload_n 2, 1) := by decide +kernel
theorem dX3_fight_32 : decode cX3_fight 32 = .ok (.invokevirtual 73, 3) := by decide +kernel
theorem dX3_fight_35 : decode cX3_fight 35 = .ok (.ireturn, 1) := by decide +kernel
set_option maxRecDepth 20000 in
theorem ggX3_end_X3_fightNumbered : GoodIn wsX3_end wsX3_fightNumbered := goodIn_ca (goodIn_r _ [11, 12, 13, 14, 15, 16, 17, 18, 19, 20, 21, 22, 23, 24, 25, 26, 27, 28, 29, 30, 31, 32, 33, 34, 35, 36, 37, 38, 55, 56, 57, 58, 59, 60, 61, 62, 63, 64, 65, 66, 67, 68, 69, 77, 78, 79] (by decide +kernel) (by decide +kernel)) (goodIn_sub (fun _ h => List.mem_cons_of_mem _ (List.mem_append_left _ (List.mem_append_right _ h))) (by decide +kernel))
set_option maxRecDepth 20000 in
theorem gX3_end_X3_fightNumbered : GoodIn wsX3_end (wsV RX3 77 RX3 yX3_fightNumbered wsX3_fightNumbered) := goodIn_app (goodIn_of _ (by decide +kernel)) ggX3_end_X3_fightNumbered
set_option maxRecDepth 20000 in
theorem ggX3_end_X3_checkGoesOn : GoodIn wsX3_end wsX3_checkGoesOn := goodIn_ca (goodIn_r _ [41, 42, 43, 4, 70, 71, 72, 73, 74, 75, 76] (by decide +kernel) (by decide +kernel)) (goodIn_sub (fun _ h => List.mem_cons_of_mem _ (List.mem_append_right _ h)) (by decide +kernel))
set_option maxRecDepth 20000 in
theorem gX3_end_X3_checkGoesOn : GoodIn wsX3_end (va_wsS RX3 81 yX3_checkGoesOn wsX3_checkGoesOn) := goodIn_app (goodIn_of _ (by decide +kernel)) ggX3_end_X3_checkGoesOn
set_option maxRecDepth 20000 in
theorem ggX3_end_X3_pointsUpTo : GoodIn wsX3_end wsX3_pointsUpTo := goodIn_r _ [47, 48, 49, 50, 51, 52, 53, 54, 16, 17, 18, 19, 20, 21, 22, 23, 24, 25, 26, 27, 28, 29, 30, 31, 32, 33, 34, 35, 36, 37, 38, 55, 56, 57, 58, 59, 60, 61, 62, 63, 64, 65, 66, 67, 68, 69, 80, 81, 82, 83, 84, 77, 78, 79] (by decide +kernel) (by decide +kernel)
set_option maxRecDepth 20000 in
theorem gX3_end_X3_pointsUpTo : GoodIn wsX3_end (wsV RX3 93 RX3 yX3_pointsUpTo wsX3_pointsUpTo) := goodIn_app (goodIn_of _ (by decide +kernel)) ggX3_end_X3_pointsUpTo
theorem dX3_end_0 : decode cX3_end 0 = .ok (.aload_n 0, 1) := by decide +kernel
theorem dX3_end_1 : decode cX3_end 1 = .ok (.iload_n 1, 1) := by decide +kernel
theorem dX3_end_2 : decode cX3_end 2 = .ok (.invokevirtual 77, 3) := by decide +kernel
theorem dX3_end_5 : decode cX3_end 5 = .ok (.astore_n 2, 1) := by decide +kernel
theorem dX3_end_6 : decode cX3_end 6 = .ok (.aload_n 2, 1) := by decide +kernel
theorem dX3_end_7 : decode cX3_end 7 = .ok (.invokestatic 81, 3) := by decide +kernel
theorem dX3_end_10 : decode cX3_end 10 = .ok (.aload_n 0, 1) := by decide +kernel
theorem dX3_end_11 : decode cX3_end 11 = .ok (.aload_n 0, 1) := by decide +kernel
theorem dX3_end_12 : decode cX3_end 12 = .ok (.getfield 85, 3) := by decide +kernel
theorem dX3_end_15 : decode cX3_end 15 = .ok (.aload_n 2, 1) := by decide +kernel
theorem dX3_end_16 : decode cX3_end 16 = .ok (.aload_n 2, 1) := by decide +kernel
theorem dX3_end_17 : decode cX3_end 17 = .ok (.getfield 88, 3) := by decide +kernel
theorem dX3_end_20 : decode cX3_end 20 = .ok (.invokevirtual 93, 3) := by decide +kernel
theorem dX3_end_23 : decode cX3_end 23 = .ok (.istore_n 3, 1) := by decide +kernel
theorem dX3_end_24 : decode cX3_end 24 = .ok (.aload_n 0, 1) := by decide +kernel
theorem dX3_end_25 : decode cX3_end 25 = .ok (.aload_n 0, 1) := by decide +kernel
theorem dX3_end_26 : decode cX3_end 26 = .ok (.getfield 85, 3) := by decide +kernel
theorem dX3_end_29 : decode cX3_end 29 = .ok (.aload_n 2, 1) := by decide +kernel
theorem dX3_end_30 : decode cX3_end 30 = .ok (.aload_n 2, 1) := by decide +kernel
theorem dX3_end_31 : decode cX3_end 31 = .ok (.getfield 97, 3) := by decide +kernel
theorem dX3_end_34 : decode cX3_end 34 = .ok (.invokevirtual 93, 3) := by decide +kernel
theorem dX3_end_37 : decode cX3_end 37 = .ok (.istore 4, 2) := by decide +kernel
theorem dX3_end_39 : decode cX3_end 39 = .ok (.aload_n 2, 1) := by decide +kernel
theorem dX3_end_40 : decode cX3_end 40 = .ok (.iconst 1, 1) := by decide +kernel
theorem dX3_end_41 : decode cX3_end 41 = .ok (.putfield 100, 3) := by decide +kernel
theorem dX3_end_44 : decode cX3_end 44 = .ok (.iload_n 3, 1) := by decide +kernel
theorem dX3_end_45 : decode cX3_end 45 = .ok (.iload 4, 2) := by decide +kernel
theorem dX3_end_47 : decode cX3_end 47 = .ok (.if_icmp .eq 37, 3) := by decide +kernel
theorem dX3_end_50 : decode cX3_end 50 = .ok (.aload_n 2, 1) := by decide +kernel
theorem dX3_end_51 : decode cX3_end 51 = .ok (.iload_n 3, 1) := by decide +kernel
theorem dX3_end_52 : decode cX3_end 52 = .ok (.iload 4, 2) := by decide +kernel
theorem dX3_end_54 : decode cX3_end 54 = .ok (.if_icmp .le 10, 3) := by decide +kernel
theorem dX3_end_57 : decode cX3_end 57 = .ok (.aload_n 2, 1) := by decide +kernel
theorem dX3_end_58 : decode cX3_end 58 = .ok (.getfield 88, 3) := by decide +kernel
theorem dX3_end_61 : decode cX3_end 61 = .ok (.goto 7, 3) := by decide +kernel
theorem dX3_end_64 : decode cX3_end 64 = .ok (.aload_n 2, 1) := by decide +kernel
theorem dX3_end_65 : decode cX3_end 65 = .ok (.getfield 97, 3) := by decide +kernel
theorem dX3_end_68 : decode cX3_end 68 = .ok (.putfield 103, 3) := by decide +kernel
theorem dX3_end_71 : decode cX3_end 71 = .ok (.aload_n 0, 1) := by decide +kernel
theorem dX3_end_72 : decode cX3_end 72 = .ok (.getfield 13, 3) := by decide +kernel
theorem dX3_end_75 : decode cX3_end 75 = .ok (.aload_n 2, 1) := by decide +kernel
theorem dX3_end_76 : decode cX3_end 76 = .ok (.getfield 103, 3) := by decide +kernel
theorem dX3_end_79 : decode cX3_end 79 = .ok (.dup2, 1) := by decide +kernel
theorem dX3_end_80 : decode cX3_end 80 = .ok (.iaload, 1) := by decide +kernel
theorem dX3_end_81 : decode cX3_end 81 = .ok (.iconst 1, 1) := by decide +kernel
theorem dX3_end_82 : decode cX3_end 82 = .ok (.iadd, 1) := by decide +kernel
theorem dX3_end_83 : decode cX3_end 83 = .ok (.iastore, 1) := by decide +kernel
theorem dX3_end_84 : decode cX3_end 84 = .ok (.aload_n 2, 1) := by decide +kernel
theorem dX3_end_85 : decode cX3_end 85 = .ok (.getfield 103, 3) := by decide +kernel
theorem dX3_end_88 : decode cX3_end 88 = .ok (.ireturn, 1) := by decide +kernel
set_option maxRecDepth 20000 in
theorem ggX3_replay_X3_fightNumbered : GoodIn wsX3_replay wsX3_fightNumbered := goodIn_ca (goodIn_r _ [12, 13, 14, 15, 16, 17, 18, 19, 20, 21, 22, 23, 24, 25, 26, 27, 28, 29, 30, 31, 32, 33, 34, 35, 36, 37, 38, 39, 143, 144, 145, 146, 147, 148, 149, 150, 151, 152, 153, 154, 155, 156, 157, 158, 159, 160] (by decide +kernel) (by decide +kernel)) (goodIn_sub (fun _ h => List.mem_cons_of_mem _ (List.mem_append_right _ h)) (by decide +kernel))
set_option maxRecDepth 20000 in
theorem gX3_replay_X3_fightNumbered : GoodIn wsX3_replay (wsV RX3 77 RX3 yX3_fightNumbered wsX3_fightNumbered) := goodIn_app (goodIn_of _ (by decide +kernel)) ggX3_replay_X3_fightNumbered
set_option maxRecDepth 20000 in
theorem ggX3_replay_X3_checkCanBegin : GoodIn wsX3_replay wsX3_checkCanBegin := goodIn_ca (goodIn_r _ [43, 1, 2, 15, 16, 3, 17, 18, 19, 20, 21, 22, 23, 24, 25, 26, 27, 28, 29, 30, 31, 32, 33, 34, 35, 36, 37, 38, 39, 44, 45, 46, 47, 48, 49, 50, 143, 144, 145, 146, 147, 148, 149, 150, 151, 152, 153, 154, 155, 156, 157, 136, 137, 138, 139, 140, 141, 142, 158, 159, 160] (by decide +kernel) (by decide +kernel)) (goodIn_sub (fun _ h => List.mem_cons_of_mem _ (List.mem_append_left _ (List.mem_append_right _ h))) (by decide +kernel))
set_option maxRecDepth 20000 in
theorem gX3_replay_X3_checkCanBegin : GoodIn wsX3_replay (wsV RX3 69 RX3 yX3_checkCanBegin wsX3_checkCanBegin) := goodIn_app (goodIn_of _ (by decide +kernel)) ggX3_replay_X3_checkCanBegin
set_option maxRecDepth 20000 in
theorem ggX3_replay_X3_strikeAllOf : GoodIn wsX3_replay wsX3_strikeAllOf := goodIn_r _ [54, 55, 56, 57, 58, 17, 18, 19, 20, 21, 22, 23, 24, 25, 26, 27, 28, 29, 30, 31, 32, 33, 34, 35, 36, 37, 38, 39, 143, 144, 145, 146, 147, 148, 149, 150, 151, 152, 153, 154, 155, 156, 157, 161, 162, 163, 164, 165, 158, 159, 160] (by decide +kernel) (by decide +kernel)
set_option maxRecDepth 20000 in
theorem gX3_replay_X3_strikeAllOf : GoodIn wsX3_replay (wsV RX3 111 RX3 yX3_strikeAllOf wsX3_strikeAllOf) := goodIn_app (goodIn_of _ (by decide +kernel)) ggX3_replay_X3_strikeAllOf
set_option maxRecDepth 20000 in
theorem ggX3_replay_X3_uncountFramesOf : GoodIn wsX3_replay wsX3_uncountFramesOf := goodIn_r _ [62, 63, 64, 65, 66, 67, 143, 144, 145, 146, 147, 148, 149, 150, 151, 152, 153, 154, 155, 156, 157, 136, 137, 138, 139, 140, 141, 142] (by decide +kernel) (by decide +kernel)
set_option maxRecDepth 20000 in
theorem gX3_replay_X3_uncountFramesOf : GoodIn wsX3_replay (wsV RX3 114 RX3 yX3_uncountFramesOf wsX3_uncountFramesOf) := goodIn_app (goodIn_of _ (by decide +kernel)) ggX3_replay_X3_uncountFramesOf
set_option maxRecDepth 20000 in
theorem ggX3_replay_X3_begin : GoodIn wsX3_replay wsX3_begin := goodIn_r _ [71, 15, 72, 73, 47, 17, 18, 19, 20, 21, 22, 74, 75, 76, 77, 78, 79, 80, 49, 50, 81, 82, 83, 84, 85, 86, 87, 88, 39, 89, 90, 91, 92, 93, 94, 95, 96, 97, 98, 99, 100, 101, 102, 103, 104, 105, 106, 107, 108, 109, 110, 111, 112, 113, 114, 115, 116, 117, 118, 119, 120, 121, 122, 123, 124, 125, 126, 127, 128, 129, 130, 131, 132, 133, 134, 135, 143, 144, 145, 146, 147, 148, 149, 150, 151, 152, 153, 154, 155, 156, 157, 136, 137, 138, 139, 140, 141, 142, 158, 159, 160] (by decide +kernel) (by decide +kernel)
set_option maxRecDepth 20000 in
theorem gX3_replay_X3_begin : GoodIn wsX3_replay (wsV RX3 73 RX3 yX3_begin wsX3_begin) := goodIn_app (goodIn_of _ (by decide +kernel)) ggX3_replay_X3_begin
theorem dX3_replay_0 : decode cX3_replay 0 = .ok (.aload_n 0, 1) := by decide +kernel
theorem dX3_replay_1 : decode cX3_replay 1 = .ok (.iload_n 1, 1) := by decide +kernel
theorem dX3_replay_2 : decode cX3_replay 2 = .ok (.invokevirtual 77, 3) := by decide +kernel
theorem dX3_replay_5 : decode cX3_replay 5 = .ok (.astore_n 2, 1) := by decide +kernel
theorem dX3_replay_6 : decode cX3_replay 6 = .ok (.aload_n 2, 1) := by decide +kernel
theorem dX3_replay_7 : decode cX3_replay 7 = .ok (.getfield 100, 3) := by decide +kernel
theorem dX3_replay_10 : decode cX3_replay 10 = .ok (.iconst 1, 1) := by decide +kernel
theorem dX3_replay_11 : decode cX3_replay 11 = .ok (.if_icmp .eq 13, 3) := by decide +kernel
theorem dX3_replay_14 : decode cX3_replay 14 = .ok (.new 106, 3) := by decide +kernel
theorem dX3_replay_17 : decode cX3_replay 17 = .ok (.dup, 1) := by decide +kernel
theorem dX3_replay_18 : decode cX3_replay 18 = .ok (.ldc 108, 2) := by decide +kernel
theorem dX3_replay_20 : decode cX3_replay 20 = .ok (.invokespecial 110, 3) := by decide +kernel
theorem dX3_replay_23 : decode cX3_replay 23 = .ok (.athrow, 1) := by decide +kernel
theorem dX3_replay_24 : decode cX3_replay 24 = .ok (.aload_n 0, 1) := by decide +kernel
theorem dX3_replay_25 : decode cX3_replay 25 = .ok (.aload_n 2, 1) := by decide +kernel
theorem dX3_replay_26 : decode cX3_replay 26 = .ok (.getfield 88, 3) := by decide +kernel
theorem dX3_replay_29 : decode cX3_replay 29 = .ok (.aload_n 2, 1) := by decide +kernel
theorem dX3_replay_30 : decode cX3_replay 30 = .ok (.getfield 97, 3) := by decide +kernel
theorem dX3_replay_33 : decode cX3_replay 33 = .ok (.invokevirtual 69, 3) := by decide +kernel
theorem dX3_replay_36 : decode cX3_replay 36 = .ok (.aload_n 2, 1) := by decide +kernel
theorem dX3_replay_37 : decode cX3_replay 37 = .ok (.getfield 103, 3) := by decide +kernel
theorem dX3_replay_40 : decode cX3_replay 40 = .ok (.iconst (-1), 1) := by decide +kernel
theorem dX3_replay_41 : decode cX3_replay 41 = .ok (.if_icmp .eq 21, 3) := by decide +kernel
theorem dX3_replay_44 : decode cX3_replay 44 = .ok (.aload_n 0, 1) := by decide +kernel
theorem dX3_replay_45 : decode cX3_replay 45 = .ok (.getfield 13, 3) := by decide +kernel
theorem dX3_replay_48 : decode cX3_replay 48 = .ok (.aload_n 2, 1) := by decide +kernel
theorem dX3_replay_49 : decode cX3_replay 49 = .ok (.getfield 103, 3) := by decide +kernel
theorem dX3_replay_52 : decode cX3_replay 52 = .ok (.dup2, 1) := by decide +kernel
theorem dX3_replay_53 : decode cX3_replay 53 = .ok (.iaload, 1) := by decide +kernel
theorem dX3_replay_54 : decode cX3_replay 54 = .ok (.iconst 1, 1) := by decide +kernel
theorem dX3_replay_55 : decode cX3_replay 55 = .ok (.isub, 1) := by decide +kernel
theorem dX3_replay_56 : decode cX3_replay 56 = .ok (.iastore, 1) := by decide +kernel
theorem dX3_replay_57 : decode cX3_replay 57 = .ok (.aload_n 2, 1) := by decide +kernel
theorem dX3_replay_58 : decode cX3_replay 58 = .ok (.iconst (-1), 1) := by decide +kernel
theorem dX3_replay_59 : decode cX3_replay 59 = .ok (.putfield 103, 3) := by decide +kernel
theorem dX3_replay_62 : decode cX3_replay 62 = .ok (.aload_n 2, 1) := by decide +kernel
theorem dX3_replay_63 : decode cX3_replay 63 = .ok (.iconst 2, 1) := by decide +kernel
theorem dX3_replay_64 : decode cX3_replay 64 = .ok (.putfield 100, 3) := by decide +kernel
theorem dX3_replay_67 : decode cX3_replay 67 = .ok (.aload_n 0, 1) := by decide +kernel
theorem dX3_replay_68 : decode cX3_replay 68 = .ok (.aload_n 2, 1) := by decide +kernel
theorem dX3_replay_69 : decode cX3_replay 69 = .ok (.invokevirtual 111, 3) := by decide +kernel
theorem dX3_replay_72 : decode cX3_replay 72 = .ok (.aload_n 0, 1) := by decide +kernel
theorem dX3_replay_73 : decode cX3_replay 73 = .ok (.aload_n 2, 1) := by decide +kernel
theorem dX3_replay_74 : decode cX3_replay 74 = .ok (.invokevirtual 114, 3) := by decide +kernel
theorem dX3_replay_77 : decode cX3_replay 77 = .ok (.aload_n 0, 1) := by decide +kernel
theorem dX3_replay_78 : decode cX3_replay 78 = .ok (.aload_n 2, 1) := by decide +kernel
theorem dX3_replay_79 : decode cX3_replay 79 = .ok (.getfield 88, 3) := by decide +kernel
theorem dX3_replay_82 : decode cX3_replay 82 = .ok (.aload_n 2, 1) := by decide +kernel
theorem dX3_replay_83 : decode cX3_replay 83 = .ok (.getfield 97, 3) := by decide +kernel
theorem dX3_replay_86 : decode cX3_replay 86 = .ok (.invokevirtual 73, 3) := by decide +kernel
theorem dX3_replay_89 : decode cX3_replay 89 = .ok (.ireturn, 1) := by decide +kernel
set_option maxRecDepth 20000 in
theorem ggX3_camera_X3_checkRange : GoodIn wsX3_camera wsX3_checkRange := goodIn_ca (goodIn_r _ [10, 11, 12] (by decide +kernel) (by decide +kernel)) (goodIn_sub (fun _ h => List.mem_cons_of_mem _ (List.mem_append_right _ h)) (by decide +kernel))
set_option maxRecDepth 20000 in
theorem gX3_camera_X3_checkRange : GoodIn wsX3_camera (va_wsS RX3 58 yX3_checkRange wsX3_checkRange) := goodIn_app (goodIn_of _ (by decide +kernel)) ggX3_camera_X3_checkRange
set_option maxRecDepth 20000 in
theorem ggX3_camera_Jx4a65c_size_8abf5 : GoodIn wsX3_camera wsJx4a65c_size_8abf5 := goodIn_r _ [17, 18, 100, 101, 102] (by decide +kernel) (by decide +kernel)
set_option maxRecDepth 20000 in
theorem gX3_camera_Jx4a65c_size_8abf5 : GoodIn wsX3_camera (wsV RX3 117 RJx4a65c yJx4a65c_size_8abf5 wsJx4a65c_size_8abf5) := goodIn_app (goodIn_of _ (by decide +kernel)) ggX3_camera_Jx4a65c_size_8abf5
set_option maxRecDepth 20000 in
theorem ggX3_camera_X0_init : GoodIn wsX3_camera wsX0_init := goodIn_r _ [21, 22, 23, 24, 25, 26, 96, 97, 98, 99] (by decide +kernel) (by decide +kernel)
set_option maxRecDepth 20000 in
theorem gX3_camera_X0_init : GoodIn wsX3_camera (wsX0_init) := ggX3_camera_X0_init
set_option maxRecDepth 20000 in
theorem ggX3_camera_Jx4a65c_add_9ea2d : GoodIn wsX3_camera wsJx4a65c_add_9ea2d := goodIn_r _ [30, 31, 32, 33, 18, 34, 35, 36, 16, 37, 38, 39, 40, 41, 42, 43, 44, 45, 46, 47, 48, 49, 50, 51, 52, 53, 54, 55, 56, 57, 58, 59, 60, 61, 62, 63, 64, 65, 66, 67, 68, 69, 70, 71, 72, 73, 74, 75, 76, 77, 78, 79, 80, 100, 101, 102] (by decide +kernel) (by decide +kernel)
set_option maxRecDepth 20000 in
theorem gX3_camera_Jx4a65c_add_9ea2d : GoodIn wsX3_camera (wsV RX3 127 RJx4a65c yJx4a65c_add_9ea2d wsJx4a65c_add_9ea2d) := goodIn_app (goodIn_of _ (by decide +kernel)) ggX3_camera_Jx4a65c_add_9ea2d
theorem dX3_camera_0 : decode cX3_camera 0 = .ok (.iload_n 1, 1) := by decide +kernel
theorem dX3_camera_1 : decode cX3_camera 1 = .ok (.iconst 1, 1) := by decide +kernel
theorem dX3_camera_2 : decode cX3_camera 2 = .ok (.bipush 60, 2) := by decide +kernel
theorem dX3_camera_4 : decode cX3_camera 4 = .ok (.invokestatic 58, 3) := by decide +kernel
theorem dX3_camera_7 : decode cX3_camera 7 = .ok (.iload_n 2, 1) := by decide +kernel
theorem dX3_camera_8 : decode cX3_camera 8 = .ok (.iconst 0, 1) := by decide +kernel
theorem dX3_camera_9 : decode cX3_camera 9 = .ok (.bipush 60, 2) := by decide +kernel
theorem dX3_camera_11 : decode cX3_camera 11 = .ok (.invokestatic 58, 3) := by decide +kernel
theorem dX3_camera_14 : decode cX3_camera 14 = .ok (.aload_n 0, 1) := by decide +kernel
theorem dX3_camera_15 : decode cX3_camera 15 = .ok (.getfield 23, 3) := by decide +kernel
theorem dX3_camera_18 : decode cX3_camera 18 = .ok (.invokevirtual 117, 3) := by decide +kernel
theorem dX3_camera_21 : decode cX3_camera 21 = .ok (.bipush 6, 2) := by decide +kernel
theorem dX3_camera_23 : decode cX3_camera 23 = .ok (.if_icmp .lt 13, 3) := by decide +kernel
theorem dX3_camera_26 : decode cX3_camera 26 = .ok (.new 106, 3) := by decide +kernel
theorem dX3_camera_29 : decode cX3_camera 29 = .ok (.dup, 1) := by decide +kernel
theorem dX3_camera_30 : decode cX3_camera 30 = .ok (.ldc 121, 2) := by decide +kernel
theorem dX3_camera_32 : decode cX3_camera 32 = .ok (.invokespecial 110, 3) := by decide +kernel
theorem dX3_camera_35 : decode cX3_camera 35 = .ok (.athrow, 1) := by decide +kernel
theorem dX3_camera_36 : decode cX3_camera 36 = .ok (.aload_n 0, 1) := by decide +kernel
theorem dX3_camera_37 : decode cX3_camera 37 = .ok (.getfield 23, 3) := by decide +kernel
theorem dX3_camera_40 : decode cX3_camera 40 = .ok (.new 123, 3) := by decide +kernel
theorem dX3_camera_43 : decode cX3_camera 43 = .ok (.dup, 1) := by decide +kernel
theorem dX3_camera_44 : decode cX3_camera 44 = .ok (.iload_n 1, 1) := by decide +kernel
theorem dX3_camera_45 : decode cX3_camera 45 = .ok (.iload_n 2, 1) := by decide +kernel
theorem dX3_camera_46 : decode cX3_camera 46 = .ok (.invokespecial 125, 3) := by decide +kernel
theorem dX3_camera_49 : decode cX3_camera 49 = .ok (.invokevirtual 127, 3) := by decide +kernel
theorem dX3_camera_52 : decode cX3_camera 52 = .ok (.pop, 1) := by decide +kernel
theorem dX3_camera_53 : decode cX3_camera 53 = .ok (.aload_n 0, 1) := by decide +kernel
theorem dX3_camera_54 : decode cX3_camera 54 = .ok (.getfield 23, 3) := by decide +kernel
theorem dX3_camera_57 : decode cX3_camera 57 = .ok (.invokevirtual 117, 3) := by decide +kernel
theorem dX3_camera_60 : decode cX3_camera 60 = .ok (.iconst 1, 1) := by decide +kernel
theorem dX3_camera_61 : decode cX3_camera 61 = .ok (.isub, 1) := by decide +kernel
theorem dX3_camera_62 : decode cX3_camera 62 = .ok (.ireturn, 1) := by decide +kernel
set_option maxRecDepth 20000 in
theorem ggX3_delay_X3_checkRange : GoodIn wsX3_delay wsX3_checkRange := goodIn_ca (goodIn_r _ [5, 6, 7] (by decide +kernel) (by decide +kernel)) (goodIn_sub (fun _ h => List.mem_cons_of_mem _ (List.mem_append_right _ h)) (by decide +kernel))
set_option maxRecDepth 20000 in
theorem gX3_delay_X3_checkRange : GoodIn wsX3_delay (va_wsS RX3 58 yX3_checkRange wsX3_checkRange) := goodIn_app (goodIn_of _ (by decide +kernel)) ggX3_delay_X3_checkRange
set_option maxRecDepth 20000 in
theorem ggX3_delay_X3_letViewersSee : GoodIn wsX3_delay wsX3_letViewersSee := goodIn_r _ [11, 12, 13, 1, 14, 15, 16, 17, 18, 19, 20, 21, 22, 23, 24, 25, 26, 27, 28, 29, 30, 31, 32] (by decide +kernel) (by decide +kernel)
set_option maxRecDepth 20000 in
theorem gX3_delay_X3_letViewersSee : GoodIn wsX3_delay (wsV RX3 131 RX3 yX3_letViewersSee wsX3_letViewersSee) := goodIn_app (goodIn_of _ (by decide +kernel)) ggX3_delay_X3_letViewersSee
theorem dX3_delay_0 : decode cX3_delay 0 = .ok (.iload_n 1, 1) := by decide +kernel
theorem dX3_delay_1 : decode cX3_delay 1 = .ok (.iconst 0, 1) := by decide +kernel
theorem dX3_delay_2 : decode cX3_delay 2 = .ok (.bipush 100, 2) := by decide +kernel
theorem dX3_delay_4 : decode cX3_delay 4 = .ok (.invokestatic 58, 3) := by decide +kernel
theorem dX3_delay_7 : decode cX3_delay 7 = .ok (.aload_n 0, 1) := by decide +kernel
theorem dX3_delay_8 : decode cX3_delay 8 = .ok (.getfield 38, 3) := by decide +kernel
theorem dX3_delay_11 : decode cX3_delay 11 = .ok (.istore_n 2, 1) := by decide +kernel
theorem dX3_delay_12 : decode cX3_delay 12 = .ok (.aload_n 0, 1) := by decide +kernel
theorem dX3_delay_13 : decode cX3_delay 13 = .ok (.iload_n 1, 1) := by decide +kernel
theorem dX3_delay_14 : decode cX3_delay 14 = .ok (.putfield 38, 3) := by decide +kernel
theorem dX3_delay_17 : decode cX3_delay 17 = .ok (.aload_n 0, 1) := by decide +kernel
theorem dX3_delay_18 : decode cX3_delay 18 = .ok (.invokevirtual 131, 3) := by decide +kernel
theorem dX3_delay_21 : decode cX3_delay 21 = .ok (.iload_n 2, 1) := by decide +kernel
theorem dX3_delay_22 : decode cX3_delay 22 = .ok (.ireturn, 1) := by decide +kernel
set_option maxRecDepth 20000 in
theorem ggX3_pass_X3_checkRange : GoodIn wsX3_pass wsX3_checkRange := goodIn_ca (goodIn_r _ [7, 8, 9] (by decide +kernel) (by decide +kernel)) (goodIn_sub (fun _ h => List.mem_cons_of_mem _ (List.mem_append_right _ h)) (by decide +kernel))
set_option maxRecDepth 20000 in
theorem gX3_pass_X3_checkRange : GoodIn wsX3_pass (va_wsS RX3 58 yX3_checkRange wsX3_checkRange) := goodIn_app (goodIn_of _ (by decide +kernel)) ggX3_pass_X3_checkRange
set_option maxRecDepth 20000 in
theorem ggX3_pass_X3_passOne : GoodIn wsX3_pass wsX3_passOne := goodIn_r _ [13, 14, 3, 15, 16, 17, 18, 19, 20, 21, 6, 22, 23, 24, 25, 26, 27, 28, 29, 30, 31, 32, 33, 34, 35, 36, 37, 38, 39, 40, 41, 42, 43, 44, 45, 46, 47, 48, 49, 50, 51, 52, 53, 54, 55, 56, 57, 58, 59, 60, 61, 62, 63, 64, 65, 66, 67, 68, 69, 70, 71, 72, 73, 74, 75, 76, 77, 78, 79, 80, 81, 82, 83, 84, 85, 86, 87, 88, 89, 90, 91, 92, 93, 94, 95, 96, 97, 98, 99, 100, 101, 102, 103, 104, 105, 106, 107, 108, 109, 110, 111, 112, 113, 114, 115, 116, 117, 118, 119, 120, 121, 122, 123, 124, 125, 126, 127, 128, 129, 130, 131, 132, 133, 134, 135, 136, 137, 138, 139, 140, 141, 142, 143, 144, 145, 146, 147, 148, 149, 150, 151, 152, 153, 154, 155, 156, 157, 158, 159] (by decide +kernel) (by decide +kernel)
set_option maxRecDepth 20000 in
theorem gX3_pass_X3_passOne : GoodIn wsX3_pass (wsV RX3 136 RX3 yX3_passOne wsX3_passOne) := goodIn_app (goodIn_of _ (by decide +kernel)) ggX3_pass_X3_passOne
theorem dX3_pass_0 : decode cX3_pass 0 = .ok (.iload_n 1, 1) := by decide +kernel
theorem dX3_pass_1 : decode cX3_pass 1 = .ok (.iconst 1, 1) := by decide +kernel
theorem dX3_pass_2 : decode cX3_pass 2 = .ok (.sipush 200, 3) := by decide +kernel
theorem dX3_pass_5 : decode cX3_pass 5 = .ok (.invokestatic 58, 3) := by decide +kernel
theorem dX3_pass_8 : decode cX3_pass 8 = .ok (.aload_n 0, 1) := by decide +kernel
theorem dX3_pass_9 : decode cX3_pass 9 = .ok (.getfield 85, 3) := by decide +kernel
theorem dX3_pass_12 : decode cX3_pass 12 = .ok (.iload_n 1, 1) := by decide +kernel
theorem dX3_pass_13 : decode cX3_pass 13 = .ok (.iadd, 1) := by decide +kernel
theorem dX3_pass_14 : decode cX3_pass 14 = .ok (.sipush 3000, 3) := by decide +kernel
theorem dX3_pass_17 : decode cX3_pass 17 = .ok (.if_icmp .le 13, 3) := by decide +kernel
theorem dX3_pass_20 : decode cX3_pass 20 = .ok (.new 106, 3) := by decide +kernel
theorem dX3_pass_23 : decode cX3_pass 23 = .ok (.dup, 1) := by decide +kernel
theorem dX3_pass_24 : decode cX3_pass 24 = .ok (.ldc 134, 2) := by decide +kernel
theorem dX3_pass_26 : decode cX3_pass 26 = .ok (.invokespecial 110, 3) := by decide +kernel
theorem dX3_pass_29 : decode cX3_pass 29 = .ok (.athrow, 1) := by decide +kernel
theorem dX3_pass_30 : decode cX3_pass 30 = .ok (.iconst 0, 1) := by decide +kernel
theorem dX3_pass_31 : decode cX3_pass 31 = .ok (.istore_n 2, 1) := by decide +kernel
theorem dX3_pass_32 : decode cX3_pass 32 = .ok (.iload_n 2, 1) := by decide +kernel
theorem dX3_pass_33 : decode cX3_pass 33 = .ok (.iload_n 1, 1) := by decide +kernel
theorem dX3_pass_34 : decode cX3_pass 34 = .ok (.if_icmp .ge 13, 3) := by decide +kernel
theorem dX3_pass_37 : decode cX3_pass 37 = .ok (.aload_n 0, 1) := by decide +kernel
theorem dX3_pass_38 : decode cX3_pass 38 = .ok (.invokevirtual 136, 3) := by decide +kernel
theorem dX3_pass_41 : decode cX3_pass 41 = .ok (.iinc 2 1, 3) := by decide +kernel
theorem dX3_pass_44 : decode cX3_pass 44 = .ok (.goto (-12), 3) := by decide +kernel
theorem dX3_pass_47 : decode cX3_pass 47 = .ok (.aload_n 0, 1) := by decide +kernel
theorem dX3_pass_48 : decode cX3_pass 48 = .ok (.getfield 85, 3) := by decide +kernel
theorem dX3_pass_51 : decode cX3_pass 51 = .ok (.ireturn, 1) := by decide +kernel
set_option maxRecDepth 20000 in
theorem ggX3_blow_X3_fightNumbered : GoodIn wsX3_blow wsX3_fightNumbered := goodIn_ca (goodIn_r _ [14, 15, 16, 17, 18, 19, 20, 21, 22, 23, 24, 25, 26, 27, 28, 29, 30, 31, 32, 33, 34, 35, 36, 37, 38, 39, 40, 41, 127, 128, 129, 130, 131, 132, 133, 134, 135, 136, 137, 138, 139, 140, 141, 147, 148, 149] (by decide +kernel) (by decide +kernel)) (goodIn_sub (fun _ h => List.mem_cons_of_mem _ (List.mem_append_right _ h)) (by decide +kernel))
set_option maxRecDepth 20000 in
theorem gX3_blow_X3_fightNumbered : GoodIn wsX3_blow (wsV RX3 77 RX3 yX3_fightNumbered wsX3_fightNumbered) := goodIn_app (goodIn_of _ (by decide +kernel)) ggX3_blow_X3_fightNumbered
set_option maxRecDepth 20000 in
theorem ggX3_blow_X3_checkPlayer : GoodIn wsX3_blow wsX3_checkPlayer := goodIn_ca (goodIn_r _ [44, 15, 16] (by decide +kernel) (by decide +kernel)) (goodIn_sub (fun _ h => List.mem_cons_of_mem _ (List.mem_append_right _ h)) (by decide +kernel))
set_option maxRecDepth 20000 in
theorem gX3_blow_X3_checkPlayer : GoodIn wsX3_blow (va_wsS RX3 54 yX3_checkPlayer wsX3_checkPlayer) := goodIn_app (goodIn_of _ (by decide +kernel)) ggX3_blow_X3_checkPlayer
set_option maxRecDepth 20000 in
theorem ggX3_blow_X3_checkRange : GoodIn wsX3_blow wsX3_checkRange := goodIn_ca (goodIn_r _ [47, 1, 2] (by decide +kernel) (by decide +kernel)) (goodIn_sub (fun _ h => List.mem_cons_of_mem _ (List.mem_append_left _ (List.mem_append_left _ (List.mem_append_right _ h)))) (by decide +kernel))
set_option maxRecDepth 20000 in
theorem gX3_blow_X3_checkRange : GoodIn wsX3_blow (va_wsS RX3 58 yX3_checkRange wsX3_checkRange) := goodIn_app (goodIn_of _ (by decide +kernel)) ggX3_blow_X3_checkRange
set_option maxRecDepth 20000 in
theorem ggX3_blow_X2_isOf : GoodIn wsX3_blow wsX2_isOf := goodIn_r _ [52, 53, 54, 150, 151, 152, 153, 154, 155, 156] (by decide +kernel) (by decide +kernel)
set_option maxRecDepth 20000 in
theorem gX3_blow_X2_isOf : GoodIn wsX3_blow (wsV RX3 139 RX2 yX2_isOf wsX2_isOf) := goodIn_app (goodIn_of _ (by decide +kernel)) ggX3_blow_X2_isOf
set_option maxRecDepth 20000 in
theorem ggX3_blow_X3_checkGoesOn : GoodIn wsX3_blow wsX3_checkGoesOn := goodIn_ca (goodIn_r _ [57, 3, 4, 58, 150, 151, 152, 153, 154, 155, 156] (by decide +kernel) (by decide +kernel)) (goodIn_sub (fun _ h => List.mem_cons_of_mem _ (List.mem_append_left _ (List.mem_append_right _ h))) (by decide +kernel))
set_option maxRecDepth 20000 in
theorem gX3_blow_X3_checkGoesOn : GoodIn wsX3_blow (va_wsS RX3 81 yX3_checkGoesOn wsX3_checkGoesOn) := goodIn_app (goodIn_of _ (by decide +kernel)) ggX3_blow_X3_checkGoesOn
set_option maxRecDepth 20000 in
theorem ggX3_blow_Jx4a65c_size_8abf5 : GoodIn wsX3_blow wsJx4a65c_size_8abf5 := goodIn_r _ [23, 24, 147, 148, 149] (by decide +kernel) (by decide +kernel)
set_option maxRecDepth 20000 in
theorem gX3_blow_Jx4a65c_size_8abf5 : GoodIn wsX3_blow (wsV RX3 117 RJx4a65c yJx4a65c_size_8abf5 wsJx4a65c_size_8abf5) := goodIn_app (goodIn_of _ (by decide +kernel)) ggX3_blow_Jx4a65c_size_8abf5
set_option maxRecDepth 20000 in
theorem ggX3_blow_X2_heatUp : GoodIn wsX3_blow wsX2_heatUp := goodIn_r _ [62, 63, 150, 151, 152, 153, 154, 155, 156] (by decide +kernel) (by decide +kernel)
set_option maxRecDepth 20000 in
theorem gX3_blow_X2_heatUp : GoodIn wsX3_blow (wsV RX3 147 RX2 yX2_heatUp wsX2_heatUp) := goodIn_app (goodIn_of _ (by decide +kernel)) ggX3_blow_X2_heatUp
set_option maxRecDepth 20000 in
theorem ggX3_blow_X1_init : GoodIn wsX3_blow wsX1_init := goodIn_r _ [66, 67, 68, 69, 70, 71, 72, 73, 142, 143, 144, 145, 146] (by decide +kernel) (by decide +kernel)
set_option maxRecDepth 20000 in
theorem gX3_blow_X1_init : GoodIn wsX3_blow (wsX1_init) := ggX3_blow_X1_init
set_option maxRecDepth 20000 in
theorem ggX3_blow_Jx4a65c_add_9ea2d : GoodIn wsX3_blow wsJx4a65c_add_9ea2d := goodIn_r _ [77, 78, 79, 41, 24, 80, 81, 82, 22, 83, 84, 85, 86, 87, 88, 89, 90, 91, 92, 93, 94, 95, 96, 97, 98, 99, 100, 101, 102, 103, 104, 105, 106, 107, 108, 109, 110, 111, 112, 113, 114, 115, 116, 117, 118, 119, 120, 121, 122, 123, 124, 125, 126, 147, 148, 149] (by decide +kernel) (by decide +kernel)
set_option maxRecDepth 20000 in
theorem gX3_blow_Jx4a65c_add_9ea2d : GoodIn wsX3_blow (wsV RX3 127 RJx4a65c yJx4a65c_add_9ea2d wsJx4a65c_add_9ea2d) := goodIn_app (goodIn_of _ (by decide +kernel)) ggX3_blow_Jx4a65c_add_9ea2d
theorem dX3_blow_0 : decode cX3_blow 0 = .ok (.aload_n 0, 1) := by decide +kernel
theorem dX3_blow_1 : decode cX3_blow 1 = .ok (.iload_n 1, 1) := by decide +kernel
theorem dX3_blow_2 : decode cX3_blow 2 = .ok (.invokevirtual 77, 3) := by decide +kernel
theorem dX3_blow_5 : decode cX3_blow 5 = .ok (.astore 4, 2) := by decide +kernel
theorem dX3_blow_7 : decode cX3_blow 7 = .ok (.iload_n 2, 1) := by decide +kernel
theorem dX3_blow_8 : decode cX3_blow 8 = .ok (.invokestatic 54, 3) := by decide +kernel
theorem dX3_blow_11 : decode cX3_blow 11 = .ok (.iload_n 3, 1) := by decide +kernel
theorem dX3_blow_12 : decode cX3_blow 12 = .ok (.iconst 1, 1) := by decide +kernel
theorem dX3_blow_13 : decode cX3_blow 13 = .ok (.bipush 9, 2) := by decide +kernel
theorem dX3_blow_15 : decode cX3_blow 15 = .ok (.invokestatic 58, 3) := by decide +kernel
theorem dX3_blow_18 : decode cX3_blow 18 = .ok (.aload 4, 2) := by decide +kernel
theorem dX3_blow_20 : decode cX3_blow 20 = .ok (.iload_n 2, 1) := by decide +kernel
theorem dX3_blow_21 : decode cX3_blow 21 = .ok (.invokevirtual 139, 3) := by decide +kernel
theorem dX3_blow_24 : decode cX3_blow 24 = .ok (.ifCond .ne 13, 3) := by decide +kernel
theorem dX3_blow_27 : decode cX3_blow 27 = .ok (.new 62, 3) := by decide +kernel
theorem dX3_blow_30 : decode cX3_blow 30 = .ok (.dup, 1) := by decide +kernel
theorem dX3_blow_31 : decode cX3_blow 31 = .ok (.ldc 143, 2) := by decide +kernel
theorem dX3_blow_33 : decode cX3_blow 33 = .ok (.invokespecial 66, 3) := by decide +kernel
theorem dX3_blow_36 : decode cX3_blow 36 = .ok (.athrow, 1) := by decide +kernel
theorem dX3_blow_37 : decode cX3_blow 37 = .ok (.aload 4, 2) := by decide +kernel
theorem dX3_blow_39 : decode cX3_blow 39 = .ok (.invokestatic 81, 3) := by decide +kernel
theorem dX3_blow_42 : decode cX3_blow 42 = .ok (.aload_n 0, 1) := by decide +kernel
theorem dX3_blow_43 : decode cX3_blow 43 = .ok (.getfield 26, 3) := by decide +kernel
theorem dX3_blow_46 : decode cX3_blow 46 = .ok (.invokevirtual 117, 3) := by decide +kernel
theorem dX3_blow_49 : decode cX3_blow 49 = .ok (.bipush 80, 2) := by decide +kernel
theorem dX3_blow_51 : decode cX3_blow 51 = .ok (.if_icmp .lt 13, 3) := by decide +kernel
theorem dX3_blow_54 : decode cX3_blow 54 = .ok (.new 106, 3) := by decide +kernel
theorem dX3_blow_57 : decode cX3_blow 57 = .ok (.dup, 1) := by decide +kernel
theorem dX3_blow_58 : decode cX3_blow 58 = .ok (.ldc 145, 2) := by decide +kernel
theorem dX3_blow_60 : decode cX3_blow 60 = .ok (.invokespecial 110, 3) := by decide +kernel
theorem dX3_blow_63 : decode cX3_blow 63 = .ok (.athrow, 1) := by decide +kernel
theorem dX3_blow_64 : decode cX3_blow 64 = .ok (.aload 4, 2) := by decide +kernel
theorem dX3_blow_66 : decode cX3_blow 66 = .ok (.invokevirtual 147, 3) := by decide +kernel
theorem dX3_blow_69 : decode cX3_blow 69 = .ok (.aload_n 0, 1) := by decide +kernel
theorem dX3_blow_70 : decode cX3_blow 70 = .ok (.getfield 26, 3) := by decide +kernel
theorem dX3_blow_73 : decode cX3_blow 73 = .ok (.new 150, 3) := by decide +kernel
theorem dX3_blow_76 : decode cX3_blow 76 = .ok (.dup, 1) := by decide +kernel
theorem dX3_blow_77 : decode cX3_blow 77 = .ok (.aload 4, 2) := by decide +kernel
theorem dX3_blow_79 : decode cX3_blow 79 = .ok (.iload_n 2, 1) := by decide +kernel
theorem dX3_blow_80 : decode cX3_blow 80 = .ok (.aload_n 0, 1) := by decide +kernel
theorem dX3_blow_81 : decode cX3_blow 81 = .ok (.getfield 85, 3) := by decide +kernel
theorem dX3_blow_84 : decode cX3_blow 84 = .ok (.iload_n 3, 1) := by decide +kernel
theorem dX3_blow_85 : decode cX3_blow 85 = .ok (.invokespecial 152, 3) := by decide +kernel
theorem dX3_blow_88 : decode cX3_blow 88 = .ok (.invokevirtual 127, 3) := by decide +kernel
theorem dX3_blow_91 : decode cX3_blow 91 = .ok (.pop, 1) := by decide +kernel
theorem dX3_blow_92 : decode cX3_blow 92 = .ok (.aload_n 0, 1) := by decide +kernel
theorem dX3_blow_93 : decode cX3_blow 93 = .ok (.getfield 26, 3) := by decide +kernel
theorem dX3_blow_96 : decode cX3_blow 96 = .ok (.invokevirtual 117, 3) := by decide +kernel
theorem dX3_blow_99 : decode cX3_blow 99 = .ok (.iconst 1, 1) := by decide +kernel
theorem dX3_blow_100 : decode cX3_blow 100 = .ok (.isub, 1) := by decide +kernel
theorem dX3_blow_101 : decode cX3_blow 101 = .ok (.ireturn, 1) := by decide +kernel
set_option maxRecDepth 20000 in
theorem ggX3_strike_X3_entryNumbered : GoodIn wsX3_strike wsX3_entryNumbered := goodIn_ca (goodIn_r _ [7, 8, 9, 10, 11, 12, 13, 14, 15, 16, 17, 18, 19, 20, 21, 22, 23, 24, 25, 26, 27, 28, 29, 30, 31, 32, 33, 34, 53, 54, 55, 56, 57, 58, 59, 60, 61, 62, 63, 64, 65, 66, 67, 68, 69, 70] (by decide +kernel) (by decide +kernel)) (goodIn_sub (fun _ h => List.mem_cons_of_mem _ (List.mem_append_left _ (List.mem_append_right _ h))) (by decide +kernel))
set_option maxRecDepth 20000 in
theorem gX3_strike_X3_entryNumbered : GoodIn wsX3_strike (wsV RX3 155 RX3 yX3_entryNumbered wsX3_entryNumbered) := goodIn_app (goodIn_of _ (by decide +kernel)) ggX3_strike_X3_entryNumbered
set_option maxRecDepth 20000 in
theorem ggX3_strike_X3_checkCanBeCorrected : GoodIn wsX3_strike wsX3_checkCanBeCorrected := goodIn_ca (goodIn_r _ [37, 38, 39, 40, 41, 42, 43, 44, 45, 46, 47, 48, 49, 50, 51, 52, 71, 72, 73, 74, 75, 76, 77] (by decide +kernel) (by decide +kernel)) (goodIn_sub (fun _ h => List.mem_cons_of_mem _ (List.mem_append_right _ h)) (by decide +kernel))
set_option maxRecDepth 20000 in
theorem gX3_strike_X3_checkCanBeCorrected : GoodIn wsX3_strike (va_wsS RX3 159 yX3_checkCanBeCorrected wsX3_checkCanBeCorrected) := goodIn_app (goodIn_of _ (by decide +kernel)) ggX3_strike_X3_checkCanBeCorrected
theorem dX3_strike_0 : decode cX3_strike 0 = .ok (.aload_n 0, 1) := by decide +kernel
theorem dX3_strike_1 : decode cX3_strike 1 = .ok (.iload_n 1, 1) := by decide +kernel
theorem dX3_strike_2 : decode cX3_strike 2 = .ok (.invokevirtual 155, 3) := by decide +kernel
theorem dX3_strike_5 : decode cX3_strike 5 = .ok (.astore_n 2, 1) := by decide +kernel
theorem dX3_strike_6 : decode cX3_strike 6 = .ok (.aload_n 2, 1) := by decide +kernel
theorem dX3_strike_7 : decode cX3_strike 7 = .ok (.invokestatic 159, 3) := by decide +kernel
theorem dX3_strike_10 : decode cX3_strike 10 = .ok (.aload_n 2, 1) := by decide +kernel
theorem dX3_strike_11 : decode cX3_strike 11 = .ok (.iconst 1, 1) := by decide +kernel
theorem dX3_strike_12 : decode cX3_strike 12 = .ok (.putfield 163, 3) := by decide +kernel
theorem dX3_strike_15 : decode cX3_strike 15 = .ok (.aload_n 2, 1) := by decide +kernel
theorem dX3_strike_16 : decode cX3_strike 16 = .ok (.getfield 167, 3) := by decide +kernel
theorem dX3_strike_19 : decode cX3_strike 19 = .ok (.ireturn, 1) := by decide +kernel
set_option maxRecDepth 20000 in
theorem ggX3_mend_X3_entryNumbered : GoodIn wsX3_mend wsX3_entryNumbered := goodIn_ca (goodIn_r _ [6, 7, 8, 9, 10, 11, 12, 13, 14, 15, 16, 17, 18, 19, 20, 21, 22, 23, 24, 25, 26, 27, 28, 29, 30, 31, 32, 33, 57, 58, 59, 60, 61, 62, 63, 64, 65, 66, 67, 68, 69, 70, 71, 72, 73, 74] (by decide +kernel) (by decide +kernel)) (goodIn_sub (fun _ h => List.mem_cons_of_mem _ (List.mem_append_left _ (List.mem_append_left _ (List.mem_append_right _ h)))) (by decide +kernel))
set_option maxRecDepth 20000 in
theorem gX3_mend_X3_entryNumbered : GoodIn wsX3_mend (wsV RX3 155 RX3 yX3_entryNumbered wsX3_entryNumbered) := goodIn_app (goodIn_of _ (by decide +kernel)) ggX3_mend_X3_entryNumbered
set_option maxRecDepth 20000 in
theorem ggX3_mend_X3_checkRange : GoodIn wsX3_mend wsX3_checkRange := goodIn_ca (goodIn_r _ [36, 37, 38] (by decide +kernel) (by decide +kernel)) (goodIn_sub (fun _ h => List.mem_cons_of_mem _ (List.mem_append_left _ (List.mem_append_right _ h))) (by decide +kernel))
set_option maxRecDepth 20000 in
theorem gX3_mend_X3_checkRange : GoodIn wsX3_mend (va_wsS RX3 58 yX3_checkRange wsX3_checkRange) := goodIn_app (goodIn_of _ (by decide +kernel)) ggX3_mend_X3_checkRange
set_option maxRecDepth 20000 in
theorem ggX3_mend_X3_checkCanBeCorrected : GoodIn wsX3_mend wsX3_checkCanBeCorrected := goodIn_ca (goodIn_r _ [41, 42, 43, 44, 45, 46, 47, 48, 49, 50, 51, 52, 53, 54, 55, 56, 75, 76, 77, 78, 79, 80, 81] (by decide +kernel) (by decide +kernel)) (goodIn_sub (fun _ h => List.mem_cons_of_mem _ (List.mem_append_right _ h)) (by decide +kernel))
set_option maxRecDepth 20000 in
theorem gX3_mend_X3_checkCanBeCorrected : GoodIn wsX3_mend (va_wsS RX3 159 yX3_checkCanBeCorrected wsX3_checkCanBeCorrected) := goodIn_app (goodIn_of _ (by decide +kernel)) ggX3_mend_X3_checkCanBeCorrected
theorem dX3_mend_0 : decode cX3_mend 0 = .ok (.aload_n 0, 1) := by decide +kernel
theorem dX3_mend_1 : decode cX3_mend 1 = .ok (.iload_n 1, 1) := by decide +kernel
theorem dX3_mend_2 : decode cX3_mend 2 = .ok (.invokevirtual 155, 3) := by decide +kernel
theorem dX3_mend_5 : decode cX3_mend 5 = .ok (.astore_n 3, 1) := by decide +kernel
theorem dX3_mend_6 : decode cX3_mend 6 = .ok (.iload_n 2, 1) := by decide +kernel
theorem dX3_mend_7 : decode cX3_mend 7 = .ok (.iconst 1, 1) := by decide +kernel
theorem dX3_mend_8 : decode cX3_mend 8 = .ok (.bipush 9, 2) := by decide +kernel
theorem dX3_mend_10 : decode cX3_mend 10 = .ok (.invokestatic 58, 3) := by decide +kernel
theorem dX3_mend_13 : decode cX3_mend 13 = .ok (.aload_n 3, 1) := by decide +kernel
theorem dX3_mend_14 : decode cX3_mend 14 = .ok (.invokestatic 159, 3) := by decide +kernel
theorem dX3_mend_17 : decode cX3_mend 17 = .ok (.aload_n 3, 1) := by decide +kernel
theorem dX3_mend_18 : decode cX3_mend 18 = .ok (.getfield 167, 3) := by decide +kernel
theorem dX3_mend_21 : decode cX3_mend 21 = .ok (.istore 4, 2) := by decide +kernel
theorem dX3_mend_23 : decode cX3_mend 23 = .ok (.aload_n 3, 1) := by decide +kernel
theorem dX3_mend_24 : decode cX3_mend 24 = .ok (.iload_n 2, 1) := by decide +kernel
theorem dX3_mend_25 : decode cX3_mend 25 = .ok (.putfield 167, 3) := by decide +kernel
theorem dX3_mend_28 : decode cX3_mend 28 = .ok (.iload 4, 2) := by decide +kernel
theorem dX3_mend_30 : decode cX3_mend 30 = .ok (.ireturn, 1) := by decide +kernel
set_option maxRecDepth 20000 in
theorem ggX3_promise_X3_checkSponsor : GoodIn wsX3_promise wsX3_checkSponsor := goodIn_ca (goodIn_r _ [5, 6, 7] (by decide +kernel) (by decide +kernel)) (goodIn_sub (fun _ h => List.mem_cons_of_mem _ (List.mem_append_left _ (List.mem_append_right _ h))) (by decide +kernel))
set_option maxRecDepth 20000 in
theorem gX3_promise_X3_checkSponsor : GoodIn wsX3_promise (va_wsS RX3 170 yX3_checkSponsor wsX3_checkSponsor) := goodIn_app (goodIn_of _ (by decide +kernel)) ggX3_promise_X3_checkSponsor
set_option maxRecDepth 20000 in
theorem ggX3_promise_X3_checkRange : GoodIn wsX3_promise wsX3_checkRange := goodIn_ca (goodIn_r _ [10, 11, 12] (by decide +kernel) (by decide +kernel)) (goodIn_sub (fun _ h => List.mem_cons_of_mem _ (List.mem_append_right _ h)) (by decide +kernel))
set_option maxRecDepth 20000 in
theorem gX3_promise_X3_checkRange : GoodIn wsX3_promise (va_wsS RX3 58 yX3_checkRange wsX3_checkRange) := goodIn_app (goodIn_of _ (by decide +kernel)) ggX3_promise_X3_checkRange
theorem dX3_promise_0 : decode cX3_promise 0 = .ok (.iload_n 1, 1) := by decide +kernel
theorem dX3_promise_1 : decode cX3_promise 1 = .ok (.invokestatic 170, 3) := by decide +kernel
theorem dX3_promise_4 : decode cX3_promise 4 = .ok (.iload_n 2, 1) := by decide +kernel
theorem dX3_promise_5 : decode cX3_promise 5 = .ok (.iconst 0, 1) := by decide +kernel
theorem dX3_promise_6 : decode cX3_promise 6 = .ok (.sipush 1000, 3) := by decide +kernel
theorem dX3_promise_9 : decode cX3_promise 9 = .ok (.invokestatic 58, 3) := by decide +kernel
theorem dX3_promise_12 : decode cX3_promise 12 = .ok (.aload_n 0, 1) := by decide +kernel
theorem dX3_promise_13 : decode cX3_promise 13 = .ok (.getfield 29, 3) := by decide +kernel
theorem dX3_promise_16 : decode cX3_promise 16 = .ok (.iload_n 1, 1) := by decide +kernel
theorem dX3_promise_17 : decode cX3_promise 17 = .ok (.iaload, 1) := by decide +kernel
theorem dX3_promise_18 : decode cX3_promise 18 = .ok (.istore_n 3, 1) := by decide +kernel
theorem dX3_promise_19 : decode cX3_promise 19 = .ok (.aload_n 0, 1) := by decide +kernel
theorem dX3_promise_20 : decode cX3_promise 20 = .ok (.getfield 29, 3) := by decide +kernel
theorem dX3_promise_23 : decode cX3_promise 23 = .ok (.iload_n 1, 1) := by decide +kernel
theorem dX3_promise_24 : decode cX3_promise 24 = .ok (.iload_n 2, 1) := by decide +kernel
theorem dX3_promise_25 : decode cX3_promise 25 = .ok (.iastore, 1) := by decide +kernel
theorem dX3_promise_26 : decode cX3_promise 26 = .ok (.iload_n 3, 1) := by decide +kernel
theorem dX3_promise_27 : decode cX3_promise 27 = .ok (.ireturn, 1) := by decide +kernel
set_option maxRecDepth 20000 in
theorem ggX3_slot_X3_checkSponsor : GoodIn wsX3_slot wsX3_checkSponsor := goodIn_ca (goodIn_r _ [8, 9, 10] (by decide +kernel) (by decide +kernel)) (goodIn_sub (fun _ h => List.mem_cons_of_mem _ (List.mem_append_right _ h)) (by decide +kernel))
set_option maxRecDepth 20000 in
theorem gX3_slot_X3_checkSponsor : GoodIn wsX3_slot (va_wsS RX3 170 yX3_checkSponsor wsX3_checkSponsor) := goodIn_app (goodIn_of _ (by decide +kernel)) ggX3_slot_X3_checkSponsor
set_option maxRecDepth 20000 in
theorem ggX3_slot_X3_checkPlayer : GoodIn wsX3_slot wsX3_checkPlayer := goodIn_ca (goodIn_r _ [13, 9, 10] (by decide +kernel) (by decide +kernel)) (goodIn_sub (fun _ h => List.mem_cons_of_mem _ (List.mem_append_right _ h)) (by decide +kernel))
set_option maxRecDepth 20000 in
theorem gX3_slot_X3_checkPlayer : GoodIn wsX3_slot (va_wsS RX3 54 yX3_checkPlayer wsX3_checkPlayer) := goodIn_app (goodIn_of _ (by decide +kernel)) ggX3_slot_X3_checkPlayer
theorem dX3_slot_0 : decode cX3_slot 0 = .ok (.iload_n 1, 1) := by decide +kernel
theorem dX3_slot_1 : decode cX3_slot 1 = .ok (.invokestatic 170, 3) := by decide +kernel
theorem dX3_slot_4 : decode cX3_slot 4 = .ok (.iload_n 2, 1) := by decide +kernel
theorem dX3_slot_5 : decode cX3_slot 5 = .ok (.invokestatic 54, 3) := by decide +kernel
theorem dX3_slot_8 : decode cX3_slot 8 = .ok (.iconst 1, 1) := by decide +kernel
theorem dX3_slot_9 : decode cX3_slot 9 = .ok (.iload_n 2, 1) := by decide +kernel
theorem dX3_slot_10 : decode cX3_slot 10 = .ok (.ishl, 1) := by decide +kernel
theorem dX3_slot_11 : decode cX3_slot 11 = .ok (.istore_n 3, 1) := by decide +kernel
theorem dX3_slot_12 : decode cX3_slot 12 = .ok (.aload_n 0, 1) := by decide +kernel
theorem dX3_slot_13 : decode cX3_slot 13 = .ok (.getfield 35, 3) := by decide +kernel
theorem dX3_slot_16 : decode cX3_slot 16 = .ok (.iload_n 1, 1) := by decide +kernel
theorem dX3_slot_17 : decode cX3_slot 17 = .ok (.iaload, 1) := by decide +kernel
theorem dX3_slot_18 : decode cX3_slot 18 = .ok (.iload_n 3, 1) := by decide +kernel
theorem dX3_slot_19 : decode cX3_slot 19 = .ok (.iand, 1) := by decide +kernel
theorem dX3_slot_20 : decode cX3_slot 20 = .ok (.ifCond .eq 13, 3) := by decide +kernel
theorem dX3_slot_23 : decode cX3_slot 23 = .ok (.new 106, 3) := by decide +kernel
theorem dX3_slot_26 : decode cX3_slot 26 = .ok (.dup, 1) := by decide +kernel
theorem dX3_slot_27 : decode cX3_slot 27 = .ok (.ldc 173, 2) := by decide +kernel
theorem dX3_slot_29 : decode cX3_slot 29 = .ok (.invokespecial 110, 3) := by decide +kernel
theorem dX3_slot_32 : decode cX3_slot 32 = .ok (.athrow, 1) := by decide +kernel
theorem dX3_slot_33 : decode cX3_slot 33 = .ok (.aload_n 0, 1) := by decide +kernel
theorem dX3_slot_34 : decode cX3_slot 34 = .ok (.getfield 175, 3) := by decide +kernel
theorem dX3_slot_37 : decode cX3_slot 37 = .ok (.bipush 12, 2) := by decide +kernel
theorem dX3_slot_39 : decode cX3_slot 39 = .ok (.if_icmp .lt 13, 3) := by decide +kernel
theorem dX3_slot_42 : decode cX3_slot 42 = .ok (.new 106, 3) := by decide +kernel
theorem dX3_slot_45 : decode cX3_slot 45 = .ok (.dup, 1) := by decide +kernel
theorem dX3_slot_46 : decode cX3_slot 46 = .ok (.ldc 178, 2) := by decide +kernel
theorem dX3_slot_48 : decode cX3_slot 48 = .ok (.invokespecial 110, 3) := by decide +kernel
theorem dX3_slot_51 : decode cX3_slot 51 = .ok (.athrow, 1) := by decide +kernel
theorem dX3_slot_52 : decode cX3_slot 52 = .ok (.aload_n 0, 1) := by decide +kernel
theorem dX3_slot_53 : decode cX3_slot 53 = .ok (.getfield 35, 3) := by decide +kernel
theorem dX3_slot_56 : decode cX3_slot 56 = .ok (.iload_n 1, 1) := by decide +kernel
theorem dX3_slot_57 : decode cX3_slot 57 = .ok (.dup2, 1) := by decide +kernel
theorem dX3_slot_58 : decode cX3_slot 58 = .ok (.iaload, 1) := by decide +kernel
theorem dX3_slot_59 : decode cX3_slot 59 = .ok (.iload_n 3, 1) := by decide +kernel
theorem dX3_slot_60 : decode cX3_slot 60 = .ok (.ior, 1) := by decide +kernel
theorem dX3_slot_61 : decode cX3_slot 61 = .ok (.iastore, 1) := by decide +kernel
theorem dX3_slot_62 : decode cX3_slot 62 = .ok (.aload_n 0, 1) := by decide +kernel
theorem dX3_slot_63 : decode cX3_slot 63 = .ok (.dup, 1) := by decide +kernel
theorem dX3_slot_64 : decode cX3_slot 64 = .ok (.getfield 175, 3) := by decide +kernel
theorem dX3_slot_67 : decode cX3_slot 67 = .ok (.iconst 1, 1) := by decide +kernel
theorem dX3_slot_68 : decode cX3_slot 68 = .ok (.iadd, 1) := by decide +kernel
theorem dX3_slot_69 : decode cX3_slot 69 = .ok (.putfield 175, 3) := by decide +kernel
theorem dX3_slot_72 : decode cX3_slot 72 = .ok (.aload_n 0, 1) := by decide +kernel
theorem dX3_slot_73 : decode cX3_slot 73 = .ok (.getfield 175, 3) := by decide +kernel
theorem dX3_slot_76 : decode cX3_slot 76 = .ok (.ireturn, 1) := by decide +kernel
theorem dX3_frame_0 : decode cX3_frame 0 = .ok (.aload_n 0, 1) := by decide +kernel
theorem dX3_frame_1 : decode cX3_frame 1 = .ok (.getfield 85, 3) := by decide +kernel
theorem dX3_frame_4 : decode cX3_frame 4 = .ok (.ireturn, 1) := by decide +kernel
theorem dX3_shown_0 : decode cX3_shown 0 = .ok (.iload_n 1, 1) := by decide +kernel
theorem dX3_shown_1 : decode cX3_shown 1 = .ok (.ifCond .lt 11, 3) := by decide +kernel
theorem dX3_shown_4 : decode cX3_shown 4 = .ok (.iload_n 1, 1) := by decide +kernel
theorem dX3_shown_5 : decode cX3_shown 5 = .ok (.aload_n 0, 1) := by decide +kernel
theorem dX3_shown_6 : decode cX3_shown 6 = .ok (.getfield 85, 3) := by decide +kernel
theorem dX3_shown_9 : decode cX3_shown 9 = .ok (.if_icmp .lt 13, 3) := by decide +kernel
theorem dX3_shown_12 : decode cX3_shown 12 = .ok (.new 180, 3) := by decide +kernel
theorem dX3_shown_15 : decode cX3_shown 15 = .ok (.dup, 1) := by decide +kernel
theorem dX3_shown_16 : decode cX3_shown 16 = .ok (.ldc 182, 2) := by decide +kernel
theorem dX3_shown_18 : decode cX3_shown 18 = .ok (.invokespecial 184, 3) := by decide +kernel
theorem dX3_shown_21 : decode cX3_shown 21 = .ok (.athrow, 1) := by decide +kernel
theorem dX3_shown_22 : decode cX3_shown 22 = .ok (.iload_n 2, 1) := by decide +kernel
theorem dX3_shown_23 : decode cX3_shown 23 = .ok (.tableswitch 46 0 2 #[25, 32, 39], 25) := by decide +kernel
theorem dX3_shown_48 : decode cX3_shown 48 = .ok (.aload_n 0, 1) := by decide +kernel
theorem dX3_shown_49 : decode cX3_shown 49 = .ok (.getfield 45, 3) := by decide +kernel
theorem dX3_shown_52 : decode cX3_shown 52 = .ok (.iload_n 1, 1) := by decide +kernel
theorem dX3_shown_53 : decode cX3_shown 53 = .ok (.iaload, 1) := by decide +kernel
theorem dX3_shown_54 : decode cX3_shown 54 = .ok (.ireturn, 1) := by decide +kernel
theorem dX3_shown_55 : decode cX3_shown 55 = .ok (.aload_n 0, 1) := by decide +kernel
theorem dX3_shown_56 : decode cX3_shown 56 = .ok (.getfield 48, 3) := by decide +kernel
theorem dX3_shown_59 : decode cX3_shown 59 = .ok (.iload_n 1, 1) := by decide +kernel
theorem dX3_shown_60 : decode cX3_shown 60 = .ok (.iaload, 1) := by decide +kernel
theorem dX3_shown_61 : decode cX3_shown 61 = .ok (.ireturn, 1) := by decide +kernel
theorem dX3_shown_62 : decode cX3_shown 62 = .ok (.aload_n 0, 1) := by decide +kernel
theorem dX3_shown_63 : decode cX3_shown 63 = .ok (.getfield 51, 3) := by decide +kernel
theorem dX3_shown_66 : decode cX3_shown 66 = .ok (.iload_n 1, 1) := by decide +kernel
theorem dX3_shown_67 : decode cX3_shown 67 = .ok (.iaload, 1) := by decide +kernel
theorem dX3_shown_68 : decode cX3_shown 68 = .ok (.ireturn, 1) := by decide +kernel
theorem dX3_shown_69 : decode cX3_shown 69 = .ok (.new 62, 3) := by decide +kernel
theorem dX3_shown_72 : decode cX3_shown 72 = .ok (.dup, 1) := by decide +kernel
theorem dX3_shown_73 : decode cX3_shown 73 = .ok (.ldc 185, 2) := by decide +kernel
theorem dX3_shown_75 : decode cX3_shown 75 = .ok (.invokespecial 66, 3) := by decide +kernel
theorem dX3_shown_78 : decode cX3_shown 78 = .ok (.athrow, 1) := by decide +kernel
theorem dX3_seen_0 : decode cX3_seen 0 = .ok (.aload_n 0, 1) := by decide +kernel
theorem dX3_seen_1 : decode cX3_seen 1 = .ok (.getfield 42, 3) := by decide +kernel
theorem dX3_seen_4 : decode cX3_seen 4 = .ok (.ireturn, 1) := by decide +kernel
set_option maxRecDepth 20000 in
theorem ggX3_points_X3_fightNumbered : GoodIn wsX3_points wsX3_fightNumbered := goodIn_ca (goodIn_r _ [6, 7, 8, 9, 10, 11, 12, 13, 14, 15, 16, 17, 18, 19, 20, 21, 22, 23, 24, 25, 26, 27, 28, 29, 30, 31, 32, 33, 48, 49, 50, 51, 52, 53, 54, 55, 56, 57, 58, 59, 60, 61, 62, 63, 64, 65] (by decide +kernel) (by decide +kernel)) (goodIn_sub (fun _ h => List.mem_cons_of_mem _ (List.mem_append_right _ h)) (by decide +kernel))
set_option maxRecDepth 20000 in
theorem gX3_points_X3_fightNumbered : GoodIn wsX3_points (wsV RX3 77 RX3 yX3_fightNumbered wsX3_fightNumbered) := goodIn_app (goodIn_of _ (by decide +kernel)) ggX3_points_X3_fightNumbered
set_option maxRecDepth 20000 in
theorem ggX3_points_X3_checkPlayer : GoodIn wsX3_points wsX3_checkPlayer := goodIn_ca (goodIn_r _ [36, 7, 8] (by decide +kernel) (by decide +kernel)) (goodIn_sub (fun _ h => List.mem_cons_of_mem _ (List.mem_append_right _ h)) (by decide +kernel))
set_option maxRecDepth 20000 in
theorem gX3_points_X3_checkPlayer : GoodIn wsX3_points (va_wsS RX3 54 yX3_checkPlayer wsX3_checkPlayer) := goodIn_app (goodIn_of _ (by decide +kernel)) ggX3_points_X3_checkPlayer
set_option maxRecDepth 20000 in
theorem ggX3_points_X3_pointsUpTo : GoodIn wsX3_points wsX3_pointsUpTo := goodIn_r _ [40, 41, 42, 43, 44, 45, 46, 47, 11, 12, 13, 14, 15, 16, 17, 18, 19, 20, 21, 22, 23, 24, 25, 26, 27, 28, 29, 30, 31, 32, 33, 48, 49, 50, 51, 52, 53, 54, 55, 56, 57, 58, 59, 60, 61, 62, 66, 67, 68, 69, 70, 63, 64, 65] (by decide +kernel) (by decide +kernel)
set_option maxRecDepth 20000 in
theorem gX3_points_X3_pointsUpTo : GoodIn wsX3_points (wsV RX3 93 RX3 yX3_pointsUpTo wsX3_pointsUpTo) := goodIn_app (goodIn_of _ (by decide +kernel)) ggX3_points_X3_pointsUpTo
theorem dX3_points_0 : decode cX3_points 0 = .ok (.aload_n 0, 1) := by decide +kernel
theorem dX3_points_1 : decode cX3_points 1 = .ok (.iload_n 1, 1) := by decide +kernel
theorem dX3_points_2 : decode cX3_points 2 = .ok (.invokevirtual 77, 3) := by decide +kernel
theorem dX3_points_5 : decode cX3_points 5 = .ok (.astore_n 3, 1) := by decide +kernel
theorem dX3_points_6 : decode cX3_points 6 = .ok (.iload_n 2, 1) := by decide +kernel
theorem dX3_points_7 : decode cX3_points 7 = .ok (.invokestatic 54, 3) := by decide +kernel
theorem dX3_points_10 : decode cX3_points 10 = .ok (.aload_n 0, 1) := by decide +kernel
theorem dX3_points_11 : decode cX3_points 11 = .ok (.aload_n 0, 1) := by decide +kernel
theorem dX3_points_12 : decode cX3_points 12 = .ok (.getfield 85, 3) := by decide +kernel
theorem dX3_points_15 : decode cX3_points 15 = .ok (.aload_n 3, 1) := by decide +kernel
theorem dX3_points_16 : decode cX3_points 16 = .ok (.iload_n 2, 1) := by decide +kernel
theorem dX3_points_17 : decode cX3_points 17 = .ok (.invokevirtual 93, 3) := by decide +kernel
theorem dX3_points_20 : decode cX3_points 20 = .ok (.ireturn, 1) := by decide +kernel
set_option maxRecDepth 20000 in
theorem ggX3_overlay_X3_fightNumbered : GoodIn wsX3_overlay wsX3_fightNumbered := goodIn_ca (goodIn_r _ [6, 7, 8, 9, 10, 11, 12, 13, 14, 15, 16, 17, 18, 19, 20, 21, 22, 23, 24, 25, 26, 27, 28, 29, 30, 31, 32, 33, 48, 49, 50, 51, 52, 53, 54, 55, 56, 57, 58, 59, 60, 61, 62, 63, 64, 65] (by decide +kernel) (by decide +kernel)) (goodIn_sub (fun _ h => List.mem_cons_of_mem _ (List.mem_append_right _ h)) (by decide +kernel))
set_option maxRecDepth 20000 in
theorem gX3_overlay_X3_fightNumbered : GoodIn wsX3_overlay (wsV RX3 77 RX3 yX3_fightNumbered wsX3_fightNumbered) := goodIn_app (goodIn_of _ (by decide +kernel)) ggX3_overlay_X3_fightNumbered
set_option maxRecDepth 20000 in
theorem ggX3_overlay_X3_checkPlayer : GoodIn wsX3_overlay wsX3_checkPlayer := goodIn_ca (goodIn_r _ [36, 7, 8] (by decide +kernel) (by decide +kernel)) (goodIn_sub (fun _ h => List.mem_cons_of_mem _ (List.mem_append_right _ h)) (by decide +kernel))
set_option maxRecDepth 20000 in
theorem gX3_overlay_X3_checkPlayer : GoodIn wsX3_overlay (va_wsS RX3 54 yX3_checkPlayer wsX3_checkPlayer) := goodIn_app (goodIn_of _ (by decide +kernel)) ggX3_overlay_X3_checkPlayer
set_option maxRecDepth 20000 in
theorem ggX3_overlay_X3_pointsUpTo : GoodIn wsX3_overlay wsX3_pointsUpTo := goodIn_r _ [40, 41, 42, 43, 44, 45, 46, 47, 11, 12, 13, 14, 15, 16, 17, 18, 19, 20, 21, 22, 23, 24, 25, 26, 27, 28, 29, 30, 31, 32, 33, 48, 49, 50, 51, 52, 53, 54, 55, 56, 57, 58, 59, 60, 61, 62, 66, 67, 68, 69, 70, 63, 64, 65] (by decide +kernel) (by decide +kernel)
set_option maxRecDepth 20000 in
theorem gX3_overlay_X3_pointsUpTo : GoodIn wsX3_overlay (wsV RX3 93 RX3 yX3_pointsUpTo wsX3_pointsUpTo) := goodIn_app (goodIn_of _ (by decide +kernel)) ggX3_overlay_X3_pointsUpTo
theorem dX3_overlay_0 : decode cX3_overlay 0 = .ok (.aload_n 0, 1) := by decide +kernel
theorem dX3_overlay_1 : decode cX3_overlay 1 = .ok (.iload_n 1, 1) := by decide +kernel
theorem dX3_overlay_2 : decode cX3_overlay 2 = .ok (.invokevirtual 77, 3) := by decide +kernel
theorem dX3_overlay_5 : decode cX3_overlay 5 = .ok (.astore_n 3, 1) := by decide +kernel
theorem dX3_overlay_6 : decode cX3_overlay 6 = .ok (.iload_n 2, 1) := by decide +kernel
theorem dX3_overlay_7 : decode cX3_overlay 7 = .ok (.invokestatic 54, 3) := by decide +kernel
theorem dX3_overlay_10 : decode cX3_overlay 10 = .ok (.aload_n 0, 1) := by decide +kernel
theorem dX3_overlay_11 : decode cX3_overlay 11 = .ok (.aload_n 0, 1) := by decide +kernel
theorem dX3_overlay_12 : decode cX3_overlay 12 = .ok (.getfield 42, 3) := by decide +kernel
theorem dX3_overlay_15 : decode cX3_overlay 15 = .ok (.aload_n 3, 1) := by decide +kernel
theorem dX3_overlay_16 : decode cX3_overlay 16 = .ok (.iload_n 2, 1) := by decide +kernel
theorem dX3_overlay_17 : decode cX3_overlay 17 = .ok (.invokevirtual 93, 3) := by decide +kernel
theorem dX3_overlay_20 : decode cX3_overlay 20 = .ok (.ireturn, 1) := by decide +kernel
set_option maxRecDepth 20000 in
theorem ggX3_fightOf_X3_fightNumbered : GoodIn wsX3_fightOf wsX3_fightNumbered := goodIn_ca (goodIn_r _ [12, 13, 14, 15, 16, 17, 18, 19, 20, 21, 22, 23, 24, 25, 26, 27, 28, 29, 30, 31, 32, 33, 34, 35, 36, 37, 38, 39, 47, 48, 49, 50, 51, 52, 53, 54, 55, 56, 57, 58, 59, 60, 61, 62, 63, 64] (by decide +kernel) (by decide +kernel)) (goodIn_sub (fun _ h => List.mem_cons_of_mem _ (List.mem_append_right _ h)) (by decide +kernel))
set_option maxRecDepth 20000 in
theorem gX3_fightOf_X3_fightNumbered : GoodIn wsX3_fightOf (wsV RX3 77 RX3 yX3_fightNumbered wsX3_fightNumbered) := goodIn_app (goodIn_of _ (by decide +kernel)) ggX3_fightOf_X3_fightNumbered
theorem dX3_fightOf_0 : decode cX3_fightOf 0 = .ok (.aload_n 0, 1) := by decide +kernel
theorem dX3_fightOf_1 : decode cX3_fightOf 1 = .ok (.iload_n 1, 1) := by decide +kernel
theorem dX3_fightOf_2 : decode cX3_fightOf 2 = .ok (.invokevirtual 77, 3) := by decide +kernel
theorem dX3_fightOf_5 : decode cX3_fightOf 5 = .ok (.astore_n 3, 1) := by decide +kernel
theorem dX3_fightOf_6 : decode cX3_fightOf 6 = .ok (.iload_n 2, 1) := by decide +kernel
theorem dX3_fightOf_7 : decode cX3_fightOf 7 = .ok (.tableswitch 58 0 4 #[33, 38, 43, 48, 53], 33) := by decide +kernel
theorem dX3_fightOf_40 : decode cX3_fightOf 40 = .ok (.aload_n 3, 1) := by decide +kernel
theorem dX3_fightOf_41 : decode cX3_fightOf 41 = .ok (.getfield 100, 3) := by decide +kernel
theorem dX3_fightOf_44 : decode cX3_fightOf 44 = .ok (.ireturn, 1) := by decide +kernel
theorem dX3_fightOf_45 : decode cX3_fightOf 45 = .ok (.aload_n 3, 1) := by decide +kernel
theorem dX3_fightOf_46 : decode cX3_fightOf 46 = .ok (.getfield 88, 3) := by decide +kernel
theorem dX3_fightOf_49 : decode cX3_fightOf 49 = .ok (.ireturn, 1) := by decide +kernel
theorem dX3_fightOf_50 : decode cX3_fightOf 50 = .ok (.aload_n 3, 1) := by decide +kernel
theorem dX3_fightOf_51 : decode cX3_fightOf 51 = .ok (.getfield 97, 3) := by decide +kernel
theorem dX3_fightOf_54 : decode cX3_fightOf 54 = .ok (.ireturn, 1) := by decide +kernel
theorem dX3_fightOf_55 : decode cX3_fightOf 55 = .ok (.aload_n 3, 1) := by decide +kernel
theorem dX3_fightOf_56 : decode cX3_fightOf 56 = .ok (.getfield 103, 3) := by decide +kernel
theorem dX3_fightOf_59 : decode cX3_fightOf 59 = .ok (.ireturn, 1) := by decide +kernel
theorem dX3_fightOf_60 : decode cX3_fightOf 60 = .ok (.aload_n 3, 1) := by decide +kernel
theorem dX3_fightOf_61 : decode cX3_fightOf 61 = .ok (.getfield 187, 3) := by decide +kernel
theorem dX3_fightOf_64 : decode cX3_fightOf 64 = .ok (.ireturn, 1) := by decide +kernel
theorem dX3_fightOf_65 : decode cX3_fightOf 65 = .ok (.new 62, 3) := by decide +kernel
theorem dX3_fightOf_68 : decode cX3_fightOf 68 = .ok (.dup, 1) := by decide +kernel
theorem dX3_fightOf_69 : decode cX3_fightOf 69 = .ok (.ldc 190, 2) := by decide +kernel
theorem dX3_fightOf_71 : decode cX3_fightOf 71 = .ok (.invokespecial 66, 3) := by decide +kernel
theorem dX3_fightOf_74 : decode cX3_fightOf 74 = .ok (.athrow, 1) := by decide +kernel
set_option maxRecDepth 20000 in
theorem ggX3_cameraOf_Jx4a65c_size_8abf5 : GoodIn wsX3_cameraOf wsJx4a65c_size_8abf5 := goodIn_r _ [13, 14, 51, 52, 53] (by decide +kernel) (by decide +kernel)
set_option maxRecDepth 20000 in
theorem gX3_cameraOf_Jx4a65c_size_8abf5 : GoodIn wsX3_cameraOf (wsV RX3 117 RJx4a65c yJx4a65c_size_8abf5 wsJx4a65c_size_8abf5) := goodIn_app (goodIn_of _ (by decide +kernel)) ggX3_cameraOf_Jx4a65c_size_8abf5
set_option maxRecDepth 20000 in
theorem ggX3_cameraOf_Jx4a65c_get_915e3 : GoodIn wsX3_cameraOf wsJx4a65c_get_915e3 := goodIn_r _ [18, 14, 19, 20, 21, 22, 23, 24, 25, 26, 27, 28, 29, 12, 30, 31, 51, 52, 53] (by decide +kernel) (by decide +kernel)
set_option maxRecDepth 20000 in
theorem gX3_cameraOf_Jx4a65c_get_915e3 : GoodIn wsX3_cameraOf (wsV RX3 194 RJx4a65c yJx4a65c_get_915e3 wsJx4a65c_get_915e3) := goodIn_app (goodIn_of _ (by decide +kernel)) ggX3_cameraOf_Jx4a65c_get_915e3
theorem dX3_cameraOf_0 : decode cX3_cameraOf 0 = .ok (.iload_n 1, 1) := by decide +kernel
theorem dX3_cameraOf_1 : decode cX3_cameraOf 1 = .ok (.ifCond .lt 14, 3) := by decide +kernel
theorem dX3_cameraOf_4 : decode cX3_cameraOf 4 = .ok (.iload_n 1, 1) := by decide +kernel
theorem dX3_cameraOf_5 : decode cX3_cameraOf 5 = .ok (.aload_n 0, 1) := by decide +kernel
theorem dX3_cameraOf_6 : decode cX3_cameraOf 6 = .ok (.getfield 23, 3) := by decide +kernel
theorem dX3_cameraOf_9 : decode cX3_cameraOf 9 = .ok (.invokevirtual 117, 3) := by decide +kernel
theorem dX3_cameraOf_12 : decode cX3_cameraOf 12 = .ok (.if_icmp .lt 13, 3) := by decide +kernel
theorem dX3_cameraOf_15 : decode cX3_cameraOf 15 = .ok (.new 180, 3) := by decide +kernel
theorem dX3_cameraOf_18 : decode cX3_cameraOf 18 = .ok (.dup, 1) := by decide +kernel
theorem dX3_cameraOf_19 : decode cX3_cameraOf 19 = .ok (.ldc 192, 2) := by decide +kernel
theorem dX3_cameraOf_21 : decode cX3_cameraOf 21 = .ok (.invokespecial 184, 3) := by decide +kernel
theorem dX3_cameraOf_24 : decode cX3_cameraOf 24 = .ok (.athrow, 1) := by decide +kernel
theorem dX3_cameraOf_25 : decode cX3_cameraOf 25 = .ok (.aload_n 0, 1) := by decide +kernel
theorem dX3_cameraOf_26 : decode cX3_cameraOf 26 = .ok (.getfield 23, 3) := by decide +kernel
theorem dX3_cameraOf_29 : decode cX3_cameraOf 29 = .ok (.iload_n 1, 1) := by decide +kernel
theorem dX3_cameraOf_30 : decode cX3_cameraOf 30 = .ok (.invokevirtual 194, 3) := by decide +kernel
theorem dX3_cameraOf_33 : decode cX3_cameraOf 33 = .ok (.checkcast 123, 3) := by decide +kernel
theorem dX3_cameraOf_36 : decode cX3_cameraOf 36 = .ok (.astore_n 3, 1) := by decide +kernel
theorem dX3_cameraOf_37 : decode cX3_cameraOf 37 = .ok (.iload_n 2, 1) := by decide +kernel
theorem dX3_cameraOf_38 : decode cX3_cameraOf 38 = .ok (.lookupswitch 36 #[(0, 26), (1, 31)], 26) := by decide +kernel
theorem dX3_cameraOf_64 : decode cX3_cameraOf 64 = .ok (.aload_n 3, 1) := by decide +kernel
theorem dX3_cameraOf_65 : decode cX3_cameraOf 65 = .ok (.getfield 198, 3) := by decide +kernel
theorem dX3_cameraOf_68 : decode cX3_cameraOf 68 = .ok (.ireturn, 1) := by decide +kernel
theorem dX3_cameraOf_69 : decode cX3_cameraOf 69 = .ok (.aload_n 3, 1) := by decide +kernel
theorem dX3_cameraOf_70 : decode cX3_cameraOf 70 = .ok (.getfield 201, 3) := by decide +kernel
theorem dX3_cameraOf_73 : decode cX3_cameraOf 73 = .ok (.ireturn, 1) := by decide +kernel
theorem dX3_cameraOf_74 : decode cX3_cameraOf 74 = .ok (.new 62, 3) := by decide +kernel
theorem dX3_cameraOf_77 : decode cX3_cameraOf 77 = .ok (.dup, 1) := by decide +kernel
theorem dX3_cameraOf_78 : decode cX3_cameraOf 78 = .ok (.ldc 204, 2) := by decide +kernel
theorem dX3_cameraOf_80 : decode cX3_cameraOf 80 = .ok (.invokespecial 66, 3) := by decide +kernel
theorem dX3_cameraOf_83 : decode cX3_cameraOf 83 = .ok (.athrow, 1) := by decide +kernel
set_option maxRecDepth 20000 in
theorem ggX3_counted_X3_checkSponsor : GoodIn wsX3_counted wsX3_checkSponsor := goodIn_ca (goodIn_r _ [5, 6, 7] (by decide +kernel) (by decide +kernel)) (goodIn_sub (fun _ h => List.mem_cons_of_mem _ (List.mem_append_right _ h)) (by decide +kernel))
set_option maxRecDepth 20000 in
theorem gX3_counted_X3_checkSponsor : GoodIn wsX3_counted (va_wsS RX3 170 yX3_checkSponsor wsX3_checkSponsor) := goodIn_app (goodIn_of _ (by decide +kernel)) ggX3_counted_X3_checkSponsor
theorem dX3_counted_0 : decode cX3_counted 0 = .ok (.iload_n 1, 1) := by decide +kernel
theorem dX3_counted_1 : decode cX3_counted 1 = .ok (.invokestatic 170, 3) := by decide +kernel
theorem dX3_counted_4 : decode cX3_counted 4 = .ok (.aload_n 0, 1) := by decide +kernel
theorem dX3_counted_5 : decode cX3_counted 5 = .ok (.getfield 32, 3) := by decide +kernel
theorem dX3_counted_8 : decode cX3_counted 8 = .ok (.iload_n 1, 1) := by decide +kernel
theorem dX3_counted_9 : decode cX3_counted 9 = .ok (.iaload, 1) := by decide +kernel
theorem dX3_counted_10 : decode cX3_counted 10 = .ok (.ireturn, 1) := by decide +kernel
set_option maxRecDepth 20000 in
theorem ggX3_countedAnew_X3_checkSponsor : GoodIn wsX3_countedAnew wsX3_checkSponsor := goodIn_ca (goodIn_r _ [6, 7, 8] (by decide +kernel) (by decide +kernel)) (goodIn_sub (fun _ h => List.mem_cons_of_mem _ (List.mem_append_right _ h)) (by decide +kernel))
set_option maxRecDepth 20000 in
theorem gX3_countedAnew_X3_checkSponsor : GoodIn wsX3_countedAnew (va_wsS RX3 170 yX3_checkSponsor wsX3_checkSponsor) := goodIn_app (goodIn_of _ (by decide +kernel)) ggX3_countedAnew_X3_checkSponsor
theorem dX3_countedAnew_0 : decode cX3_countedAnew 0 = .ok (.iload_n 1, 1) := by decide +kernel
theorem dX3_countedAnew_1 : decode cX3_countedAnew 1 = .ok (.invokestatic 170, 3) := by decide +kernel
theorem dX3_countedAnew_4 : decode cX3_countedAnew 4 = .ok (.iconst 0, 1) := by decide +kernel
theorem dX3_countedAnew_5 : decode cX3_countedAnew 5 = .ok (.istore_n 2, 1) := by decide +kernel
theorem dX3_countedAnew_6 : decode cX3_countedAnew 6 = .ok (.iconst 0, 1) := by decide +kernel
theorem dX3_countedAnew_7 : decode cX3_countedAnew 7 = .ok (.istore_n 3, 1) := by decide +kernel
theorem dX3_countedAnew_8 : decode cX3_countedAnew 8 = .ok (.iload_n 3, 1) := by decide +kernel
theorem dX3_countedAnew_9 : decode cX3_countedAnew 9 = .ok (.aload_n 0, 1) := by decide +kernel
theorem dX3_countedAnew_10 : decode cX3_countedAnew 10 = .ok (.getfield 85, 3) := by decide +kernel
theorem dX3_countedAnew_13 : decode cX3_countedAnew 13 = .ok (.if_icmp .ge 22, 3) := by decide +kernel
theorem dX3_countedAnew_16 : decode cX3_countedAnew 16 = .ok (.aload_n 0, 1) := by decide +kernel
theorem dX3_countedAnew_17 : decode cX3_countedAnew 17 = .ok (.getfield 51, 3) := by decide +kernel
theorem dX3_countedAnew_20 : decode cX3_countedAnew 20 = .ok (.iload_n 3, 1) := by decide +kernel
theorem dX3_countedAnew_21 : decode cX3_countedAnew 21 = .ok (.iaload, 1) := by decide +kernel
theorem dX3_countedAnew_22 : decode cX3_countedAnew 22 = .ok (.iload_n 1, 1) := by decide +kernel
theorem dX3_countedAnew_23 : decode cX3_countedAnew 23 = .ok (.if_icmp .ne 6, 3) := by decide +kernel
theorem dX3_countedAnew_26 : decode cX3_countedAnew 26 = .ok (.iinc 2 1, 3) := by decide +kernel
theorem dX3_countedAnew_29 : decode cX3_countedAnew 29 = .ok (.iinc 3 1, 3) := by decide +kernel
theorem dX3_countedAnew_32 : decode cX3_countedAnew 32 = .ok (.goto (-24), 3) := by decide +kernel
theorem dX3_countedAnew_35 : decode cX3_countedAnew 35 = .ok (.iload_n 2, 1) := by decide +kernel
theorem dX3_countedAnew_36 : decode cX3_countedAnew 36 = .ok (.ireturn, 1) := by decide +kernel
set_option maxRecDepth 20000 in
theorem ggX3_owed_X3_checkSponsor : GoodIn wsX3_owed wsX3_checkSponsor := goodIn_ca (goodIn_r _ [4, 5, 6] (by decide +kernel) (by decide +kernel)) (goodIn_sub (fun _ h => List.mem_cons_of_mem _ (List.mem_append_right _ h)) (by decide +kernel))
set_option maxRecDepth 20000 in
theorem gX3_owed_X3_checkSponsor : GoodIn wsX3_owed (va_wsS RX3 170 yX3_checkSponsor wsX3_checkSponsor) := goodIn_app (goodIn_of _ (by decide +kernel)) ggX3_owed_X3_checkSponsor
set_option maxRecDepth 20000 in
theorem ggX3_owed_X3_owedTo : GoodIn wsX3_owed wsX3_owedTo := goodIn_r _ [10, 11, 12, 13, 14, 15, 16, 17, 18, 19, 20, 21, 22, 23, 24, 25, 26, 27, 28, 29, 30, 31] (by decide +kernel) (by decide +kernel)
set_option maxRecDepth 20000 in
theorem gX3_owed_X3_owedTo : GoodIn wsX3_owed (wsV RX3 206 RX3 yX3_owedTo wsX3_owedTo) := goodIn_app (goodIn_of _ (by decide +kernel)) ggX3_owed_X3_owedTo
theorem dX3_owed_0 : decode cX3_owed 0 = .ok (.iload_n 1, 1) := by decide +kernel
theorem dX3_owed_1 : decode cX3_owed 1 = .ok (.invokestatic 170, 3) := by decide +kernel
theorem dX3_owed_4 : decode cX3_owed 4 = .ok (.aload_n 0, 1) := by decide +kernel
theorem dX3_owed_5 : decode cX3_owed 5 = .ok (.iload_n 1, 1) := by decide +kernel
theorem dX3_owed_6 : decode cX3_owed 6 = .ok (.invokevirtual 206, 3) := by decide +kernel
theorem dX3_owed_9 : decode cX3_owed 9 = .ok (.ireturn, 1) := by decide +kernel
set_option maxRecDepth 20000 in
theorem ggX3_leader_X3_placeOf : GoodIn wsX3_leader wsX3_placeOf := goodIn_r _ [7, 8, 9, 10, 11, 12, 13, 14, 15, 16, 17, 18, 19, 20, 21, 22, 23] (by decide +kernel) (by decide +kernel)
set_option maxRecDepth 20000 in
theorem gX3_leader_X3_placeOf : GoodIn wsX3_leader (wsV RX3 212 RX3 yX3_placeOf wsX3_placeOf) := goodIn_app (goodIn_of _ (by decide +kernel)) ggX3_leader_X3_placeOf
theorem dX3_leader_0 : decode cX3_leader 0 = .ok (.iload_n 1, 1) := by decide +kernel
theorem dX3_leader_1 : decode cX3_leader 1 = .ok (.ifCond .lt 9, 3) := by decide +kernel
theorem dX3_leader_4 : decode cX3_leader 4 = .ok (.iload_n 1, 1) := by decide +kernel
theorem dX3_leader_5 : decode cX3_leader 5 = .ok (.bipush 10, 2) := by decide +kernel
theorem dX3_leader_7 : decode cX3_leader 7 = .ok (.if_icmp .lt 13, 3) := by decide +kernel
theorem dX3_leader_10 : decode cX3_leader 10 = .ok (.new 180, 3) := by decide +kernel
theorem dX3_leader_13 : decode cX3_leader 13 = .ok (.dup, 1) := by decide +kernel
theorem dX3_leader_14 : decode cX3_leader 14 = .ok (.ldc 210, 2) := by decide +kernel
theorem dX3_leader_16 : decode cX3_leader 16 = .ok (.invokespecial 184, 3) := by decide +kernel
theorem dX3_leader_19 : decode cX3_leader 19 = .ok (.athrow, 1) := by decide +kernel
theorem dX3_leader_20 : decode cX3_leader 20 = .ok (.iconst 0, 1) := by decide +kernel
theorem dX3_leader_21 : decode cX3_leader 21 = .ok (.istore_n 2, 1) := by decide +kernel
theorem dX3_leader_22 : decode cX3_leader 22 = .ok (.iload_n 2, 1) := by decide +kernel
theorem dX3_leader_23 : decode cX3_leader 23 = .ok (.bipush 9, 2) := by decide +kernel
theorem dX3_leader_25 : decode cX3_leader 25 = .ok (.if_icmp .ge 18, 3) := by decide +kernel
theorem dX3_leader_28 : decode cX3_leader 28 = .ok (.aload_n 0, 1) := by decide +kernel
theorem dX3_leader_29 : decode cX3_leader 29 = .ok (.iload_n 2, 1) := by decide +kernel
theorem dX3_leader_30 : decode cX3_leader 30 = .ok (.invokevirtual 212, 3) := by decide +kernel
theorem dX3_leader_33 : decode cX3_leader 33 = .ok (.iload_n 1, 1) := by decide +kernel
theorem dX3_leader_34 : decode cX3_leader 34 = .ok (.if_icmp .eq 9, 3) := by decide +kernel
theorem dX3_leader_37 : decode cX3_leader 37 = .ok (.iinc 2 1, 3) := by decide +kernel
theorem dX3_leader_40 : decode cX3_leader 40 = .ok (.goto (-18), 3) := by decide +kernel
theorem dX3_leader_43 : decode cX3_leader 43 = .ok (.iload_n 2, 1) := by decide +kernel
theorem dX3_leader_44 : decode cX3_leader 44 = .ok (.ireturn, 1) := by decide +kernel
theorem dX3_checkPlayer_0 : decode cX3_checkPlayer 0 = .ok (.iload_n 0, 1) := by decide +kernel
theorem dX3_checkPlayer_1 : decode cX3_checkPlayer 1 = .ok (.ifCond .lt 9, 3) := by decide +kernel
theorem dX3_checkPlayer_4 : decode cX3_checkPlayer 4 = .ok (.iload_n 0, 1) := by decide +kernel
theorem dX3_checkPlayer_5 : decode cX3_checkPlayer 5 = .ok (.bipush 10, 2) := by decide +kernel
theorem dX3_checkPlayer_7 : decode cX3_checkPlayer 7 = .ok (.if_icmp .lt 13, 3) := by decide +kernel
theorem dX3_checkPlayer_10 : decode cX3_checkPlayer 10 = .ok (.new 180, 3) := by decide +kernel
theorem dX3_checkPlayer_13 : decode cX3_checkPlayer 13 = .ok (.dup, 1) := by decide +kernel
theorem dX3_checkPlayer_14 : decode cX3_checkPlayer 14 = .ok (.ldc 215, 2) := by decide +kernel
theorem dX3_checkPlayer_16 : decode cX3_checkPlayer 16 = .ok (.invokespecial 184, 3) := by decide +kernel
theorem dX3_checkPlayer_19 : decode cX3_checkPlayer 19 = .ok (.athrow, 1) := by decide +kernel
theorem dX3_checkPlayer_20 : decode cX3_checkPlayer 20 = .ok (.return_, 1) := by decide +kernel
theorem dX3_checkSponsor_0 : decode cX3_checkSponsor 0 = .ok (.iload_n 0, 1) := by decide +kernel
theorem dX3_checkSponsor_1 : decode cX3_checkSponsor 1 = .ok (.ifCond .lt 9, 3) := by decide +kernel
theorem dX3_checkSponsor_4 : decode cX3_checkSponsor 4 = .ok (.iload_n 0, 1) := by decide +kernel
theorem dX3_checkSponsor_5 : decode cX3_checkSponsor 5 = .ok (.bipush 6, 2) := by decide +kernel
theorem dX3_checkSponsor_7 : decode cX3_checkSponsor 7 = .ok (.if_icmp .lt 13, 3) := by decide +kernel
theorem dX3_checkSponsor_10 : decode cX3_checkSponsor 10 = .ok (.new 180, 3) := by decide +kernel
theorem dX3_checkSponsor_13 : decode cX3_checkSponsor 13 = .ok (.dup, 1) := by decide +kernel
theorem dX3_checkSponsor_14 : decode cX3_checkSponsor 14 = .ok (.ldc 217, 2) := by decide +kernel
theorem dX3_checkSponsor_16 : decode cX3_checkSponsor 16 = .ok (.invokespecial 184, 3) := by decide +kernel
theorem dX3_checkSponsor_19 : decode cX3_checkSponsor 19 = .ok (.athrow, 1) := by decide +kernel
theorem dX3_checkSponsor_20 : decode cX3_checkSponsor 20 = .ok (.return_, 1) := by decide +kernel
theorem dX3_checkRange_0 : decode cX3_checkRange 0 = .ok (.iload_n 0, 1) := by decide +kernel
theorem dX3_checkRange_1 : decode cX3_checkRange 1 = .ok (.iload_n 1, 1) := by decide +kernel
theorem dX3_checkRange_2 : decode cX3_checkRange 2 = .ok (.if_icmp .lt 8, 3) := by decide +kernel
theorem dX3_checkRange_5 : decode cX3_checkRange 5 = .ok (.iload_n 0, 1) := by decide +kernel
theorem dX3_checkRange_6 : decode cX3_checkRange 6 = .ok (.iload_n 2, 1) := by decide +kernel
theorem dX3_checkRange_7 : decode cX3_checkRange 7 = .ok (.if_icmp .le 13, 3) := by decide +kernel
theorem dX3_checkRange_10 : decode cX3_checkRange 10 = .ok (.new 62, 3) := by decide +kernel
theorem dX3_checkRange_13 : decode cX3_checkRange 13 = .ok (.dup, 1) := by decide +kernel
theorem dX3_checkRange_14 : decode cX3_checkRange 14 = .ok (.ldc 219, 2) := by decide +kernel
theorem dX3_checkRange_16 : decode cX3_checkRange 16 = .ok (.invokespecial 66, 3) := by decide +kernel
theorem dX3_checkRange_19 : decode cX3_checkRange 19 = .ok (.athrow, 1) := by decide +kernel
theorem dX3_checkRange_20 : decode cX3_checkRange 20 = .ok (.return_, 1) := by decide +kernel
theorem dX3_checkGoesOn_0 : decode cX3_checkGoesOn 0 = .ok (.aload_n 0, 1) := by decide +kernel
theorem dX3_checkGoesOn_1 : decode cX3_checkGoesOn 1 = .ok (.getfield 100, 3) := by decide +kernel
theorem dX3_checkGoesOn_4 : decode cX3_checkGoesOn 4 = .ok (.ifCond .eq 13, 3) := by decide +kernel
theorem dX3_checkGoesOn_7 : decode cX3_checkGoesOn 7 = .ok (.new 106, 3) := by decide +kernel
theorem dX3_checkGoesOn_10 : decode cX3_checkGoesOn 10 = .ok (.dup, 1) := by decide +kernel
theorem dX3_checkGoesOn_11 : decode cX3_checkGoesOn 11 = .ok (.ldc 221, 2) := by decide +kernel
theorem dX3_checkGoesOn_13 : decode cX3_checkGoesOn 13 = .ok (.invokespecial 110, 3) := by decide +kernel
theorem dX3_checkGoesOn_16 : decode cX3_checkGoesOn 16 = .ok (.athrow, 1) := by decide +kernel
theorem dX3_checkGoesOn_17 : decode cX3_checkGoesOn 17 = .ok (.return_, 1) := by decide +kernel
set_option maxRecDepth 20000 in
theorem ggX3_checkCanBeCorrected_X1_canBeCorrected : GoodIn wsX3_checkCanBeCorrected wsX1_canBeCorrected := goodIn_r _ [7, 8, 9, 10, 11, 12, 13, 14, 15, 16, 17, 18, 19, 20, 21, 22] (by decide +kernel) (by decide +kernel)
set_option maxRecDepth 20000 in
theorem gX3_checkCanBeCorrected_X1_canBeCorrected : GoodIn wsX3_checkCanBeCorrected (wsV RX3 223 RX1 yX1_canBeCorrected wsX1_canBeCorrected) := goodIn_app (goodIn_of _ (by decide +kernel)) ggX3_checkCanBeCorrected_X1_canBeCorrected
theorem dX3_checkCanBeCorrected_0 : decode cX3_checkCanBeCorrected 0 = .ok (.aload_n 0, 1) := by decide +kernel
theorem dX3_checkCanBeCorrected_1 : decode cX3_checkCanBeCorrected 1 = .ok (.invokevirtual 223, 3) := by decide +kernel
theorem dX3_checkCanBeCorrected_4 : decode cX3_checkCanBeCorrected 4 = .ok (.ifCond .ne 13, 3) := by decide +kernel
theorem dX3_checkCanBeCorrected_7 : decode cX3_checkCanBeCorrected 7 = .ok (.new 106, 3) := by decide +kernel
theorem dX3_checkCanBeCorrected_10 : decode cX3_checkCanBeCorrected 10 = .ok (.dup, 1) := by decide +kernel
theorem dX3_checkCanBeCorrected_11 : decode cX3_checkCanBeCorrected 11 = .ok (.ldc 227, 2) := by decide +kernel
theorem dX3_checkCanBeCorrected_13 : decode cX3_checkCanBeCorrected 13 = .ok (.invokespecial 110, 3) := by decide +kernel
theorem dX3_checkCanBeCorrected_16 : decode cX3_checkCanBeCorrected 16 = .ok (.athrow, 1) := by decide +kernel
theorem dX3_checkCanBeCorrected_17 : decode cX3_checkCanBeCorrected 17 = .ok (.return_, 1) := by decide +kernel
set_option maxRecDepth 20000 in
theorem ggX3_checkCanBegin_Jx4a65c_size_8abf5 : GoodIn wsX3_checkCanBegin wsJx4a65c_size_8abf5 := goodIn_r _ [10, 11, 58, 59, 60] (by decide +kernel) (by decide +kernel)
set_option maxRecDepth 20000 in
theorem gX3_checkCanBegin_Jx4a65c_size_8abf5 : GoodIn wsX3_checkCanBegin (wsV RX3 117 RJx4a65c yJx4a65c_size_8abf5 wsJx4a65c_size_8abf5) := goodIn_app (goodIn_of _ (by decide +kernel)) ggX3_checkCanBegin_Jx4a65c_size_8abf5
set_option maxRecDepth 20000 in
theorem ggX3_checkCanBegin_Jx4a65c_get_915e3 : GoodIn wsX3_checkCanBegin wsJx4a65c_get_915e3 := goodIn_r _ [15, 11, 16, 17, 18, 19, 20, 21, 22, 23, 24, 25, 26, 9, 27, 28, 58, 59, 60] (by decide +kernel) (by decide +kernel)
set_option maxRecDepth 20000 in
theorem gX3_checkCanBegin_Jx4a65c_get_915e3 : GoodIn wsX3_checkCanBegin (wsV RX3 194 RJx4a65c yJx4a65c_get_915e3 wsJx4a65c_get_915e3) := goodIn_app (goodIn_of _ (by decide +kernel)) ggX3_checkCanBegin_Jx4a65c_get_915e3
set_option maxRecDepth 20000 in
theorem ggX3_checkCanBegin_X2_isOf : GoodIn wsX3_checkCanBegin wsX2_isOf := goodIn_r _ [33, 34, 35, 51, 52, 53, 54, 55, 56, 57] (by decide +kernel) (by decide +kernel)
set_option maxRecDepth 20000 in
theorem gX3_checkCanBegin_X2_isOf : GoodIn wsX3_checkCanBegin (wsV RX3 139 RX2 yX2_isOf wsX2_isOf) := goodIn_app (goodIn_of _ (by decide +kernel)) ggX3_checkCanBegin_X2_isOf
theorem dX3_checkCanBegin_0 : decode cX3_checkCanBegin 0 = .ok (.aload_n 0, 1) := by decide +kernel
theorem dX3_checkCanBegin_1 : decode cX3_checkCanBegin 1 = .ok (.getfield 19, 3) := by decide +kernel
theorem dX3_checkCanBegin_4 : decode cX3_checkCanBegin 4 = .ok (.invokevirtual 117, 3) := by decide +kernel
theorem dX3_checkCanBegin_7 : decode cX3_checkCanBegin 7 = .ok (.bipush 20, 2) := by decide +kernel
theorem dX3_checkCanBegin_9 : decode cX3_checkCanBegin 9 = .ok (.if_icmp .lt 13, 3) := by decide +kernel
theorem dX3_checkCanBegin_12 : decode cX3_checkCanBegin 12 = .ok (.new 106, 3) := by decide +kernel
theorem dX3_checkCanBegin_15 : decode cX3_checkCanBegin 15 = .ok (.dup, 1) := by decide +kernel
theorem dX3_checkCanBegin_16 : decode cX3_checkCanBegin 16 = .ok (.ldc 229, 2) := by decide +kernel
theorem dX3_checkCanBegin_18 : decode cX3_checkCanBegin 18 = .ok (.invokespecial 110, 3) := by decide +kernel
theorem dX3_checkCanBegin_21 : decode cX3_checkCanBegin 21 = .ok (.athrow, 1) := by decide +kernel
theorem dX3_checkCanBegin_22 : decode cX3_checkCanBegin 22 = .ok (.iconst 0, 1) := by decide +kernel
theorem dX3_checkCanBegin_23 : decode cX3_checkCanBegin 23 = .ok (.istore_n 3, 1) := by decide +kernel
theorem dX3_checkCanBegin_24 : decode cX3_checkCanBegin 24 = .ok (.iload_n 3, 1) := by decide +kernel
theorem dX3_checkCanBegin_25 : decode cX3_checkCanBegin 25 = .ok (.aload_n 0, 1) := by decide +kernel
theorem dX3_checkCanBegin_26 : decode cX3_checkCanBegin 26 = .ok (.getfield 19, 3) := by decide +kernel
theorem dX3_checkCanBegin_29 : decode cX3_checkCanBegin 29 = .ok (.invokevirtual 117, 3) := by decide +kernel
theorem dX3_checkCanBegin_32 : decode cX3_checkCanBegin 32 = .ok (.if_icmp .ge 58, 3) := by decide +kernel
theorem dX3_checkCanBegin_35 : decode cX3_checkCanBegin 35 = .ok (.aload_n 0, 1) := by decide +kernel
theorem dX3_checkCanBegin_36 : decode cX3_checkCanBegin 36 = .ok (.getfield 19, 3) := by decide +kernel
theorem dX3_checkCanBegin_39 : decode cX3_checkCanBegin 39 = .ok (.iload_n 3, 1) := by decide +kernel
theorem dX3_checkCanBegin_40 : decode cX3_checkCanBegin 40 = .ok (.invokevirtual 194, 3) := by decide +kernel
theorem dX3_checkCanBegin_43 : decode cX3_checkCanBegin 43 = .ok (.checkcast 89, 3) := by decide +kernel
theorem dX3_checkCanBegin_46 : decode cX3_checkCanBegin 46 = .ok (.astore 4, 2) := by decide +kernel
theorem dX3_checkCanBegin_48 : decode cX3_checkCanBegin 48 = .ok (.aload 4, 2) := by decide +kernel
theorem dX3_checkCanBegin_50 : decode cX3_checkCanBegin 50 = .ok (.getfield 100, 3) := by decide +kernel
theorem dX3_checkCanBegin_53 : decode cX3_checkCanBegin 53 = .ok (.ifCond .ne 31, 3) := by decide +kernel
theorem dX3_checkCanBegin_56 : decode cX3_checkCanBegin 56 = .ok (.aload 4, 2) := by decide +kernel
theorem dX3_checkCanBegin_58 : decode cX3_checkCanBegin 58 = .ok (.iload_n 1, 1) := by decide +kernel
theorem dX3_checkCanBegin_59 : decode cX3_checkCanBegin 59 = .ok (.invokevirtual 139, 3) := by decide +kernel
theorem dX3_checkCanBegin_62 : decode cX3_checkCanBegin 62 = .ok (.ifCond .ne 12, 3) := by decide +kernel
theorem dX3_checkCanBegin_65 : decode cX3_checkCanBegin 65 = .ok (.aload 4, 2) := by decide +kernel
theorem dX3_checkCanBegin_67 : decode cX3_checkCanBegin 67 = .ok (.iload_n 2, 1) := by decide +kernel
theorem dX3_checkCanBegin_68 : decode cX3_checkCanBegin 68 = .ok (.invokevirtual 139, 3) := by decide +kernel
theorem dX3_checkCanBegin_71 : decode cX3_checkCanBegin 71 = .ok (.ifCond .eq 13, 3) := by decide +kernel
theorem dX3_checkCanBegin_74 : decode cX3_checkCanBegin 74 = .ok (.new 106, 3) := by decide +kernel
theorem dX3_checkCanBegin_77 : decode cX3_checkCanBegin 77 = .ok (.dup, 1) := by decide +kernel
theorem dX3_checkCanBegin_78 : decode cX3_checkCanBegin 78 = .ok (.ldc 231, 2) := by decide +kernel
theorem dX3_checkCanBegin_80 : decode cX3_checkCanBegin 80 = .ok (.invokespecial 110, 3) := by decide +kernel
theorem dX3_checkCanBegin_83 : decode cX3_checkCanBegin 83 = .ok (.athrow, 1) := by decide +kernel
theorem dX3_checkCanBegin_84 : decode cX3_checkCanBegin 84 = .ok (.iinc 3 1, 3) := by decide +kernel
theorem dX3_checkCanBegin_87 : decode cX3_checkCanBegin 87 = .ok (.goto (-63), 3) := by decide +kernel
theorem dX3_checkCanBegin_90 : decode cX3_checkCanBegin 90 = .ok (.return_, 1) := by decide +kernel
set_option maxRecDepth 20000 in
theorem ggX3_fightNumbered_Jx4a65c_size_8abf5 : GoodIn wsX3_fightNumbered wsJx4a65c_size_8abf5 := goodIn_r _ [9, 10, 43, 44, 45] (by decide +kernel) (by decide +kernel)
set_option maxRecDepth 20000 in
theorem gX3_fightNumbered_Jx4a65c_size_8abf5 : GoodIn wsX3_fightNumbered (wsV RX3 117 RJx4a65c yJx4a65c_size_8abf5 wsJx4a65c_size_8abf5) := goodIn_app (goodIn_of _ (by decide +kernel)) ggX3_fightNumbered_Jx4a65c_size_8abf5
set_option maxRecDepth 20000 in
theorem ggX3_fightNumbered_Jx4a65c_get_915e3 : GoodIn wsX3_fightNumbered wsJx4a65c_get_915e3 := goodIn_r _ [14, 10, 15, 16, 17, 18, 19, 20, 21, 22, 23, 24, 25, 8, 26, 27, 43, 44, 45] (by decide +kernel) (by decide +kernel)
set_option maxRecDepth 20000 in
theorem gX3_fightNumbered_Jx4a65c_get_915e3 : GoodIn wsX3_fightNumbered (wsV RX3 194 RJx4a65c yJx4a65c_get_915e3 wsJx4a65c_get_915e3) := goodIn_app (goodIn_of _ (by decide +kernel)) ggX3_fightNumbered_Jx4a65c_get_915e3
theorem dX3_fightNumbered_0 : decode cX3_fightNumbered 0 = .ok (.iload_n 1, 1) := by decide +kernel
theorem dX3_fightNumbered_1 : decode cX3_fightNumbered 1 = .ok (.ifCond .lt 14, 3) := by decide +kernel
theorem dX3_fightNumbered_4 : decode cX3_fightNumbered 4 = .ok (.iload_n 1, 1) := by decide +kernel
theorem dX3_fightNumbered_5 : decode cX3_fightNumbered 5 = .ok (.aload_n 0, 1) := by decide +kernel
theorem dX3_fightNumbered_6 : decode cX3_fightNumbered 6 = .ok (.getfield 19, 3) := by decide +kernel
theorem dX3_fightNumbered_9 : decode cX3_fightNumbered 9 = .ok (.invokevirtual 117, 3) := by decide +kernel
theorem dX3_fightNumbered_12 : decode cX3_fightNumbered 12 = .ok (.if_icmp .lt 13, 3) := by decide +kernel
theorem dX3_fightNumbered_15 : decode cX3_fightNumbered 15 = .ok (.new 180, 3) := by decide +kernel
theorem dX3_fightNumbered_18 : decode cX3_fightNumbered 18 = .ok (.dup, 1) := by decide +kernel
theorem dX3_fightNumbered_19 : decode cX3_fightNumbered 19 = .ok (.ldc 233, 2) := by decide +kernel
theorem dX3_fightNumbered_21 : decode cX3_fightNumbered 21 = .ok (.invokespecial 184, 3) := by decide +kernel
theorem dX3_fightNumbered_24 : decode cX3_fightNumbered 24 = .ok (.athrow, 1) := by decide +kernel
theorem dX3_fightNumbered_25 : decode cX3_fightNumbered 25 = .ok (.aload_n 0, 1) := by decide +kernel
theorem dX3_fightNumbered_26 : decode cX3_fightNumbered 26 = .ok (.getfield 19, 3) := by decide +kernel
theorem dX3_fightNumbered_29 : decode cX3_fightNumbered 29 = .ok (.iload_n 1, 1) := by decide +kernel
theorem dX3_fightNumbered_30 : decode cX3_fightNumbered 30 = .ok (.invokevirtual 194, 3) := by decide +kernel
theorem dX3_fightNumbered_33 : decode cX3_fightNumbered 33 = .ok (.checkcast 89, 3) := by decide +kernel
theorem dX3_fightNumbered_36 : decode cX3_fightNumbered 36 = .ok (.areturn, 1) := by decide +kernel
set_option maxRecDepth 20000 in
theorem ggX3_entryNumbered_Jx4a65c_size_8abf5 : GoodIn wsX3_entryNumbered wsJx4a65c_size_8abf5 := goodIn_r _ [9, 10, 43, 44, 45] (by decide +kernel) (by decide +kernel)
set_option maxRecDepth 20000 in
theorem gX3_entryNumbered_Jx4a65c_size_8abf5 : GoodIn wsX3_entryNumbered (wsV RX3 117 RJx4a65c yJx4a65c_size_8abf5 wsJx4a65c_size_8abf5) := goodIn_app (goodIn_of _ (by decide +kernel)) ggX3_entryNumbered_Jx4a65c_size_8abf5
set_option maxRecDepth 20000 in
theorem ggX3_entryNumbered_Jx4a65c_get_915e3 : GoodIn wsX3_entryNumbered wsJx4a65c_get_915e3 := goodIn_r _ [14, 10, 15, 16, 17, 18, 19, 20, 21, 22, 23, 24, 25, 8, 26, 27, 43, 44, 45] (by decide +kernel) (by decide +kernel)
set_option maxRecDepth 20000 in
theorem gX3_entryNumbered_Jx4a65c_get_915e3 : GoodIn wsX3_entryNumbered (wsV RX3 194 RJx4a65c yJx4a65c_get_915e3 wsJx4a65c_get_915e3) := goodIn_app (goodIn_of _ (by decide +kernel)) ggX3_entryNumbered_Jx4a65c_get_915e3
theorem dX3_entryNumbered_0 : decode cX3_entryNumbered 0 = .ok (.iload_n 1, 1) := by decide +kernel
theorem dX3_entryNumbered_1 : decode cX3_entryNumbered 1 = .ok (.ifCond .lt 14, 3) := by decide +kernel
theorem dX3_entryNumbered_4 : decode cX3_entryNumbered 4 = .ok (.iload_n 1, 1) := by decide +kernel
theorem dX3_entryNumbered_5 : decode cX3_entryNumbered 5 = .ok (.aload_n 0, 1) := by decide +kernel
theorem dX3_entryNumbered_6 : decode cX3_entryNumbered 6 = .ok (.getfield 26, 3) := by decide +kernel
theorem dX3_entryNumbered_9 : decode cX3_entryNumbered 9 = .ok (.invokevirtual 117, 3) := by decide +kernel
theorem dX3_entryNumbered_12 : decode cX3_entryNumbered 12 = .ok (.if_icmp .lt 13, 3) := by decide +kernel
theorem dX3_entryNumbered_15 : decode cX3_entryNumbered 15 = .ok (.new 180, 3) := by decide +kernel
theorem dX3_entryNumbered_18 : decode cX3_entryNumbered 18 = .ok (.dup, 1) := by decide +kernel
theorem dX3_entryNumbered_19 : decode cX3_entryNumbered 19 = .ok (.ldc 235, 2) := by decide +kernel
theorem dX3_entryNumbered_21 : decode cX3_entryNumbered 21 = .ok (.invokespecial 184, 3) := by decide +kernel
theorem dX3_entryNumbered_24 : decode cX3_entryNumbered 24 = .ok (.athrow, 1) := by decide +kernel
theorem dX3_entryNumbered_25 : decode cX3_entryNumbered 25 = .ok (.aload_n 0, 1) := by decide +kernel
theorem dX3_entryNumbered_26 : decode cX3_entryNumbered 26 = .ok (.getfield 26, 3) := by decide +kernel
theorem dX3_entryNumbered_29 : decode cX3_entryNumbered 29 = .ok (.iload_n 1, 1) := by decide +kernel
theorem dX3_entryNumbered_30 : decode cX3_entryNumbered 30 = .ok (.invokevirtual 194, 3) := by decide +kernel
theorem dX3_entryNumbered_33 : decode cX3_entryNumbered 33 = .ok (.checkcast 150, 3) := by decide +kernel
theorem dX3_entryNumbered_36 : decode cX3_entryNumbered 36 = .ok (.areturn, 1) := by decide +kernel
set_option maxRecDepth 20000 in
theorem ggX3_begin_Jx4a65c_size_8abf5 : GoodIn wsX3_begin wsJx4a65c_size_8abf5 := goodIn_r _ [9, 10, 98, 99, 100] (by decide +kernel) (by decide +kernel)
set_option maxRecDepth 20000 in
theorem gX3_begin_Jx4a65c_size_8abf5 : GoodIn wsX3_begin (wsV RX3 117 RJx4a65c yJx4a65c_size_8abf5 wsJx4a65c_size_8abf5) := goodIn_app (goodIn_of _ (by decide +kernel)) ggX3_begin_Jx4a65c_size_8abf5
set_option maxRecDepth 20000 in
theorem ggX3_begin_X2_init : GoodIn wsX3_begin wsX2_init := goodIn_r _ [13, 14, 15, 16, 17, 18, 19, 20, 21, 91, 92, 93, 94, 95, 96, 97] (by decide +kernel) (by decide +kernel)
set_option maxRecDepth 20000 in
theorem gX3_begin_X2_init : GoodIn wsX3_begin (wsX2_init) := ggX3_begin_X2_init
set_option maxRecDepth 20000 in
theorem ggX3_begin_Jx4a65c_add_9ea2d : GoodIn wsX3_begin wsJx4a65c_add_9ea2d := goodIn_r _ [25, 26, 27, 28, 10, 29, 30, 31, 8, 32, 33, 34, 35, 36, 37, 38, 39, 40, 41, 42, 43, 44, 45, 46, 47, 48, 49, 50, 51, 52, 53, 54, 55, 56, 57, 58, 59, 60, 61, 62, 63, 64, 65, 66, 67, 68, 69, 70, 71, 72, 73, 74, 75, 98, 99, 100] (by decide +kernel) (by decide +kernel)
set_option maxRecDepth 20000 in
theorem gX3_begin_Jx4a65c_add_9ea2d : GoodIn wsX3_begin (wsV RX3 127 RJx4a65c yJx4a65c_add_9ea2d wsJx4a65c_add_9ea2d) := goodIn_app (goodIn_of _ (by decide +kernel)) ggX3_begin_Jx4a65c_add_9ea2d
theorem dX3_begin_0 : decode cX3_begin 0 = .ok (.aload_n 0, 1) := by decide +kernel
theorem dX3_begin_1 : decode cX3_begin 1 = .ok (.getfield 19, 3) := by decide +kernel
theorem dX3_begin_4 : decode cX3_begin 4 = .ok (.invokevirtual 117, 3) := by decide +kernel
theorem dX3_begin_7 : decode cX3_begin 7 = .ok (.istore_n 3, 1) := by decide +kernel
theorem dX3_begin_8 : decode cX3_begin 8 = .ok (.aload_n 0, 1) := by decide +kernel
theorem dX3_begin_9 : decode cX3_begin 9 = .ok (.getfield 19, 3) := by decide +kernel
theorem dX3_begin_12 : decode cX3_begin 12 = .ok (.new 89, 3) := by decide +kernel
theorem dX3_begin_15 : decode cX3_begin 15 = .ok (.dup, 1) := by decide +kernel
theorem dX3_begin_16 : decode cX3_begin 16 = .ok (.iload_n 3, 1) := by decide +kernel
theorem dX3_begin_17 : decode cX3_begin 17 = .ok (.iload_n 1, 1) := by decide +kernel
theorem dX3_begin_18 : decode cX3_begin 18 = .ok (.iload_n 2, 1) := by decide +kernel
theorem dX3_begin_19 : decode cX3_begin 19 = .ok (.invokespecial 237, 3) := by decide +kernel
theorem dX3_begin_22 : decode cX3_begin 22 = .ok (.invokevirtual 127, 3) := by decide +kernel
theorem dX3_begin_25 : decode cX3_begin 25 = .ok (.pop, 1) := by decide +kernel
theorem dX3_begin_26 : decode cX3_begin 26 = .ok (.iload_n 3, 1) := by decide +kernel
theorem dX3_begin_27 : decode cX3_begin 27 = .ok (.ireturn, 1) := by decide +kernel
set_option maxRecDepth 20000 in
theorem ggX3_pointsUpTo_Jx4a65c_size_8abf5 : GoodIn wsX3_pointsUpTo wsJx4a65c_size_8abf5 := goodIn_r _ [12, 13, 51, 52, 53] (by decide +kernel) (by decide +kernel)
set_option maxRecDepth 20000 in
theorem gX3_pointsUpTo_Jx4a65c_size_8abf5 : GoodIn wsX3_pointsUpTo (wsV RX3 117 RJx4a65c yJx4a65c_size_8abf5 wsJx4a65c_size_8abf5) := goodIn_app (goodIn_of _ (by decide +kernel)) ggX3_pointsUpTo_Jx4a65c_size_8abf5
set_option maxRecDepth 20000 in
theorem ggX3_pointsUpTo_Jx4a65c_get_915e3 : GoodIn wsX3_pointsUpTo wsJx4a65c_get_915e3 := goodIn_r _ [17, 13, 18, 19, 20, 21, 22, 23, 24, 25, 26, 27, 28, 11, 29, 30, 51, 52, 53] (by decide +kernel) (by decide +kernel)
set_option maxRecDepth 20000 in
theorem gX3_pointsUpTo_Jx4a65c_get_915e3 : GoodIn wsX3_pointsUpTo (wsV RX3 194 RJx4a65c yJx4a65c_get_915e3 wsJx4a65c_get_915e3) := goodIn_app (goodIn_of _ (by decide +kernel)) ggX3_pointsUpTo_Jx4a65c_get_915e3
theorem dX3_pointsUpTo_0 : decode cX3_pointsUpTo 0 = .ok (.iconst 0, 1) := by decide +kernel
theorem dX3_pointsUpTo_1 : decode cX3_pointsUpTo 1 = .ok (.istore 4, 2) := by decide +kernel
theorem dX3_pointsUpTo_3 : decode cX3_pointsUpTo 3 = .ok (.iconst 0, 1) := by decide +kernel
theorem dX3_pointsUpTo_4 : decode cX3_pointsUpTo 4 = .ok (.istore 5, 2) := by decide +kernel
theorem dX3_pointsUpTo_6 : decode cX3_pointsUpTo 6 = .ok (.iload 5, 2) := by decide +kernel
theorem dX3_pointsUpTo_8 : decode cX3_pointsUpTo 8 = .ok (.aload_n 0, 1) := by decide +kernel
theorem dX3_pointsUpTo_9 : decode cX3_pointsUpTo 9 = .ok (.getfield 26, 3) := by decide +kernel
theorem dX3_pointsUpTo_12 : decode cX3_pointsUpTo 12 = .ok (.invokevirtual 117, 3) := by decide +kernel
theorem dX3_pointsUpTo_15 : decode cX3_pointsUpTo 15 = .ok (.if_icmp .ge 68, 3) := by decide +kernel
theorem dX3_pointsUpTo_18 : decode cX3_pointsUpTo 18 = .ok (.aload_n 0, 1) := by decide +kernel
theorem dX3_pointsUpTo_19 : decode cX3_pointsUpTo 19 = .ok (.getfield 26, 3) := by decide +kernel
theorem dX3_pointsUpTo_22 : decode cX3_pointsUpTo 22 = .ok (.iload 5, 2) := by decide +kernel
theorem dX3_pointsUpTo_24 : decode cX3_pointsUpTo 24 = .ok (.invokevirtual 194, 3) := by decide +kernel
theorem dX3_pointsUpTo_27 : decode cX3_pointsUpTo 27 = .ok (.checkcast 150, 3) := by decide +kernel
theorem dX3_pointsUpTo_30 : decode cX3_pointsUpTo 30 = .ok (.astore 6, 2) := by decide +kernel
theorem dX3_pointsUpTo_32 : decode cX3_pointsUpTo 32 = .ok (.aload 6, 2) := by decide +kernel
theorem dX3_pointsUpTo_34 : decode cX3_pointsUpTo 34 = .ok (.getfield 239, 3) := by decide +kernel
theorem dX3_pointsUpTo_37 : decode cX3_pointsUpTo 37 = .ok (.aload_n 2, 1) := by decide +kernel
theorem dX3_pointsUpTo_38 : decode cX3_pointsUpTo 38 = .ok (.if_acmp .ne 39, 3) := by decide +kernel
theorem dX3_pointsUpTo_41 : decode cX3_pointsUpTo 41 = .ok (.aload 6, 2) := by decide +kernel
theorem dX3_pointsUpTo_43 : decode cX3_pointsUpTo 43 = .ok (.getfield 243, 3) := by decide +kernel
theorem dX3_pointsUpTo_46 : decode cX3_pointsUpTo 46 = .ok (.iload_n 3, 1) := by decide +kernel
theorem dX3_pointsUpTo_47 : decode cX3_pointsUpTo 47 = .ok (.if_icmp .ne 30, 3) := by decide +kernel
theorem dX3_pointsUpTo_50 : decode cX3_pointsUpTo 50 = .ok (.aload 6, 2) := by decide +kernel
theorem dX3_pointsUpTo_52 : decode cX3_pointsUpTo 52 = .ok (.getfield 246, 3) := by decide +kernel
theorem dX3_pointsUpTo_55 : decode cX3_pointsUpTo 55 = .ok (.iload_n 1, 1) := by decide +kernel
theorem dX3_pointsUpTo_56 : decode cX3_pointsUpTo 56 = .ok (.if_icmp .gt 21, 3) := by decide +kernel
theorem dX3_pointsUpTo_59 : decode cX3_pointsUpTo 59 = .ok (.aload 6, 2) := by decide +kernel
theorem dX3_pointsUpTo_61 : decode cX3_pointsUpTo 61 = .ok (.getfield 163, 3) := by decide +kernel
theorem dX3_pointsUpTo_64 : decode cX3_pointsUpTo 64 = .ok (.ifCond .ne 13, 3) := by decide +kernel
theorem dX3_pointsUpTo_67 : decode cX3_pointsUpTo 67 = .ok (.iload 4, 2) := by decide +kernel
theorem dX3_pointsUpTo_69 : decode cX3_pointsUpTo 69 = .ok (.aload 6, 2) := by decide +kernel
theorem dX3_pointsUpTo_71 : decode cX3_pointsUpTo 71 = .ok (.getfield 167, 3) := by decide +kernel
theorem dX3_pointsUpTo_74 : decode cX3_pointsUpTo 74 = .ok (.iadd, 1) := by decide +kernel
theorem dX3_pointsUpTo_75 : decode cX3_pointsUpTo 75 = .ok (.istore 4, 2) := by decide +kernel
theorem dX3_pointsUpTo_77 : decode cX3_pointsUpTo 77 = .ok (.iinc 5 1, 3) := by decide +kernel
theorem dX3_pointsUpTo_80 : decode cX3_pointsUpTo 80 = .ok (.goto (-74), 3) := by decide +kernel
theorem dX3_pointsUpTo_83 : decode cX3_pointsUpTo 83 = .ok (.iload 4, 2) := by decide +kernel
theorem dX3_pointsUpTo_85 : decode cX3_pointsUpTo 85 = .ok (.ireturn, 1) := by decide +kernel
set_option maxRecDepth 20000 in
theorem ggX3_strikeAllOf_Jx4a65c_size_8abf5 : GoodIn wsX3_strikeAllOf wsJx4a65c_size_8abf5 := goodIn_r _ [9, 10, 48, 49, 50] (by decide +kernel) (by decide +kernel)
set_option maxRecDepth 20000 in
theorem gX3_strikeAllOf_Jx4a65c_size_8abf5 : GoodIn wsX3_strikeAllOf (wsV RX3 117 RJx4a65c yJx4a65c_size_8abf5 wsJx4a65c_size_8abf5) := goodIn_app (goodIn_of _ (by decide +kernel)) ggX3_strikeAllOf_Jx4a65c_size_8abf5
set_option maxRecDepth 20000 in
theorem ggX3_strikeAllOf_Jx4a65c_get_915e3 : GoodIn wsX3_strikeAllOf wsJx4a65c_get_915e3 := goodIn_r _ [14, 10, 15, 16, 17, 18, 19, 20, 21, 22, 23, 24, 25, 8, 26, 27, 48, 49, 50] (by decide +kernel) (by decide +kernel)
set_option maxRecDepth 20000 in
theorem gX3_strikeAllOf_Jx4a65c_get_915e3 : GoodIn wsX3_strikeAllOf (wsV RX3 194 RJx4a65c yJx4a65c_get_915e3 wsJx4a65c_get_915e3) := goodIn_app (goodIn_of _ (by decide +kernel)) ggX3_strikeAllOf_Jx4a65c_get_915e3
theorem dX3_strikeAllOf_0 : decode cX3_strikeAllOf 0 = .ok (.iconst 0, 1) := by decide +kernel
theorem dX3_strikeAllOf_1 : decode cX3_strikeAllOf 1 = .ok (.istore_n 2, 1) := by decide +kernel
theorem dX3_strikeAllOf_2 : decode cX3_strikeAllOf 2 = .ok (.iload_n 2, 1) := by decide +kernel
theorem dX3_strikeAllOf_3 : decode cX3_strikeAllOf 3 = .ok (.aload_n 0, 1) := by decide +kernel
theorem dX3_strikeAllOf_4 : decode cX3_strikeAllOf 4 = .ok (.getfield 26, 3) := by decide +kernel
theorem dX3_strikeAllOf_7 : decode cX3_strikeAllOf 7 = .ok (.invokevirtual 117, 3) := by decide +kernel
theorem dX3_strikeAllOf_10 : decode cX3_strikeAllOf 10 = .ok (.if_icmp .ge 34, 3) := by decide +kernel
theorem dX3_strikeAllOf_13 : decode cX3_strikeAllOf 13 = .ok (.aload_n 0, 1) := by decide +kernel
theorem dX3_strikeAllOf_14 : decode cX3_strikeAllOf 14 = .ok (.getfield 26, 3) := by decide +kernel
theorem dX3_strikeAllOf_17 : decode cX3_strikeAllOf 17 = .ok (.iload_n 2, 1) := by decide +kernel
theorem dX3_strikeAllOf_18 : decode cX3_strikeAllOf 18 = .ok (.invokevirtual 194, 3) := by decide +kernel
theorem dX3_strikeAllOf_21 : decode cX3_strikeAllOf 21 = .ok (.checkcast 150, 3) := by decide +kernel
theorem dX3_strikeAllOf_24 : decode cX3_strikeAllOf 24 = .ok (.astore_n 3, 1) := by decide +kernel
theorem dX3_strikeAllOf_25 : decode cX3_strikeAllOf 25 = .ok (.aload_n 3, 1) := by decide +kernel
theorem dX3_strikeAllOf_26 : decode cX3_strikeAllOf 26 = .ok (.getfield 239, 3) := by decide +kernel
theorem dX3_strikeAllOf_29 : decode cX3_strikeAllOf 29 = .ok (.aload_n 1, 1) := by decide +kernel
theorem dX3_strikeAllOf_30 : decode cX3_strikeAllOf 30 = .ok (.if_acmp .ne 8, 3) := by decide +kernel
theorem dX3_strikeAllOf_33 : decode cX3_strikeAllOf 33 = .ok (.aload_n 3, 1) := by decide +kernel
theorem dX3_strikeAllOf_34 : decode cX3_strikeAllOf 34 = .ok (.iconst 1, 1) := by decide +kernel
theorem dX3_strikeAllOf_35 : decode cX3_strikeAllOf 35 = .ok (.putfield 163, 3) := by decide +kernel
theorem dX3_strikeAllOf_38 : decode cX3_strikeAllOf 38 = .ok (.iinc 2 1, 3) := by decide +kernel
theorem dX3_strikeAllOf_41 : decode cX3_strikeAllOf 41 = .ok (.goto (-39), 3) := by decide +kernel
theorem dX3_strikeAllOf_44 : decode cX3_strikeAllOf 44 = .ok (.return_, 1) := by decide +kernel
theorem dX3_uncountFramesOf_0 : decode cX3_uncountFramesOf 0 = .ok (.iconst 0, 1) := by decide +kernel
theorem dX3_uncountFramesOf_1 : decode cX3_uncountFramesOf 1 = .ok (.istore_n 2, 1) := by decide +kernel
theorem dX3_uncountFramesOf_2 : decode cX3_uncountFramesOf 2 = .ok (.iload_n 2, 1) := by decide +kernel
theorem dX3_uncountFramesOf_3 : decode cX3_uncountFramesOf 3 = .ok (.aload_n 0, 1) := by decide +kernel
theorem dX3_uncountFramesOf_4 : decode cX3_uncountFramesOf 4 = .ok (.getfield 85, 3) := by decide +kernel
theorem dX3_uncountFramesOf_7 : decode cX3_uncountFramesOf 7 = .ok (.if_icmp .ge 51, 3) := by decide +kernel
theorem dX3_uncountFramesOf_10 : decode cX3_uncountFramesOf 10 = .ok (.aload_n 0, 1) := by decide +kernel
theorem dX3_uncountFramesOf_11 : decode cX3_uncountFramesOf 11 = .ok (.getfield 51, 3) := by decide +kernel
theorem dX3_uncountFramesOf_14 : decode cX3_uncountFramesOf 14 = .ok (.iload_n 2, 1) := by decide +kernel
theorem dX3_uncountFramesOf_15 : decode cX3_uncountFramesOf 15 = .ok (.iaload, 1) := by decide +kernel
theorem dX3_uncountFramesOf_16 : decode cX3_uncountFramesOf 16 = .ok (.istore_n 3, 1) := by decide +kernel
theorem dX3_uncountFramesOf_17 : decode cX3_uncountFramesOf 17 = .ok (.aload_n 0, 1) := by decide +kernel
theorem dX3_uncountFramesOf_18 : decode cX3_uncountFramesOf 18 = .ok (.getfield 45, 3) := by decide +kernel
theorem dX3_uncountFramesOf_21 : decode cX3_uncountFramesOf 21 = .ok (.iload_n 2, 1) := by decide +kernel
theorem dX3_uncountFramesOf_22 : decode cX3_uncountFramesOf 22 = .ok (.iaload, 1) := by decide +kernel
theorem dX3_uncountFramesOf_23 : decode cX3_uncountFramesOf 23 = .ok (.aload_n 1, 1) := by decide +kernel
theorem dX3_uncountFramesOf_24 : decode cX3_uncountFramesOf 24 = .ok (.getfield 249, 3) := by decide +kernel
theorem dX3_uncountFramesOf_27 : decode cX3_uncountFramesOf 27 = .ok (.if_icmp .ne 25, 3) := by decide +kernel
theorem dX3_uncountFramesOf_30 : decode cX3_uncountFramesOf 30 = .ok (.iload_n 3, 1) := by decide +kernel
theorem dX3_uncountFramesOf_31 : decode cX3_uncountFramesOf 31 = .ok (.iconst (-1), 1) := by decide +kernel
theorem dX3_uncountFramesOf_32 : decode cX3_uncountFramesOf 32 = .ok (.if_icmp .eq 20, 3) := by decide +kernel
theorem dX3_uncountFramesOf_35 : decode cX3_uncountFramesOf 35 = .ok (.aload_n 0, 1) := by decide +kernel
theorem dX3_uncountFramesOf_36 : decode cX3_uncountFramesOf 36 = .ok (.getfield 32, 3) := by decide +kernel
theorem dX3_uncountFramesOf_39 : decode cX3_uncountFramesOf 39 = .ok (.iload_n 3, 1) := by decide +kernel
theorem dX3_uncountFramesOf_40 : decode cX3_uncountFramesOf 40 = .ok (.dup2, 1) := by decide +kernel
theorem dX3_uncountFramesOf_41 : decode cX3_uncountFramesOf 41 = .ok (.iaload, 1) := by decide +kernel
theorem dX3_uncountFramesOf_42 : decode cX3_uncountFramesOf 42 = .ok (.iconst 1, 1) := by decide +kernel
theorem dX3_uncountFramesOf_43 : decode cX3_uncountFramesOf 43 = .ok (.isub, 1) := by decide +kernel
theorem dX3_uncountFramesOf_44 : decode cX3_uncountFramesOf 44 = .ok (.iastore, 1) := by decide +kernel
theorem dX3_uncountFramesOf_45 : decode cX3_uncountFramesOf 45 = .ok (.aload_n 0, 1) := by decide +kernel
theorem dX3_uncountFramesOf_46 : decode cX3_uncountFramesOf 46 = .ok (.getfield 51, 3) := by decide +kernel
theorem dX3_uncountFramesOf_49 : decode cX3_uncountFramesOf 49 = .ok (.iload_n 2, 1) := by decide +kernel
theorem dX3_uncountFramesOf_50 : decode cX3_uncountFramesOf 50 = .ok (.iconst (-1), 1) := by decide +kernel
theorem dX3_uncountFramesOf_51 : decode cX3_uncountFramesOf 51 = .ok (.iastore, 1) := by decide +kernel
theorem dX3_uncountFramesOf_52 : decode cX3_uncountFramesOf 52 = .ok (.iinc 2 1, 3) := by decide +kernel
theorem dX3_uncountFramesOf_55 : decode cX3_uncountFramesOf 55 = .ok (.goto (-53), 3) := by decide +kernel
theorem dX3_uncountFramesOf_58 : decode cX3_uncountFramesOf 58 = .ok (.return_, 1) := by decide +kernel
theorem dX3_placeOf_0 : decode cX3_placeOf 0 = .ok (.iconst 0, 1) := by decide +kernel
theorem dX3_placeOf_1 : decode cX3_placeOf 1 = .ok (.istore_n 2, 1) := by decide +kernel
theorem dX3_placeOf_2 : decode cX3_placeOf 2 = .ok (.iconst 0, 1) := by decide +kernel
theorem dX3_placeOf_3 : decode cX3_placeOf 3 = .ok (.istore_n 3, 1) := by decide +kernel
theorem dX3_placeOf_4 : decode cX3_placeOf 4 = .ok (.iload_n 3, 1) := by decide +kernel
theorem dX3_placeOf_5 : decode cX3_placeOf 5 = .ok (.bipush 10, 2) := by decide +kernel
theorem dX3_placeOf_7 : decode cX3_placeOf 7 = .ok (.if_icmp .ge 47, 3) := by decide +kernel
theorem dX3_placeOf_10 : decode cX3_placeOf 10 = .ok (.aload_n 0, 1) := by decide +kernel
theorem dX3_placeOf_11 : decode cX3_placeOf 11 = .ok (.getfield 13, 3) := by decide +kernel
theorem dX3_placeOf_14 : decode cX3_placeOf 14 = .ok (.iload_n 3, 1) := by decide +kernel
theorem dX3_placeOf_15 : decode cX3_placeOf 15 = .ok (.iaload, 1) := by decide +kernel
theorem dX3_placeOf_16 : decode cX3_placeOf 16 = .ok (.aload_n 0, 1) := by decide +kernel
theorem dX3_placeOf_17 : decode cX3_placeOf 17 = .ok (.getfield 13, 3) := by decide +kernel
theorem dX3_placeOf_20 : decode cX3_placeOf 20 = .ok (.iload_n 1, 1) := by decide +kernel
theorem dX3_placeOf_21 : decode cX3_placeOf 21 = .ok (.iaload, 1) := by decide +kernel
theorem dX3_placeOf_22 : decode cX3_placeOf 22 = .ok (.if_icmp .gt 23, 3) := by decide +kernel
theorem dX3_placeOf_25 : decode cX3_placeOf 25 = .ok (.aload_n 0, 1) := by decide +kernel
theorem dX3_placeOf_26 : decode cX3_placeOf 26 = .ok (.getfield 13, 3) := by decide +kernel
theorem dX3_placeOf_29 : decode cX3_placeOf 29 = .ok (.iload_n 3, 1) := by decide +kernel
theorem dX3_placeOf_30 : decode cX3_placeOf 30 = .ok (.iaload, 1) := by decide +kernel
theorem dX3_placeOf_31 : decode cX3_placeOf 31 = .ok (.aload_n 0, 1) := by decide +kernel
theorem dX3_placeOf_32 : decode cX3_placeOf 32 = .ok (.getfield 13, 3) := by decide +kernel
theorem dX3_placeOf_35 : decode cX3_placeOf 35 = .ok (.iload_n 1, 1) := by decide +kernel
theorem dX3_placeOf_36 : decode cX3_placeOf 36 = .ok (.iaload, 1) := by decide +kernel
theorem dX3_placeOf_37 : decode cX3_placeOf 37 = .ok (.if_icmp .ne 11, 3) := by decide +kernel
theorem dX3_placeOf_40 : decode cX3_placeOf 40 = .ok (.iload_n 3, 1) := by decide +kernel
theorem dX3_placeOf_41 : decode cX3_placeOf 41 = .ok (.iload_n 1, 1) := by decide +kernel
theorem dX3_placeOf_42 : decode cX3_placeOf 42 = .ok (.if_icmp .ge 6, 3) := by decide +kernel
theorem dX3_placeOf_45 : decode cX3_placeOf 45 = .ok (.iinc 2 1, 3) := by decide +kernel
theorem dX3_placeOf_48 : decode cX3_placeOf 48 = .ok (.iinc 3 1, 3) := by decide +kernel
theorem dX3_placeOf_51 : decode cX3_placeOf 51 = .ok (.goto (-47), 3) := by decide +kernel
theorem dX3_placeOf_54 : decode cX3_placeOf 54 = .ok (.iload_n 2, 1) := by decide +kernel
theorem dX3_placeOf_55 : decode cX3_placeOf 55 = .ok (.ireturn, 1) := by decide +kernel
set_option maxRecDepth 20000 in
theorem ggX3_passOne_X3_hottestFight : GoodIn wsX3_passOne wsX3_hottestFight := goodIn_r _ [11, 1, 5, 6, 12, 13, 14, 15, 10, 16, 2, 17, 18, 19, 20, 21, 22, 23, 24, 25, 26, 27, 28, 29, 30, 31, 32, 33, 34, 35, 36, 37, 38, 39, 40, 41, 42, 43, 44, 45, 46, 47, 48, 49, 50, 51, 52, 53, 54, 55, 56, 57, 58, 59, 120, 121, 122, 123, 124, 125, 126, 127, 128, 129, 130, 131, 132, 133, 134, 135, 136, 137, 138, 139, 140, 141, 142, 143, 144] (by decide +kernel) (by decide +kernel)
set_option maxRecDepth 20000 in
theorem gX3_passOne_X3_hottestFight : GoodIn wsX3_passOne (wsV RX3 252 RX3 yX3_hottestFight wsX3_hottestFight) := goodIn_app (goodIn_of _ (by decide +kernel)) ggX3_passOne_X3_hottestFight
set_option maxRecDepth 20000 in
theorem ggX3_passOne_X3_cameraForAir : GoodIn wsX3_passOne wsX3_cameraForAir := goodIn_r _ [63, 3, 64, 13, 14, 15, 10, 16, 2, 65, 66, 67, 68, 69, 70, 17, 18, 19, 20, 21, 22, 23, 24, 25, 26, 27, 28, 29, 30, 31, 32, 33, 34, 35, 36, 37, 38, 39, 120, 121, 122, 123, 124, 125, 126, 127, 128, 129, 130, 131, 132, 133, 134, 145, 146, 147, 148, 142, 143, 144] (by decide +kernel) (by decide +kernel)
set_option maxRecDepth 20000 in
theorem gX3_passOne_X3_cameraForAir : GoodIn wsX3_passOne (wsV RX3 256 RX3 yX3_cameraForAir wsX3_cameraForAir) := goodIn_app (goodIn_of _ (by decide +kernel)) ggX3_passOne_X3_cameraForAir
set_option maxRecDepth 20000 in
theorem ggX3_passOne_X3_showFight : GoodIn wsX3_passOne wsX3_showFight := goodIn_r _ [74, 1, 2, 75, 76, 4, 77, 78, 79, 80, 10, 81, 45, 46, 82, 83, 84, 85, 86, 87, 88, 89, 90, 91, 120, 121, 122, 123, 124, 125, 126, 127, 128, 129, 130, 131, 132, 133, 134, 135, 136, 137, 138, 139, 140, 141] (by decide +kernel) (by decide +kernel)
set_option maxRecDepth 20000 in
theorem gX3_passOne_X3_showFight : GoodIn wsX3_passOne (wsV RX3 259 RX3 yX3_showFight wsX3_showFight) := goodIn_app (goodIn_of _ (by decide +kernel)) ggX3_passOne_X3_showFight
set_option maxRecDepth 20000 in
theorem ggX3_passOne_X3_letCamerasPass : GoodIn wsX3_passOne wsX3_letCamerasPass := goodIn_r _ [95, 64, 69, 17, 18, 19, 20, 21, 22, 23, 24, 25, 26, 27, 28, 29, 30, 31, 32, 33, 34, 35, 36, 37, 38, 39, 96, 97, 98, 99, 100, 101, 102, 103, 104, 89, 90, 91, 105, 106, 107, 108, 109, 120, 121, 122, 123, 124, 125, 126, 127, 128, 129, 130, 131, 132, 133, 134, 142, 143, 144, 145, 146, 147, 148] (by decide +kernel) (by decide +kernel)
set_option maxRecDepth 20000 in
theorem gX3_passOne_X3_letCamerasPass : GoodIn wsX3_passOne (wsV RX3 262 RX3 yX3_letCamerasPass wsX3_letCamerasPass) := goodIn_app (goodIn_of _ (by decide +kernel)) ggX3_passOne_X3_letCamerasPass
set_option maxRecDepth 20000 in
theorem ggX3_passOne_Jx4a65c_size_8abf5 : GoodIn wsX3_passOne wsJx4a65c_size_8abf5 := goodIn_r _ [21, 22, 142, 143, 144] (by decide +kernel) (by decide +kernel)
set_option maxRecDepth 20000 in
theorem gX3_passOne_Jx4a65c_size_8abf5 : GoodIn wsX3_passOne (wsV RX3 117 RJx4a65c yJx4a65c_size_8abf5 wsJx4a65c_size_8abf5) := goodIn_app (goodIn_of _ (by decide +kernel)) ggX3_passOne_Jx4a65c_size_8abf5
set_option maxRecDepth 20000 in
theorem ggX3_passOne_Jx4a65c_get_915e3 : GoodIn wsX3_passOne wsJx4a65c_get_915e3 := goodIn_r _ [26, 22, 27, 28, 29, 30, 31, 32, 33, 34, 35, 36, 37, 20, 38, 39, 142, 143, 144] (by decide +kernel) (by decide +kernel)
set_option maxRecDepth 20000 in
theorem gX3_passOne_Jx4a65c_get_915e3 : GoodIn wsX3_passOne (wsV RX3 194 RJx4a65c yJx4a65c_get_915e3 wsJx4a65c_get_915e3) := goodIn_app (goodIn_of _ (by decide +kernel)) ggX3_passOne_Jx4a65c_get_915e3
set_option maxRecDepth 20000 in
theorem ggX3_passOne_X2_letFramePass : GoodIn wsX3_passOne wsX2_letFramePass := goodIn_r _ [113, 52, 135, 136, 137, 138, 139, 140, 141] (by decide +kernel) (by decide +kernel)
set_option maxRecDepth 20000 in
theorem gX3_passOne_X2_letFramePass : GoodIn wsX3_passOne (wsV RX3 265 RX2 yX2_letFramePass wsX2_letFramePass) := goodIn_app (goodIn_of _ (by decide +kernel)) ggX3_passOne_X2_letFramePass
set_option maxRecDepth 20000 in
theorem ggX3_passOne_X3_letViewersSee : GoodIn wsX3_passOne wsX3_letViewersSee := goodIn_r _ [117, 118, 2, 119, 88, 89, 90, 91, 120, 121, 122, 123, 124, 125, 126, 127, 128, 129, 130, 131, 132, 133, 134] (by decide +kernel) (by decide +kernel)
set_option maxRecDepth 20000 in
theorem gX3_passOne_X3_letViewersSee : GoodIn wsX3_passOne (wsV RX3 131 RX3 yX3_letViewersSee wsX3_letViewersSee) := goodIn_app (goodIn_of _ (by decide +kernel)) ggX3_passOne_X3_letViewersSee
theorem dX3_passOne_0 : decode cX3_passOne 0 = .ok (.aload_n 0, 1) := by decide +kernel
theorem dX3_passOne_1 : decode cX3_passOne 1 = .ok (.invokevirtual 252, 3) := by decide +kernel
theorem dX3_passOne_4 : decode cX3_passOne 4 = .ok (.astore_n 1, 1) := by decide +kernel
theorem dX3_passOne_5 : decode cX3_passOne 5 = .ok (.aload_n 1, 1) := by decide +kernel
theorem dX3_passOne_6 : decode cX3_passOne 6 = .ok (.ifnonnull 7, 3) := by decide +kernel
theorem dX3_passOne_9 : decode cX3_passOne 9 = .ok (.iconst (-1), 1) := by decide +kernel
theorem dX3_passOne_10 : decode cX3_passOne 10 = .ok (.goto 7, 3) := by decide +kernel
theorem dX3_passOne_13 : decode cX3_passOne 13 = .ok (.aload_n 0, 1) := by decide +kernel
theorem dX3_passOne_14 : decode cX3_passOne 14 = .ok (.invokevirtual 256, 3) := by decide +kernel
theorem dX3_passOne_17 : decode cX3_passOne 17 = .ok (.istore_n 2, 1) := by decide +kernel
theorem dX3_passOne_18 : decode cX3_passOne 18 = .ok (.aload_n 0, 1) := by decide +kernel
theorem dX3_passOne_19 : decode cX3_passOne 19 = .ok (.getfield 45, 3) := by decide +kernel
theorem dX3_passOne_22 : decode cX3_passOne 22 = .ok (.aload_n 0, 1) := by decide +kernel
theorem dX3_passOne_23 : decode cX3_passOne 23 = .ok (.getfield 85, 3) := by decide +kernel
theorem dX3_passOne_26 : decode cX3_passOne 26 = .ok (.iconst (-1), 1) := by decide +kernel
theorem dX3_passOne_27 : decode cX3_passOne 27 = .ok (.iastore, 1) := by decide +kernel
theorem dX3_passOne_28 : decode cX3_passOne 28 = .ok (.aload_n 0, 1) := by decide +kernel
theorem dX3_passOne_29 : decode cX3_passOne 29 = .ok (.getfield 48, 3) := by decide +kernel
theorem dX3_passOne_32 : decode cX3_passOne 32 = .ok (.aload_n 0, 1) := by decide +kernel
theorem dX3_passOne_33 : decode cX3_passOne 33 = .ok (.getfield 85, 3) := by decide +kernel
theorem dX3_passOne_36 : decode cX3_passOne 36 = .ok (.iload_n 2, 1) := by decide +kernel
theorem dX3_passOne_37 : decode cX3_passOne 37 = .ok (.iastore, 1) := by decide +kernel
theorem dX3_passOne_38 : decode cX3_passOne 38 = .ok (.aload_n 0, 1) := by decide +kernel
theorem dX3_passOne_39 : decode cX3_passOne 39 = .ok (.getfield 51, 3) := by decide +kernel
theorem dX3_passOne_42 : decode cX3_passOne 42 = .ok (.aload_n 0, 1) := by decide +kernel
theorem dX3_passOne_43 : decode cX3_passOne 43 = .ok (.getfield 85, 3) := by decide +kernel
theorem dX3_passOne_46 : decode cX3_passOne 46 = .ok (.iconst (-1), 1) := by decide +kernel
theorem dX3_passOne_47 : decode cX3_passOne 47 = .ok (.iastore, 1) := by decide +kernel
theorem dX3_passOne_48 : decode cX3_passOne 48 = .ok (.aload_n 1, 1) := by decide +kernel
theorem dX3_passOne_49 : decode cX3_passOne 49 = .ok (.ifnull 13, 3) := by decide +kernel
theorem dX3_passOne_52 : decode cX3_passOne 52 = .ok (.iload_n 2, 1) := by decide +kernel
theorem dX3_passOne_53 : decode cX3_passOne 53 = .ok (.iconst (-1), 1) := by decide +kernel
theorem dX3_passOne_54 : decode cX3_passOne 54 = .ok (.if_icmp .eq 8, 3) := by decide +kernel
theorem dX3_passOne_57 : decode cX3_passOne 57 = .ok (.aload_n 0, 1) := by decide +kernel
theorem dX3_passOne_58 : decode cX3_passOne 58 = .ok (.aload_n 1, 1) := by decide +kernel
theorem dX3_passOne_59 : decode cX3_passOne 59 = .ok (.invokevirtual 259, 3) := by decide +kernel
theorem dX3_passOne_62 : decode cX3_passOne 62 = .ok (.aload_n 0, 1) := by decide +kernel
theorem dX3_passOne_63 : decode cX3_passOne 63 = .ok (.iload_n 2, 1) := by decide +kernel
theorem dX3_passOne_64 : decode cX3_passOne 64 = .ok (.invokevirtual 262, 3) := by decide +kernel
theorem dX3_passOne_67 : decode cX3_passOne 67 = .ok (.iconst 0, 1) := by decide +kernel
theorem dX3_passOne_68 : decode cX3_passOne 68 = .ok (.istore_n 3, 1) := by decide +kernel
theorem dX3_passOne_69 : decode cX3_passOne 69 = .ok (.iload_n 3, 1) := by decide +kernel
theorem dX3_passOne_70 : decode cX3_passOne 70 = .ok (.aload_n 0, 1) := by decide +kernel
theorem dX3_passOne_71 : decode cX3_passOne 71 = .ok (.getfield 19, 3) := by decide +kernel
theorem dX3_passOne_74 : decode cX3_passOne 74 = .ok (.invokevirtual 117, 3) := by decide +kernel
theorem dX3_passOne_77 : decode cX3_passOne 77 = .ok (.if_icmp .ge 23, 3) := by decide +kernel
theorem dX3_passOne_80 : decode cX3_passOne 80 = .ok (.aload_n 0, 1) := by decide +kernel
theorem dX3_passOne_81 : decode cX3_passOne 81 = .ok (.getfield 19, 3) := by decide +kernel
theorem dX3_passOne_84 : decode cX3_passOne 84 = .ok (.iload_n 3, 1) := by decide +kernel
theorem dX3_passOne_85 : decode cX3_passOne 85 = .ok (.invokevirtual 194, 3) := by decide +kernel
theorem dX3_passOne_88 : decode cX3_passOne 88 = .ok (.checkcast 89, 3) := by decide +kernel
theorem dX3_passOne_91 : decode cX3_passOne 91 = .ok (.invokevirtual 265, 3) := by decide +kernel
theorem dX3_passOne_94 : decode cX3_passOne 94 = .ok (.iinc 3 1, 3) := by decide +kernel
theorem dX3_passOne_97 : decode cX3_passOne 97 = .ok (.goto (-28), 3) := by decide +kernel
theorem dX3_passOne_100 : decode cX3_passOne 100 = .ok (.aload_n 0, 1) := by decide +kernel
theorem dX3_passOne_101 : decode cX3_passOne 101 = .ok (.dup, 1) := by decide +kernel
theorem dX3_passOne_102 : decode cX3_passOne 102 = .ok (.getfield 85, 3) := by decide +kernel
theorem dX3_passOne_105 : decode cX3_passOne 105 = .ok (.iconst 1, 1) := by decide +kernel
theorem dX3_passOne_106 : decode cX3_passOne 106 = .ok (.iadd, 1) := by decide +kernel
theorem dX3_passOne_107 : decode cX3_passOne 107 = .ok (.putfield 85, 3) := by decide +kernel
theorem dX3_passOne_110 : decode cX3_passOne 110 = .ok (.aload_n 0, 1) := by decide +kernel
theorem dX3_passOne_111 : decode cX3_passOne 111 = .ok (.invokevirtual 131, 3) := by decide +kernel
theorem dX3_passOne_114 : decode cX3_passOne 114 = .ok (.return_, 1) := by decide +kernel
set_option maxRecDepth 20000 in
theorem ggX3_hottestFight_X3_ofFrameAhead : GoodIn wsX3_hottestFight wsX3_ofFrameAhead := goodIn_r _ [9, 10, 54, 55, 56, 57, 58, 59, 60, 61, 62, 63, 64, 65, 66, 67, 68] (by decide +kernel) (by decide +kernel)
set_option maxRecDepth 20000 in
theorem gX3_hottestFight_X3_ofFrameAhead : GoodIn wsX3_hottestFight (wsV RX3 268 RX3 yX3_ofFrameAhead wsX3_ofFrameAhead) := goodIn_app (goodIn_of _ (by decide +kernel)) ggX3_hottestFight_X3_ofFrameAhead
set_option maxRecDepth 20000 in
theorem ggX3_hottestFight_Jx4a65c_size_8abf5 : GoodIn wsX3_hottestFight wsJx4a65c_size_8abf5 := goodIn_r _ [15, 16, 76, 77, 78] (by decide +kernel) (by decide +kernel)
set_option maxRecDepth 20000 in
theorem gX3_hottestFight_Jx4a65c_size_8abf5 : GoodIn wsX3_hottestFight (wsV RX3 117 RJx4a65c yJx4a65c_size_8abf5 wsJx4a65c_size_8abf5) := goodIn_app (goodIn_of _ (by decide +kernel)) ggX3_hottestFight_Jx4a65c_size_8abf5
set_option maxRecDepth 20000 in
theorem ggX3_hottestFight_Jx4a65c_get_915e3 : GoodIn wsX3_hottestFight wsJx4a65c_get_915e3 := goodIn_r _ [20, 16, 21, 22, 23, 24, 25, 26, 27, 28, 29, 30, 31, 14, 32, 33, 76, 77, 78] (by decide +kernel) (by decide +kernel)
set_option maxRecDepth 20000 in
theorem gX3_hottestFight_Jx4a65c_get_915e3 : GoodIn wsX3_hottestFight (wsV RX3 194 RJx4a65c yJx4a65c_get_915e3 wsJx4a65c_get_915e3) := goodIn_app (goodIn_of _ (by decide +kernel)) ggX3_hottestFight_Jx4a65c_get_915e3
set_option maxRecDepth 20000 in
theorem ggX3_hottestFight_X3_heatOf : GoodIn wsX3_hottestFight wsX3_heatOf := goodIn_r _ [37, 38, 39, 40, 41, 42, 43, 44, 45, 46, 47, 48, 49, 50, 51, 52, 53, 54, 55, 56, 57, 58, 59, 60, 61, 62, 63, 64, 65, 66, 67, 68, 69, 70, 71, 72, 73, 74, 75] (by decide +kernel) (by decide +kernel)
set_option maxRecDepth 20000 in
theorem gX3_hottestFight_X3_heatOf : GoodIn wsX3_hottestFight (wsV RX3 272 RX3 yX3_heatOf wsX3_heatOf) := goodIn_app (goodIn_of _ (by decide +kernel)) ggX3_hottestFight_X3_heatOf
theorem dX3_hottestFight_0 : decode cX3_hottestFight 0 = .ok (.aload_n 0, 1) := by decide +kernel
theorem dX3_hottestFight_1 : decode cX3_hottestFight 1 = .ok (.aload_n 0, 1) := by decide +kernel
theorem dX3_hottestFight_2 : decode cX3_hottestFight 2 = .ok (.getfield 45, 3) := by decide +kernel
theorem dX3_hottestFight_5 : decode cX3_hottestFight 5 = .ok (.invokevirtual 268, 3) := by decide +kernel
theorem dX3_hottestFight_8 : decode cX3_hottestFight 8 = .ok (.istore_n 1, 1) := by decide +kernel
theorem dX3_hottestFight_9 : decode cX3_hottestFight 9 = .ok (.aconst_null, 1) := by decide +kernel
theorem dX3_hottestFight_10 : decode cX3_hottestFight 10 = .ok (.astore_n 2, 1) := by decide +kernel
theorem dX3_hottestFight_11 : decode cX3_hottestFight 11 = .ok (.iconst 0, 1) := by decide +kernel
theorem dX3_hottestFight_12 : decode cX3_hottestFight 12 = .ok (.istore_n 3, 1) := by decide +kernel
theorem dX3_hottestFight_13 : decode cX3_hottestFight 13 = .ok (.iconst 0, 1) := by decide +kernel
theorem dX3_hottestFight_14 : decode cX3_hottestFight 14 = .ok (.istore 4, 2) := by decide +kernel
theorem dX3_hottestFight_16 : decode cX3_hottestFight 16 = .ok (.iload 4, 2) := by decide +kernel
theorem dX3_hottestFight_18 : decode cX3_hottestFight 18 = .ok (.aload_n 0, 1) := by decide +kernel
theorem dX3_hottestFight_19 : decode cX3_hottestFight 19 = .ok (.getfield 19, 3) := by decide +kernel
theorem dX3_hottestFight_22 : decode cX3_hottestFight 22 = .ok (.invokevirtual 117, 3) := by decide +kernel
theorem dX3_hottestFight_25 : decode cX3_hottestFight 25 = .ok (.if_icmp .ge 67, 3) := by decide +kernel
theorem dX3_hottestFight_28 : decode cX3_hottestFight 28 = .ok (.aload_n 0, 1) := by decide +kernel
theorem dX3_hottestFight_29 : decode cX3_hottestFight 29 = .ok (.getfield 19, 3) := by decide +kernel
theorem dX3_hottestFight_32 : decode cX3_hottestFight 32 = .ok (.iload 4, 2) := by decide +kernel
theorem dX3_hottestFight_34 : decode cX3_hottestFight 34 = .ok (.invokevirtual 194, 3) := by decide +kernel
theorem dX3_hottestFight_37 : decode cX3_hottestFight 37 = .ok (.checkcast 89, 3) := by decide +kernel
theorem dX3_hottestFight_40 : decode cX3_hottestFight 40 = .ok (.astore 5, 2) := by decide +kernel
theorem dX3_hottestFight_42 : decode cX3_hottestFight 42 = .ok (.aload 5, 2) := by decide +kernel
theorem dX3_hottestFight_44 : decode cX3_hottestFight 44 = .ok (.getfield 100, 3) := by decide +kernel
theorem dX3_hottestFight_47 : decode cX3_hottestFight 47 = .ok (.ifCond .ne 39, 3) := by decide +kernel
theorem dX3_hottestFight_50 : decode cX3_hottestFight 50 = .ok (.aload_n 0, 1) := by decide +kernel
theorem dX3_hottestFight_51 : decode cX3_hottestFight 51 = .ok (.aload 5, 2) := by decide +kernel
theorem dX3_hottestFight_53 : decode cX3_hottestFight 53 = .ok (.invokevirtual 272, 3) := by decide +kernel
theorem dX3_hottestFight_56 : decode cX3_hottestFight 56 = .ok (.istore 6, 2) := by decide +kernel
theorem dX3_hottestFight_58 : decode cX3_hottestFight 58 = .ok (.aload_n 2, 1) := by decide +kernel
theorem dX3_hottestFight_59 : decode cX3_hottestFight 59 = .ok (.ifnull 21, 3) := by decide +kernel
theorem dX3_hottestFight_62 : decode cX3_hottestFight 62 = .ok (.iload 6, 2) := by decide +kernel
theorem dX3_hottestFight_64 : decode cX3_hottestFight 64 = .ok (.iload_n 3, 1) := by decide +kernel
theorem dX3_hottestFight_65 : decode cX3_hottestFight 65 = .ok (.if_icmp .gt 15, 3) := by decide +kernel
theorem dX3_hottestFight_68 : decode cX3_hottestFight 68 = .ok (.iload 6, 2) := by decide +kernel
theorem dX3_hottestFight_70 : decode cX3_hottestFight 70 = .ok (.iload_n 3, 1) := by decide +kernel
theorem dX3_hottestFight_71 : decode cX3_hottestFight 71 = .ok (.if_icmp .ne 15, 3) := by decide +kernel
theorem dX3_hottestFight_74 : decode cX3_hottestFight 74 = .ok (.iload 4, 2) := by decide +kernel
theorem dX3_hottestFight_76 : decode cX3_hottestFight 76 = .ok (.iload_n 1, 1) := by decide +kernel
theorem dX3_hottestFight_77 : decode cX3_hottestFight 77 = .ok (.if_icmp .ne 9, 3) := by decide +kernel
theorem dX3_hottestFight_80 : decode cX3_hottestFight 80 = .ok (.aload 5, 2) := by decide +kernel
theorem dX3_hottestFight_82 : decode cX3_hottestFight 82 = .ok (.astore_n 2, 1) := by decide +kernel
theorem dX3_hottestFight_83 : decode cX3_hottestFight 83 = .ok (.iload 6, 2) := by decide +kernel
theorem dX3_hottestFight_85 : decode cX3_hottestFight 85 = .ok (.istore_n 3, 1) := by decide +kernel
theorem dX3_hottestFight_86 : decode cX3_hottestFight 86 = .ok (.iinc 4 1, 3) := by decide +kernel
theorem dX3_hottestFight_89 : decode cX3_hottestFight 89 = .ok (.goto (-73), 3) := by decide +kernel
theorem dX3_hottestFight_92 : decode cX3_hottestFight 92 = .ok (.aload_n 2, 1) := by decide +kernel
theorem dX3_hottestFight_93 : decode cX3_hottestFight 93 = .ok (.areturn, 1) := by decide +kernel
set_option maxRecDepth 20000 in
theorem ggX3_heatOf_X2_heatOfBlows : GoodIn wsX3_heatOf wsX2_heatOfBlows := goodIn_r _ [8, 9, 10, 11, 12, 13, 14, 15, 16, 32, 33, 34, 35, 36, 37, 38] (by decide +kernel) (by decide +kernel)
set_option maxRecDepth 20000 in
theorem gX3_heatOf_X2_heatOfBlows : GoodIn wsX3_heatOf (wsV RX3 276 RX2 yX2_heatOfBlows wsX2_heatOfBlows) := goodIn_app (goodIn_of _ (by decide +kernel)) ggX3_heatOf_X2_heatOfBlows
theorem dX3_heatOf_0 : decode cX3_heatOf 0 = .ok (.aload_n 0, 1) := by decide +kernel
theorem dX3_heatOf_1 : decode cX3_heatOf 1 = .ok (.getfield 9, 3) := by decide +kernel
theorem dX3_heatOf_4 : decode cX3_heatOf 4 = .ok (.aload_n 1, 1) := by decide +kernel
theorem dX3_heatOf_5 : decode cX3_heatOf 5 = .ok (.getfield 88, 3) := by decide +kernel
theorem dX3_heatOf_8 : decode cX3_heatOf 8 = .ok (.iaload, 1) := by decide +kernel
theorem dX3_heatOf_9 : decode cX3_heatOf 9 = .ok (.aload_n 0, 1) := by decide +kernel
theorem dX3_heatOf_10 : decode cX3_heatOf 10 = .ok (.getfield 9, 3) := by decide +kernel
theorem dX3_heatOf_13 : decode cX3_heatOf 13 = .ok (.aload_n 1, 1) := by decide +kernel
theorem dX3_heatOf_14 : decode cX3_heatOf 14 = .ok (.getfield 97, 3) := by decide +kernel
theorem dX3_heatOf_17 : decode cX3_heatOf 17 = .ok (.iaload, 1) := by decide +kernel
theorem dX3_heatOf_18 : decode cX3_heatOf 18 = .ok (.iadd, 1) := by decide +kernel
theorem dX3_heatOf_19 : decode cX3_heatOf 19 = .ok (.aload_n 1, 1) := by decide +kernel
theorem dX3_heatOf_20 : decode cX3_heatOf 20 = .ok (.invokevirtual 276, 3) := by decide +kernel
theorem dX3_heatOf_23 : decode cX3_heatOf 23 = .ok (.iadd, 1) := by decide +kernel
theorem dX3_heatOf_24 : decode cX3_heatOf 24 = .ok (.ireturn, 1) := by decide +kernel
set_option maxRecDepth 20000 in
theorem ggX3_cameraForAir_X3_ofFrameAhead : GoodIn wsX3_cameraForAir wsX3_ofFrameAhead := goodIn_r _ [7, 8, 38, 39, 40, 41, 42, 43, 44, 45, 46, 47, 48, 49, 50, 51, 52] (by decide +kernel) (by decide +kernel)
set_option maxRecDepth 20000 in
theorem gX3_cameraForAir_X3_ofFrameAhead : GoodIn wsX3_cameraForAir (wsV RX3 268 RX3 yX3_ofFrameAhead wsX3_ofFrameAhead) := goodIn_app (goodIn_of _ (by decide +kernel)) ggX3_cameraForAir_X3_ofFrameAhead
set_option maxRecDepth 20000 in
theorem ggX3_cameraForAir_X3_canBeOnAir : GoodIn wsX3_cameraForAir wsX3_canBeOnAir := goodIn_r _ [12, 2, 13, 14, 15, 16, 17, 18, 19, 20, 21, 22, 23, 24, 25, 26, 27, 28, 29, 30, 31, 32, 33, 34, 35, 36, 37, 38, 39, 40, 41, 42, 43, 44, 45, 46, 47, 48, 49, 50, 51, 52, 53, 54, 55, 56, 57, 58, 59] (by decide +kernel) (by decide +kernel)
set_option maxRecDepth 20000 in
theorem gX3_cameraForAir_X3_canBeOnAir : GoodIn wsX3_cameraForAir (wsV RX3 279 RX3 yX3_canBeOnAir wsX3_canBeOnAir) := goodIn_app (goodIn_of _ (by decide +kernel)) ggX3_cameraForAir_X3_canBeOnAir
set_option maxRecDepth 20000 in
theorem ggX3_cameraForAir_Jx4a65c_size_8abf5 : GoodIn wsX3_cameraForAir wsJx4a65c_size_8abf5 := goodIn_r _ [19, 20, 57, 58, 59] (by decide +kernel) (by decide +kernel)
set_option maxRecDepth 20000 in
theorem gX3_cameraForAir_Jx4a65c_size_8abf5 : GoodIn wsX3_cameraForAir (wsV RX3 117 RJx4a65c yJx4a65c_size_8abf5 wsJx4a65c_size_8abf5) := goodIn_app (goodIn_of _ (by decide +kernel)) ggX3_cameraForAir_Jx4a65c_size_8abf5
theorem dX3_cameraForAir_0 : decode cX3_cameraForAir 0 = .ok (.aload_n 0, 1) := by decide +kernel
theorem dX3_cameraForAir_1 : decode cX3_cameraForAir 1 = .ok (.aload_n 0, 1) := by decide +kernel
theorem dX3_cameraForAir_2 : decode cX3_cameraForAir 2 = .ok (.getfield 48, 3) := by decide +kernel
theorem dX3_cameraForAir_5 : decode cX3_cameraForAir 5 = .ok (.invokevirtual 268, 3) := by decide +kernel
theorem dX3_cameraForAir_8 : decode cX3_cameraForAir 8 = .ok (.istore_n 1, 1) := by decide +kernel
theorem dX3_cameraForAir_9 : decode cX3_cameraForAir 9 = .ok (.aload_n 0, 1) := by decide +kernel
theorem dX3_cameraForAir_10 : decode cX3_cameraForAir 10 = .ok (.iload_n 1, 1) := by decide +kernel
theorem dX3_cameraForAir_11 : decode cX3_cameraForAir 11 = .ok (.invokevirtual 279, 3) := by decide +kernel
theorem dX3_cameraForAir_14 : decode cX3_cameraForAir 14 = .ok (.ifCond .eq 5, 3) := by decide +kernel
theorem dX3_cameraForAir_17 : decode cX3_cameraForAir 17 = .ok (.iload_n 1, 1) := by decide +kernel
theorem dX3_cameraForAir_18 : decode cX3_cameraForAir 18 = .ok (.ireturn, 1) := by decide +kernel
theorem dX3_cameraForAir_19 : decode cX3_cameraForAir 19 = .ok (.iconst 0, 1) := by decide +kernel
theorem dX3_cameraForAir_20 : decode cX3_cameraForAir 20 = .ok (.istore_n 2, 1) := by decide +kernel
theorem dX3_cameraForAir_21 : decode cX3_cameraForAir 21 = .ok (.iload_n 2, 1) := by decide +kernel
theorem dX3_cameraForAir_22 : decode cX3_cameraForAir 22 = .ok (.aload_n 0, 1) := by decide +kernel
theorem dX3_cameraForAir_23 : decode cX3_cameraForAir 23 = .ok (.getfield 23, 3) := by decide +kernel
theorem dX3_cameraForAir_26 : decode cX3_cameraForAir 26 = .ok (.invokevirtual 117, 3) := by decide +kernel
theorem dX3_cameraForAir_29 : decode cX3_cameraForAir 29 = .ok (.if_icmp .ge 19, 3) := by decide +kernel
theorem dX3_cameraForAir_32 : decode cX3_cameraForAir 32 = .ok (.aload_n 0, 1) := by decide +kernel
theorem dX3_cameraForAir_33 : decode cX3_cameraForAir 33 = .ok (.iload_n 2, 1) := by decide +kernel
theorem dX3_cameraForAir_34 : decode cX3_cameraForAir 34 = .ok (.invokevirtual 279, 3) := by decide +kernel
theorem dX3_cameraForAir_37 : decode cX3_cameraForAir 37 = .ok (.ifCond .eq 5, 3) := by decide +kernel
theorem dX3_cameraForAir_40 : decode cX3_cameraForAir 40 = .ok (.iload_n 2, 1) := by decide +kernel
theorem dX3_cameraForAir_41 : decode cX3_cameraForAir 41 = .ok (.ireturn, 1) := by decide +kernel
theorem dX3_cameraForAir_42 : decode cX3_cameraForAir 42 = .ok (.iinc 2 1, 3) := by decide +kernel
theorem dX3_cameraForAir_45 : decode cX3_cameraForAir 45 = .ok (.goto (-24), 3) := by decide +kernel
theorem dX3_cameraForAir_48 : decode cX3_cameraForAir 48 = .ok (.iconst (-1), 1) := by decide +kernel
theorem dX3_cameraForAir_49 : decode cX3_cameraForAir 49 = .ok (.ireturn, 1) := by decide +kernel
set_option maxRecDepth 20000 in
theorem ggX3_canBeOnAir_Jx4a65c_size_8abf5 : GoodIn wsX3_canBeOnAir wsJx4a65c_size_8abf5 := goodIn_r _ [8, 9, 46, 47, 48] (by decide +kernel) (by decide +kernel)
set_option maxRecDepth 20000 in
theorem gX3_canBeOnAir_Jx4a65c_size_8abf5 : GoodIn wsX3_canBeOnAir (wsV RX3 117 RJx4a65c yJx4a65c_size_8abf5 wsJx4a65c_size_8abf5) := goodIn_app (goodIn_of _ (by decide +kernel)) ggX3_canBeOnAir_Jx4a65c_size_8abf5
set_option maxRecDepth 20000 in
theorem ggX3_canBeOnAir_Jx4a65c_get_915e3 : GoodIn wsX3_canBeOnAir wsJx4a65c_get_915e3 := goodIn_r _ [13, 9, 14, 15, 16, 17, 18, 19, 20, 21, 22, 23, 24, 7, 25, 26, 46, 47, 48] (by decide +kernel) (by decide +kernel)
set_option maxRecDepth 20000 in
theorem gX3_canBeOnAir_Jx4a65c_get_915e3 : GoodIn wsX3_canBeOnAir (wsV RX3 194 RJx4a65c yJx4a65c_get_915e3 wsJx4a65c_get_915e3) := goodIn_app (goodIn_of _ (by decide +kernel)) ggX3_canBeOnAir_Jx4a65c_get_915e3
theorem dX3_canBeOnAir_0 : decode cX3_canBeOnAir 0 = .ok (.iload_n 1, 1) := by decide +kernel
theorem dX3_canBeOnAir_1 : decode cX3_canBeOnAir 1 = .ok (.ifCond .lt 35, 3) := by decide +kernel
theorem dX3_canBeOnAir_4 : decode cX3_canBeOnAir 4 = .ok (.iload_n 1, 1) := by decide +kernel
theorem dX3_canBeOnAir_5 : decode cX3_canBeOnAir 5 = .ok (.aload_n 0, 1) := by decide +kernel
theorem dX3_canBeOnAir_6 : decode cX3_canBeOnAir 6 = .ok (.getfield 23, 3) := by decide +kernel
theorem dX3_canBeOnAir_9 : decode cX3_canBeOnAir 9 = .ok (.invokevirtual 117, 3) := by decide +kernel
theorem dX3_canBeOnAir_12 : decode cX3_canBeOnAir 12 = .ok (.if_icmp .ge 24, 3) := by decide +kernel
theorem dX3_canBeOnAir_15 : decode cX3_canBeOnAir 15 = .ok (.aload_n 0, 1) := by decide +kernel
theorem dX3_canBeOnAir_16 : decode cX3_canBeOnAir 16 = .ok (.getfield 23, 3) := by decide +kernel
theorem dX3_canBeOnAir_19 : decode cX3_canBeOnAir 19 = .ok (.iload_n 1, 1) := by decide +kernel
theorem dX3_canBeOnAir_20 : decode cX3_canBeOnAir 20 = .ok (.invokevirtual 194, 3) := by decide +kernel
theorem dX3_canBeOnAir_23 : decode cX3_canBeOnAir 23 = .ok (.checkcast 123, 3) := by decide +kernel
theorem dX3_canBeOnAir_26 : decode cX3_canBeOnAir 26 = .ok (.getfield 201, 3) := by decide +kernel
theorem dX3_canBeOnAir_29 : decode cX3_canBeOnAir 29 = .ok (.ifCond .ne 7, 3) := by decide +kernel
theorem dX3_canBeOnAir_32 : decode cX3_canBeOnAir 32 = .ok (.iconst 1, 1) := by decide +kernel
theorem dX3_canBeOnAir_33 : decode cX3_canBeOnAir 33 = .ok (.goto 4, 3) := by decide +kernel
theorem dX3_canBeOnAir_36 : decode cX3_canBeOnAir 36 = .ok (.iconst 0, 1) := by decide +kernel
theorem dX3_canBeOnAir_37 : decode cX3_canBeOnAir 37 = .ok (.ireturn, 1) := by decide +kernel
theorem dX3_ofFrameAhead_0 : decode cX3_ofFrameAhead 0 = .ok (.aload_n 0, 1) := by decide +kernel
theorem dX3_ofFrameAhead_1 : decode cX3_ofFrameAhead 1 = .ok (.getfield 85, 3) := by decide +kernel
theorem dX3_ofFrameAhead_4 : decode cX3_ofFrameAhead 4 = .ok (.ifCond .le 14, 3) := by decide +kernel
theorem dX3_ofFrameAhead_7 : decode cX3_ofFrameAhead 7 = .ok (.aload_n 1, 1) := by decide +kernel
theorem dX3_ofFrameAhead_8 : decode cX3_ofFrameAhead 8 = .ok (.aload_n 0, 1) := by decide +kernel
theorem dX3_ofFrameAhead_9 : decode cX3_ofFrameAhead 9 = .ok (.getfield 85, 3) := by decide +kernel
theorem dX3_ofFrameAhead_12 : decode cX3_ofFrameAhead 12 = .ok (.iconst 1, 1) := by decide +kernel
theorem dX3_ofFrameAhead_13 : decode cX3_ofFrameAhead 13 = .ok (.isub, 1) := by decide +kernel
theorem dX3_ofFrameAhead_14 : decode cX3_ofFrameAhead 14 = .ok (.iaload, 1) := by decide +kernel
theorem dX3_ofFrameAhead_15 : decode cX3_ofFrameAhead 15 = .ok (.goto 4, 3) := by decide +kernel
theorem dX3_ofFrameAhead_18 : decode cX3_ofFrameAhead 18 = .ok (.iconst (-1), 1) := by decide +kernel
theorem dX3_ofFrameAhead_19 : decode cX3_ofFrameAhead 19 = .ok (.ireturn, 1) := by decide +kernel
set_option maxRecDepth 20000 in
theorem ggX3_showFight_X3_sponsorOwedMost : GoodIn wsX3_showFight wsX3_sponsorOwedMost := goodIn_r _ [11, 12, 13, 14, 15, 16, 17, 10, 18, 19, 6, 20, 21, 22, 23, 39, 40, 41, 42, 43, 44, 45, 24, 25, 26, 27, 28, 29, 30, 31, 32, 33, 34, 35, 36, 37, 38] (by decide +kernel) (by decide +kernel)
set_option maxRecDepth 20000 in
theorem gX3_showFight_X3_sponsorOwedMost : GoodIn wsX3_showFight (wsV RX3 282 RX3 yX3_sponsorOwedMost wsX3_sponsorOwedMost) := goodIn_app (goodIn_of _ (by decide +kernel)) ggX3_showFight_X3_sponsorOwedMost
theorem dX3_showFight_0 : decode cX3_showFight 0 = .ok (.aload_n 0, 1) := by decide +kernel
theorem dX3_showFight_1 : decode cX3_showFight 1 = .ok (.getfield 45, 3) := by decide +kernel
theorem dX3_showFight_4 : decode cX3_showFight 4 = .ok (.aload_n 0, 1) := by decide +kernel
theorem dX3_showFight_5 : decode cX3_showFight 5 = .ok (.getfield 85, 3) := by decide +kernel
theorem dX3_showFight_8 : decode cX3_showFight 8 = .ok (.aload_n 1, 1) := by decide +kernel
theorem dX3_showFight_9 : decode cX3_showFight 9 = .ok (.getfield 249, 3) := by decide +kernel
theorem dX3_showFight_12 : decode cX3_showFight 12 = .ok (.iastore, 1) := by decide +kernel
theorem dX3_showFight_13 : decode cX3_showFight 13 = .ok (.aload_n 1, 1) := by decide +kernel
theorem dX3_showFight_14 : decode cX3_showFight 14 = .ok (.dup, 1) := by decide +kernel
theorem dX3_showFight_15 : decode cX3_showFight 15 = .ok (.getfield 187, 3) := by decide +kernel
theorem dX3_showFight_18 : decode cX3_showFight 18 = .ok (.iconst 1, 1) := by decide +kernel
theorem dX3_showFight_19 : decode cX3_showFight 19 = .ok (.iadd, 1) := by decide +kernel
theorem dX3_showFight_20 : decode cX3_showFight 20 = .ok (.putfield 187, 3) := by decide +kernel
theorem dX3_showFight_23 : decode cX3_showFight 23 = .ok (.aload_n 0, 1) := by decide +kernel
theorem dX3_showFight_24 : decode cX3_showFight 24 = .ok (.aload_n 1, 1) := by decide +kernel
theorem dX3_showFight_25 : decode cX3_showFight 25 = .ok (.invokevirtual 282, 3) := by decide +kernel
theorem dX3_showFight_28 : decode cX3_showFight 28 = .ok (.istore_n 2, 1) := by decide +kernel
theorem dX3_showFight_29 : decode cX3_showFight 29 = .ok (.aload_n 0, 1) := by decide +kernel
theorem dX3_showFight_30 : decode cX3_showFight 30 = .ok (.getfield 51, 3) := by decide +kernel
theorem dX3_showFight_33 : decode cX3_showFight 33 = .ok (.aload_n 0, 1) := by decide +kernel
theorem dX3_showFight_34 : decode cX3_showFight 34 = .ok (.getfield 85, 3) := by decide +kernel
theorem dX3_showFight_37 : decode cX3_showFight 37 = .ok (.iload_n 2, 1) := by decide +kernel
theorem dX3_showFight_38 : decode cX3_showFight 38 = .ok (.iastore, 1) := by decide +kernel
theorem dX3_showFight_39 : decode cX3_showFight 39 = .ok (.iload_n 2, 1) := by decide +kernel
theorem dX3_showFight_40 : decode cX3_showFight 40 = .ok (.iconst (-1), 1) := by decide +kernel
theorem dX3_showFight_41 : decode cX3_showFight 41 = .ok (.if_icmp .eq 13, 3) := by decide +kernel
theorem dX3_showFight_44 : decode cX3_showFight 44 = .ok (.aload_n 0, 1) := by decide +kernel
theorem dX3_showFight_45 : decode cX3_showFight 45 = .ok (.getfield 32, 3) := by decide +kernel
theorem dX3_showFight_48 : decode cX3_showFight 48 = .ok (.iload_n 2, 1) := by decide +kernel
theorem dX3_showFight_49 : decode cX3_showFight 49 = .ok (.dup2, 1) := by decide +kernel
theorem dX3_showFight_50 : decode cX3_showFight 50 = .ok (.iaload, 1) := by decide +kernel
theorem dX3_showFight_51 : decode cX3_showFight 51 = .ok (.iconst 1, 1) := by decide +kernel
theorem dX3_showFight_52 : decode cX3_showFight 52 = .ok (.iadd, 1) := by decide +kernel
theorem dX3_showFight_53 : decode cX3_showFight 53 = .ok (.iastore, 1) := by decide +kernel
theorem dX3_showFight_54 : decode cX3_showFight 54 = .ok (.return_, 1) := by decide +kernel
set_option maxRecDepth 20000 in
theorem ggX3_sponsorOwedMost_X3_owedTo : GoodIn wsX3_sponsorOwedMost wsX3_owedTo := goodIn_r _ [8, 9, 10, 11, 12, 13, 14, 22, 23, 24, 25, 26, 27, 28, 29, 30, 31, 32, 33, 34, 35, 36] (by decide +kernel) (by decide +kernel)
set_option maxRecDepth 20000 in
theorem gX3_sponsorOwedMost_X3_owedTo : GoodIn wsX3_sponsorOwedMost (wsV RX3 206 RX3 yX3_owedTo wsX3_owedTo) := goodIn_app (goodIn_of _ (by decide +kernel)) ggX3_sponsorOwedMost_X3_owedTo
theorem dX3_sponsorOwedMost_0 : decode cX3_sponsorOwedMost 0 = .ok (.iconst 1, 1) := by decide +kernel
theorem dX3_sponsorOwedMost_1 : decode cX3_sponsorOwedMost 1 = .ok (.aload_n 1, 1) := by decide +kernel
theorem dX3_sponsorOwedMost_2 : decode cX3_sponsorOwedMost 2 = .ok (.getfield 88, 3) := by decide +kernel
theorem dX3_sponsorOwedMost_5 : decode cX3_sponsorOwedMost 5 = .ok (.ishl, 1) := by decide +kernel
theorem dX3_sponsorOwedMost_6 : decode cX3_sponsorOwedMost 6 = .ok (.iconst 1, 1) := by decide +kernel
theorem dX3_sponsorOwedMost_7 : decode cX3_sponsorOwedMost 7 = .ok (.aload_n 1, 1) := by decide +kernel
theorem dX3_sponsorOwedMost_8 : decode cX3_sponsorOwedMost 8 = .ok (.getfield 97, 3) := by decide +kernel
theorem dX3_sponsorOwedMost_11 : decode cX3_sponsorOwedMost 11 = .ok (.ishl, 1) := by decide +kernel
theorem dX3_sponsorOwedMost_12 : decode cX3_sponsorOwedMost 12 = .ok (.ior, 1) := by decide +kernel
theorem dX3_sponsorOwedMost_13 : decode cX3_sponsorOwedMost 13 = .ok (.istore_n 2, 1) := by decide +kernel
theorem dX3_sponsorOwedMost_14 : decode cX3_sponsorOwedMost 14 = .ok (.iconst (-1), 1) := by decide +kernel
theorem dX3_sponsorOwedMost_15 : decode cX3_sponsorOwedMost 15 = .ok (.istore_n 3, 1) := by decide +kernel
theorem dX3_sponsorOwedMost_16 : decode cX3_sponsorOwedMost 16 = .ok (.iconst 0, 1) := by decide +kernel
theorem dX3_sponsorOwedMost_17 : decode cX3_sponsorOwedMost 17 = .ok (.istore 4, 2) := by decide +kernel
theorem dX3_sponsorOwedMost_19 : decode cX3_sponsorOwedMost 19 = .ok (.iconst 0, 1) := by decide +kernel
theorem dX3_sponsorOwedMost_20 : decode cX3_sponsorOwedMost 20 = .ok (.istore 5, 2) := by decide +kernel
theorem dX3_sponsorOwedMost_22 : decode cX3_sponsorOwedMost 22 = .ok (.iload 5, 2) := by decide +kernel
theorem dX3_sponsorOwedMost_24 : decode cX3_sponsorOwedMost 24 = .ok (.bipush 6, 2) := by decide +kernel
theorem dX3_sponsorOwedMost_26 : decode cX3_sponsorOwedMost 26 = .ok (.if_icmp .ge 43, 3) := by decide +kernel
theorem dX3_sponsorOwedMost_29 : decode cX3_sponsorOwedMost 29 = .ok (.aload_n 0, 1) := by decide +kernel
theorem dX3_sponsorOwedMost_30 : decode cX3_sponsorOwedMost 30 = .ok (.getfield 35, 3) := by decide +kernel
theorem dX3_sponsorOwedMost_33 : decode cX3_sponsorOwedMost 33 = .ok (.iload 5, 2) := by decide +kernel
theorem dX3_sponsorOwedMost_35 : decode cX3_sponsorOwedMost 35 = .ok (.iaload, 1) := by decide +kernel
theorem dX3_sponsorOwedMost_36 : decode cX3_sponsorOwedMost 36 = .ok (.iload_n 2, 1) := by decide +kernel
theorem dX3_sponsorOwedMost_37 : decode cX3_sponsorOwedMost 37 = .ok (.iand, 1) := by decide +kernel
theorem dX3_sponsorOwedMost_38 : decode cX3_sponsorOwedMost 38 = .ok (.ifCond .eq 25, 3) := by decide +kernel
theorem dX3_sponsorOwedMost_41 : decode cX3_sponsorOwedMost 41 = .ok (.aload_n 0, 1) := by decide +kernel
theorem dX3_sponsorOwedMost_42 : decode cX3_sponsorOwedMost 42 = .ok (.iload 5, 2) := by decide +kernel
theorem dX3_sponsorOwedMost_44 : decode cX3_sponsorOwedMost 44 = .ok (.invokevirtual 206, 3) := by decide +kernel
theorem dX3_sponsorOwedMost_47 : decode cX3_sponsorOwedMost 47 = .ok (.iload 4, 2) := by decide +kernel
theorem dX3_sponsorOwedMost_49 : decode cX3_sponsorOwedMost 49 = .ok (.if_icmp .le 14, 3) := by decide +kernel
theorem dX3_sponsorOwedMost_52 : decode cX3_sponsorOwedMost 52 = .ok (.iload 5, 2) := by decide +kernel
theorem dX3_sponsorOwedMost_54 : decode cX3_sponsorOwedMost 54 = .ok (.istore_n 3, 1) := by decide +kernel
theorem dX3_sponsorOwedMost_55 : decode cX3_sponsorOwedMost 55 = .ok (.aload_n 0, 1) := by decide +kernel
theorem dX3_sponsorOwedMost_56 : decode cX3_sponsorOwedMost 56 = .ok (.iload 5, 2) := by decide +kernel
theorem dX3_sponsorOwedMost_58 : decode cX3_sponsorOwedMost 58 = .ok (.invokevirtual 206, 3) := by decide +kernel
theorem dX3_sponsorOwedMost_61 : decode cX3_sponsorOwedMost 61 = .ok (.istore 4, 2) := by decide +kernel
theorem dX3_sponsorOwedMost_63 : decode cX3_sponsorOwedMost 63 = .ok (.iinc 5 1, 3) := by decide +kernel
theorem dX3_sponsorOwedMost_66 : decode cX3_sponsorOwedMost 66 = .ok (.goto (-44), 3) := by decide +kernel
theorem dX3_sponsorOwedMost_69 : decode cX3_sponsorOwedMost 69 = .ok (.iload_n 3, 1) := by decide +kernel
theorem dX3_sponsorOwedMost_70 : decode cX3_sponsorOwedMost 70 = .ok (.ireturn, 1) := by decide +kernel
theorem dX3_owedTo_0 : decode cX3_owedTo 0 = .ok (.aload_n 0, 1) := by decide +kernel
theorem dX3_owedTo_1 : decode cX3_owedTo 1 = .ok (.getfield 29, 3) := by decide +kernel
theorem dX3_owedTo_4 : decode cX3_owedTo 4 = .ok (.iload_n 1, 1) := by decide +kernel
theorem dX3_owedTo_5 : decode cX3_owedTo 5 = .ok (.iaload, 1) := by decide +kernel
theorem dX3_owedTo_6 : decode cX3_owedTo 6 = .ok (.aload_n 0, 1) := by decide +kernel
theorem dX3_owedTo_7 : decode cX3_owedTo 7 = .ok (.getfield 32, 3) := by decide +kernel
theorem dX3_owedTo_10 : decode cX3_owedTo 10 = .ok (.iload_n 1, 1) := by decide +kernel
theorem dX3_owedTo_11 : decode cX3_owedTo 11 = .ok (.iaload, 1) := by decide +kernel
theorem dX3_owedTo_12 : decode cX3_owedTo 12 = .ok (.isub, 1) := by decide +kernel
theorem dX3_owedTo_13 : decode cX3_owedTo 13 = .ok (.iconst 0, 1) := by decide +kernel
theorem dX3_owedTo_14 : decode cX3_owedTo 14 = .ok (.invokestatic 285, 3) := by decide +kernel
theorem dX3_owedTo_17 : decode cX3_owedTo 17 = .ok (.ireturn, 1) := by decide +kernel
set_option maxRecDepth 20000 in
theorem ggX3_letCamerasPass_Jx4a65c_size_8abf5 : GoodIn wsX3_letCamerasPass wsJx4a65c_size_8abf5 := goodIn_r _ [7, 8, 58, 59, 60] (by decide +kernel) (by decide +kernel)
set_option maxRecDepth 20000 in
theorem gX3_letCamerasPass_Jx4a65c_size_8abf5 : GoodIn wsX3_letCamerasPass (wsV RX3 117 RJx4a65c yJx4a65c_size_8abf5 wsJx4a65c_size_8abf5) := goodIn_app (goodIn_of _ (by decide +kernel)) ggX3_letCamerasPass_Jx4a65c_size_8abf5
set_option maxRecDepth 20000 in
theorem ggX3_letCamerasPass_Jx4a65c_get_915e3 : GoodIn wsX3_letCamerasPass wsJx4a65c_get_915e3 := goodIn_r _ [12, 8, 13, 14, 15, 16, 17, 18, 19, 20, 21, 22, 23, 6, 24, 25, 58, 59, 60] (by decide +kernel) (by decide +kernel)
set_option maxRecDepth 20000 in
theorem gX3_letCamerasPass_Jx4a65c_get_915e3 : GoodIn wsX3_letCamerasPass (wsV RX3 194 RJx4a65c yJx4a65c_get_915e3 wsJx4a65c_get_915e3) := goodIn_app (goodIn_of _ (by decide +kernel)) ggX3_letCamerasPass_Jx4a65c_get_915e3
set_option maxRecDepth 20000 in
theorem ggX3_letCamerasPass_X0_passOnAir : GoodIn wsX3_letCamerasPass wsX0_passOnAir := goodIn_r _ [30, 31, 32, 33, 34, 35, 36, 37, 38, 61, 62, 63, 64] (by decide +kernel) (by decide +kernel)
set_option maxRecDepth 20000 in
theorem gX3_letCamerasPass_X0_passOnAir : GoodIn wsX3_letCamerasPass (wsV RX3 290 RX0 yX0_passOnAir wsX0_passOnAir) := goodIn_app (goodIn_of _ (by decide +kernel)) ggX3_letCamerasPass_X0_passOnAir
set_option maxRecDepth 20000 in
theorem ggX3_letCamerasPass_X0_passOff : GoodIn wsX3_letCamerasPass wsX0_passOff := goodIn_r _ [42, 31, 38, 34, 35, 36, 37, 61, 62, 63, 64] (by decide +kernel) (by decide +kernel)
set_option maxRecDepth 20000 in
theorem gX3_letCamerasPass_X0_passOff : GoodIn wsX3_letCamerasPass (wsV RX3 293 RX0 yX0_passOff wsX0_passOff) := goodIn_app (goodIn_of _ (by decide +kernel)) ggX3_letCamerasPass_X0_passOff
theorem dX3_letCamerasPass_0 : decode cX3_letCamerasPass 0 = .ok (.iconst 0, 1) := by decide +kernel
theorem dX3_letCamerasPass_1 : decode cX3_letCamerasPass 1 = .ok (.istore_n 2, 1) := by decide +kernel
theorem dX3_letCamerasPass_2 : decode cX3_letCamerasPass 2 = .ok (.iload_n 2, 1) := by decide +kernel
theorem dX3_letCamerasPass_3 : decode cX3_letCamerasPass 3 = .ok (.aload_n 0, 1) := by decide +kernel
theorem dX3_letCamerasPass_4 : decode cX3_letCamerasPass 4 = .ok (.getfield 23, 3) := by decide +kernel
theorem dX3_letCamerasPass_7 : decode cX3_letCamerasPass 7 = .ok (.invokevirtual 117, 3) := by decide +kernel
theorem dX3_letCamerasPass_10 : decode cX3_letCamerasPass 10 = .ok (.if_icmp .ge 37, 3) := by decide +kernel
theorem dX3_letCamerasPass_13 : decode cX3_letCamerasPass 13 = .ok (.aload_n 0, 1) := by decide +kernel
theorem dX3_letCamerasPass_14 : decode cX3_letCamerasPass 14 = .ok (.getfield 23, 3) := by decide +kernel
theorem dX3_letCamerasPass_17 : decode cX3_letCamerasPass 17 = .ok (.iload_n 2, 1) := by decide +kernel
theorem dX3_letCamerasPass_18 : decode cX3_letCamerasPass 18 = .ok (.invokevirtual 194, 3) := by decide +kernel
theorem dX3_letCamerasPass_21 : decode cX3_letCamerasPass 21 = .ok (.checkcast 123, 3) := by decide +kernel
theorem dX3_letCamerasPass_24 : decode cX3_letCamerasPass 24 = .ok (.astore_n 3, 1) := by decide +kernel
theorem dX3_letCamerasPass_25 : decode cX3_letCamerasPass 25 = .ok (.iload_n 2, 1) := by decide +kernel
theorem dX3_letCamerasPass_26 : decode cX3_letCamerasPass 26 = .ok (.iload_n 1, 1) := by decide +kernel
theorem dX3_letCamerasPass_27 : decode cX3_letCamerasPass 27 = .ok (.if_icmp .ne 10, 3) := by decide +kernel
theorem dX3_letCamerasPass_30 : decode cX3_letCamerasPass 30 = .ok (.aload_n 3, 1) := by decide +kernel
theorem dX3_letCamerasPass_31 : decode cX3_letCamerasPass 31 = .ok (.invokevirtual 290, 3) := by decide +kernel
theorem dX3_letCamerasPass_34 : decode cX3_letCamerasPass 34 = .ok (.goto 7, 3) := by decide +kernel
theorem dX3_letCamerasPass_37 : decode cX3_letCamerasPass 37 = .ok (.aload_n 3, 1) := by decide +kernel
theorem dX3_letCamerasPass_38 : decode cX3_letCamerasPass 38 = .ok (.invokevirtual 293, 3) := by decide +kernel
theorem dX3_letCamerasPass_41 : decode cX3_letCamerasPass 41 = .ok (.iinc 2 1, 3) := by decide +kernel
theorem dX3_letCamerasPass_44 : decode cX3_letCamerasPass 44 = .ok (.goto (-42), 3) := by decide +kernel
theorem dX3_letCamerasPass_47 : decode cX3_letCamerasPass 47 = .ok (.return_, 1) := by decide +kernel
theorem dX3_letViewersSee_0 : decode cX3_letViewersSee 0 = .ok (.aload_n 0, 1) := by decide +kernel
theorem dX3_letViewersSee_1 : decode cX3_letViewersSee 1 = .ok (.aload_n 0, 1) := by decide +kernel
theorem dX3_letViewersSee_2 : decode cX3_letViewersSee 2 = .ok (.getfield 42, 3) := by decide +kernel
theorem dX3_letViewersSee_5 : decode cX3_letViewersSee 5 = .ok (.aload_n 0, 1) := by decide +kernel
theorem dX3_letViewersSee_6 : decode cX3_letViewersSee 6 = .ok (.getfield 85, 3) := by decide +kernel
theorem dX3_letViewersSee_9 : decode cX3_letViewersSee 9 = .ok (.iconst 1, 1) := by decide +kernel
theorem dX3_letViewersSee_10 : decode cX3_letViewersSee 10 = .ok (.isub, 1) := by decide +kernel
theorem dX3_letViewersSee_11 : decode cX3_letViewersSee 11 = .ok (.aload_n 0, 1) := by decide +kernel
theorem dX3_letViewersSee_12 : decode cX3_letViewersSee 12 = .ok (.getfield 38, 3) := by decide +kernel
theorem dX3_letViewersSee_15 : decode cX3_letViewersSee 15 = .ok (.isub, 1) := by decide +kernel
theorem dX3_letViewersSee_16 : decode cX3_letViewersSee 16 = .ok (.invokestatic 285, 3) := by decide +kernel
theorem dX3_letViewersSee_19 : decode cX3_letViewersSee 19 = .ok (.putfield 42, 3) := by decide +kernel
theorem dX3_letViewersSee_22 : decode cX3_letViewersSee 22 = .ok (.return_, 1) := by decide +kernel
end
section
/-! THE REFERENCE'S OBJECT: its fields by number (29: the object itself), its state 'st' by field: scalars at 0; the map with the object laid over h0 -/
abbrev kM : Type := Nat → Nat → Int32
def msc (k : Nat) : Bool := k == 0 || k == 1 || k == 2 || k == 3 || k == 5 || k == 10 || k == 15 || k == 16 || k == 20 || k == 28
def mlen (k : Nat) : Nat := match k with
  | 4 => 10
  | 6 => 20
  | 7 => 20
  | 8 => 20
  | 9 => 20
  | 11 => 6
  | 12 => 6
  | 13 => 6
  | 14 => 6
  | 17 => 3000
  | 18 => 3000
  | 19 => 3000
  | 21 => 80
  | 22 => 80
  | 23 => 80
  | 24 => 80
  | 25 => 80
  | 26 => 6
  | 27 => 60
  | _ => 0
def ms (st : kM) (k : Nat) (v : Int32) : kM := fun j => if j = k then (fun _ => v) else st j
def ma (st : kM) (k i : Nat) (v : Int32) : kM := fun j => if j = k then upd (st k) i v else st j
def mfs (b : Nat → Nat) (st : kM) : List Value := (List.range 29).map (fun j => if msc j = true then .int (st j 0) else .ref (b j))
def mcell (E : kE) (b : Nat → Nat) (st : kM) (k : Nat) : va_E := if k = 29 then .inr (4, mfs b st) else .inl (if k = 25 ∨ k = 27 then kZ E else kI E, mlen k, .inl (st k))
def mdom (k : Nat) : Bool := k == 29 || (decide (k < 29) && !(msc k))
def binj (b : Nat → Nat) : Prop := ∀ i j, mdom i = true → mdom j = true → b i = b j → i = j
noncomputable def ov (E : kE) (b : Nat → Nat) (st : kM) (h0 : kH) : kH := fun q => @dite _ (∃ k, mdom k = true ∧ b k = q) (Classical.propDecidable _) (fun hq => some (mcell E b st (Classical.choose hq))) (fun _ => h0 q)
theorem ov_at {E : kE} {b : Nat → Nat} (hb : binj b) (st : kM) (h0 : kH) {k : Nat} (hk : mdom k = true) : ov E b st h0 (b k) = some (mcell E b st k) := by
  have hex : ∃ j, mdom j = true ∧ b j = b k := ⟨k, hk, rfl⟩
  unfold ov
  rw [dif_pos hex]
  have h := Classical.choose_spec hex
  rw [hb _ _ h.1 hk h.2]
theorem ov_out {E : kE} {b : Nat → Nat} (st : kM) (h0 : kH) {q : Nat} (hq : ∀ k, mdom k = true → b k ≠ q) : ov E b st h0 q = h0 q := by
  unfold ov
  exact dif_neg (fun ⟨k, h1, h2⟩ => hq k h1 h2)
theorem ov_up {E : kE} {b : Nat → Nat} (hb : binj b) {st st' : kM} {h0 : kH} {k : Nat} (hk : mdom k = true) (hs : ∀ j, mdom j = true → j ≠ k → mcell E b st' j = mcell E b st j) : kup (ov E b st h0) (b k) (mcell E b st' k) = ov E b st' h0 := by
  funext q
  by_cases c : ∃ j, mdom j = true ∧ b j = q
  · obtain ⟨j, hj, rfl⟩ := c
    rw [ov_at hb st' h0 hj]
    by_cases e : j = k
    · subst e
      rw [kup_s]
    · rw [kup_n _ _ (fun z => e (hb j k hj hk z)), ov_at hb st h0 hj, hs j hj e]
  · have hq : ∀ j, mdom j = true → b j ≠ q := fun j h1 h2 => c ⟨j, h1, h2⟩
    rw [kup_n _ _ (fun z => hq k hk z.symm), ov_out st h0 hq, ov_out st' h0 hq]
theorem mfs_at (b : Nat → Nat) (st : kM) {f : Nat} (hf : f < 29) : (mfs b st)[f]? = some (if msc f = true then .int (st f 0) else .ref (b f)) := by
  unfold mfs
  rw [List.getElem?_map, List.getElem?_range hf]
  rfl
theorem mfs_len (b : Nat → Nat) (st : kM) : (mfs b st).length = 29 := by simp [mfs]
theorem mfs_set (b : Nat → Nat) (st : kM) {f : Nat} (hf : f < 29) (hm : msc f = true) (v : Int32) : (mfs b st).set f (.int v) = mfs b (ms st f v) := by
  apply List.ext_getElem?
  intro i
  by_cases hi : i < 29
  · rw [mfs_at b (ms st f v) hi]
    by_cases e : i = f
    · subst e
      rw [List.getElem?_set_self (by rw [mfs_len]; exact hi), if_pos hm]
      simp [ms]
    · rw [List.getElem?_set_ne (Ne.symm e), mfs_at b st hi]
      simp [ms, e]
  · rw [List.getElem?_eq_none (by rw [List.length_set, mfs_len]; omega), List.getElem?_eq_none (by rw [mfs_len]; omega)]
theorem mfs_ma (b : Nat → Nat) (st : kM) {f i : Nat} (hm : msc f = false) (v : Int32) : mfs b (ma st f i v) = mfs b st := by
  unfold mfs
  apply List.map_congr_left
  intro j hj
  by_cases c : msc j = true
  · rw [if_pos c, if_pos c]
    have : j ≠ f := fun e => by rw [e, hm] at c; cases c
    simp [ma, this]
  · rw [if_neg c, if_neg c]
theorem mcell_obj (E : kE) (b : Nat → Nat) (st : kM) : mcell E b st 29 = .inr (4, mfs b st) := by simp [mcell]
theorem ov_obj {E : kE} {b : Nat → Nat} (hb : binj b) (st : kM) (h0 : kH) : ov E b st h0 (b 29) = some (.inr (4, mfs b st)) := by
  rw [ov_at hb st h0 (k := 29) rfl, mcell_obj]
theorem mdom_a {f : Nat} (hf : f < 29) (hm : msc f = false) : mdom f = true := by simp [mdom, hf, hm]
theorem ov_arr {E : kE} {b : Nat → Nat} (hb : binj b) (st : kM) (h0 : kH) {f : Nat} (hf : f < 29) (hm : msc f = false) (hz : f ≠ 25 ∧ f ≠ 27) : ov E b st h0 (b f) = some (.inl (kI E, mlen f, .inl (st f))) := by
  rw [ov_at hb st h0 (mdom_a hf hm)]
  unfold mcell
  rw [if_neg (by omega), if_neg (by omega)]
theorem ov_arz {E : kE} {b : Nat → Nat} (hb : binj b) (st : kM) (h0 : kH) {f : Nat} (hf : f = 25 ∨ f = 27) : ov E b st h0 (b f) = some (.inl (kZ E, mlen f, .inl (st f))) := by
  rw [ov_at hb st h0 (by rcases hf with rfl | rfl <;> rfl)]
  unfold mcell
  rw [if_neg (by omega), if_pos hf]
theorem ov_ms {E : kE} {b : Nat → Nat} (hb : binj b) (st : kM) (h0 : kH) {f : Nat} (hf : f < 29) (hm : msc f = true) (v : Int32) : kup (ov E b st h0) (b 29) (.inr (4, (mfs b st).set f (.int v))) = ov E b (ms st f v) h0 := by
  rw [mfs_set b st hf hm, ← mcell_obj E b (ms st f v)]
  refine ov_up hb rfl (fun j hj hne => ?_)
  have hjf : j ≠ f := fun e => by
    subst e
    simp [mdom, hm] at hj
    exact hne hj
  simp [mcell, ms, hjf, hne]
theorem ov_ma {E : kE} {b : Nat → Nat} (hb : binj b) (st : kM) (h0 : kH) {f i : Nat} (hf : f < 29) (hm : msc f = false) (v : Int32) : kup (ov E b st h0) (b f) (mcell E b (ma st f i v) f) = ov E b (ma st f i v) h0 := by
  refine ov_up hb (mdom_a hf hm) (fun j hj hne => ?_)
  unfold mcell
  rw [mfs_ma b st hm v]
  simp [ma, hne]
theorem mcell_ma (E : kE) (b : Nat → Nat) (st : kM) {f i : Nat} (hf : f < 29) (hz : f ≠ 25 ∧ f ≠ 27) (v : Int32) : mcell E b (ma st f i v) f = .inl (kI E, mlen f, .inl (upd (st f) i v)) := by
  unfold mcell
  rw [if_neg (by omega), if_neg (by omega)]
  simp [ma]
theorem mcell_mz (E : kE) (b : Nat → Nat) (st : kM) {f i : Nat} (hz : f = 25 ∨ f = 27) (v : Int32) : mcell E b (ma st f i v) f = .inl (kZ E, mlen f, .inl (upd (st f) i v)) := by
  unfold mcell
  rw [if_neg (by omega), if_pos hz]
  simp [ma]
section ML
variable {E : kE} {X : kX} {R : Room} {cc : ByteArray} {nL : Nat} {Ts : List Cond} {own : String} {k n : Nat} {h0 : kH} {lo lo' : List (Nat × Value)} {pc tgt : Nat} {rest : List Value} {x v : Int32} {b : Nat → Nat} {st : kM} {i : Nat} {ref : String}
theorem m_geti (hb : binj b) (hin : ∀ w ∈ u_ws RX4 TX4 29, w ∈ Ts) (f : Nat) (hf : f < 29) (hm : msc f = true) (hd0 : decode cc pc = .ok (.getfield i, 3)) (hw : Cond.fieldLink own i ref (TX4 f).2.1 (TX4 f).2.2.1 ∈ Ts) (hr : (TX4 f).1 = ref) (hv : st f 0 = v) (kk : V E X R cc nL Ts own k n (ov E b st h0) lo (pc + 3) (.int v :: rest)) : V E X R cc nL Ts own k n (ov E b st h0) lo pc (.ref (b 29) :: rest) :=
  r_get (C := RX4) hd0 hin (ov_obj hb st h0) rfl f hf hw hr (by rw [mfs_at b st hf, if_pos hm, hv]) kk
theorem m_geta (hb : binj b) (hin : ∀ w ∈ u_ws RX4 TX4 29, w ∈ Ts) (f : Nat) (hf : f < 29) (hm : msc f = false) (hd0 : decode cc pc = .ok (.getfield i, 3)) (hw : Cond.fieldLink own i ref (TX4 f).2.1 (TX4 f).2.2.1 ∈ Ts) (hr : (TX4 f).1 = ref) (kk : V E X R cc nL Ts own k n (ov E b st h0) lo (pc + 3) (.ref (b f) :: rest)) : V E X R cc nL Ts own k n (ov E b st h0) lo pc (.ref (b 29) :: rest) :=
  r_get (C := RX4) hd0 hin (ov_obj hb st h0) rfl f hf hw hr (by rw [mfs_at b st hf, if_neg (by rw [hm]; decide)]) kk
theorem m_puti (hb : binj b) (hin : ∀ w ∈ u_ws RX4 TX4 29, w ∈ Ts) (f : Nat) (hf : f < 29) (hm : msc f = true) (hd0 : decode cc pc = .ok (.putfield i, 3)) (hw : Cond.fieldLink own i ref (TX4 f).2.1 (TX4 f).2.2.1 ∈ Ts) (hr : (TX4 f).1 = ref) (hfi : (TX4 f).2.2.2 = false) (hde : parseFieldDescriptor (TX4 f).2.2.1 = some .int) (kk : V E X R cc nL Ts own k n (ov E b (ms st f v) h0) lo (pc + 3) rest) : V E X R cc nL Ts own k n (ov E b st h0) lo pc (.int v :: .ref (b 29) :: rest) := by
  refine r_put (C := RX4) hd0 hin tyX4 tyX4_ok nmX4 (ov_obj hb st h0) rfl f hf hw hr hfi hde rfl rfl (by rw [mfs_len]; exact hf) ?_
  rw [ov_ms hb st h0 hf hm v]
  exact kk
theorem m_ald (hb : binj b) (f j : Nat) (hf : f < 29 ∧ msc f = false ∧ f ≠ 25 ∧ f ≠ 27) (hd0 : decode cc pc = .ok (.iaload, 1)) (hx : x = nI j) (hj : j < mlen f) (hl : mlen f < 2 ^ 31) (hv : st f j = v) (kk : V E X R cc nL Ts own k n (ov E b st h0) lo (pc + 1) (.int v :: rest)) : V E X R cc nL Ts own k n (ov E b st h0) lo pc (.int x :: .ref (b f) :: rest) := by
  subst hx
  refine r_iald hd0 (ov_arr hb st h0 hf.1 hf.2.1 hf.2.2) (vp_in_nI hj hl) ?_
  rw [nI_clamp (by omega), hv]
  exact kk
theorem m_aldx (hb : binj b) (f : Nat) (hf : f < 29 ∧ msc f = false ∧ f ≠ 25 ∧ f ≠ 27) (hd0 : decode cc pc = .ok (.iaload, 1)) (hx : vp_in x (mlen f)) (hv : st f x.toNatClampNeg = v) (kk : V E X R cc nL Ts own k n (ov E b st h0) lo (pc + 1) (.int v :: rest)) : V E X R cc nL Ts own k n (ov E b st h0) lo pc (.int x :: .ref (b f) :: rest) := by
  refine r_iald hd0 (ov_arr hb st h0 hf.1 hf.2.1 hf.2.2) hx ?_
  rw [hv]
  exact kk
theorem m_zald (hb : binj b) (f j : Nat) (hf : f = 25 ∨ f = 27) (hd0 : decode cc pc = .ok (.baload, 1)) (hx : x = nI j) (hj : j < mlen f) (hl : mlen f < 2 ^ 31) (hv : st f j = v) (kk : V E X R cc nL Ts own k n (ov E b st h0) lo (pc + 1) (.int v :: rest)) : V E X R cc nL Ts own k n (ov E b st h0) lo pc (.int x :: .ref (b f) :: rest) := by
  subst hx
  refine r_zald hd0 (ov_arz hb st h0 hf) (vp_in_nI hj hl) ?_
  rw [nI_clamp (by omega), hv]
  exact kk
theorem m_ast (hb : binj b) (f j : Nat) (hf : f < 29 ∧ msc f = false ∧ f ≠ 25 ∧ f ≠ 27) (hd0 : decode cc pc = .ok (.iastore, 1)) (hx : x = nI j) (hj : j < mlen f) (hl : mlen f < 2 ^ 31) (kk : V E X R cc nL Ts own k n (ov E b (ma st f j v) h0) lo (pc + 1) rest) : V E X R cc nL Ts own k n (ov E b st h0) lo pc (.int v :: .int x :: .ref (b f) :: rest) := by
  subst hx
  refine r_iast hd0 (ov_arr hb st h0 hf.1 hf.2.1 hf.2.2) (vp_in_nI hj hl) ?_
  rw [nI_clamp (by omega), ← mcell_ma E b st hf.1 hf.2.2 v, ov_ma hb st h0 hf.1 hf.2.1 v]
  exact kk
theorem m_zast (hb : binj b) (f j : Nat) (hf : f = 25 ∨ f = 27) (hv : vp_nar .boolean v = v) (hd0 : decode cc pc = .ok (.bastore, 1)) (hx : x = nI j) (hj : j < mlen f) (hl : mlen f < 2 ^ 31) (kk : V E X R cc nL Ts own k n (ov E b (ma st f j v) h0) lo (pc + 1) rest) : V E X R cc nL Ts own k n (ov E b st h0) lo pc (.int v :: .int x :: .ref (b f) :: rest) := by
  subst hx
  refine r_zast hd0 (ov_arz hb st h0 hf) (vp_in_nI hj hl) ?_
  rw [nI_clamp (by omega), hv, ← mcell_mz E b st hf v, ov_ma hb st h0 (by omega) (by rcases hf with rfl | rfl <;> rfl) v]
  exact kk
/-- compares of small numbers -/
theorem rn_icmp_ge {a c : Nat} {x y : Int32} {off : Int} {h : kH} (hd0 : decode cc pc = .ok (.if_icmp .ge off, 3)) (ht : (pc : Int) + off = (tgt : Int)) (hx : x = nI a) (hy : y = nI c) (ha : a < 2 ^ 31) (hc : c < 2 ^ 31) (kt : c ≤ a → V E X R cc nL Ts own k n h lo tgt rest) (kf : a < c → V E X R cc nL Ts own k n h lo (pc + 3) rest) : V E X R cc nL Ts own k n h lo pc (.int y :: .int x :: rest) := by
  subst hx hy
  refine r_icmp_ge hd0 ht (fun q => kt ?_) (fun q => kf ?_)
  · rw [nI_ltI ha hc] at q; omega
  · rw [nI_ltI ha hc] at q; omega
theorem rn_icmp_lt {a c : Nat} {x y : Int32} {off : Int} {h : kH} (hd0 : decode cc pc = .ok (.if_icmp .lt off, 3)) (ht : (pc : Int) + off = (tgt : Int)) (hx : x = nI a) (hy : y = nI c) (ha : a < 2 ^ 31) (hc : c < 2 ^ 31) (kt : a < c → V E X R cc nL Ts own k n h lo tgt rest) (kf : c ≤ a → V E X R cc nL Ts own k n h lo (pc + 3) rest) : V E X R cc nL Ts own k n h lo pc (.int y :: .int x :: rest) := by
  subst hx hy
  refine r_icmp_lt hd0 ht (fun q => kt ?_) (fun q => kf ?_)
  · rw [nI_ltI ha hc] at q; omega
  · rw [nI_ltI ha hc] at q; omega
end ML
end
section
/-! what the reference's methods compute, in its own order, over its state -/
def inr (v a c : Int32) : Bool := !(decide (v < a)) && !(decide (c < v))
theorem inr_t {v a c : Int32} (h1 : ¬ v < a) (h2 : ¬ c < v) : inr v a c = true := by simp [inr, h1, h2]
theorem inr_f1 {v a c : Int32} (h1 : v < a) : inr v a c = false := by simp [inr, h1]
theorem inr_f2 {v a c : Int32} (h1 : c < v) : inr v a c = false := by simp [inr, h1]
theorem inr_iff {v a c : Int32} : inr v a c = true ↔ ¬ v < a ∧ ¬ c < v := by simp [inr]
theorem kI_lt {a b : Int32} : a < b ↔ a.toInt < b.toInt := Int32.lt_iff_toInt_lt
theorem kI_eq {a b : Int32} : a = b ↔ a.toInt = b.toInt := Int32.toInt_inj.symm
theorem kI_ex {x : Int32} (h : 0 ≤ x.toInt) : ∃ j : Nat, x = nI j ∧ j < 2 ^ 31 ∧ x.toInt = j := by
  have h0 : ¬ x < 0 := by rw [kI_lt, show (0 : Int32).toInt = 0 from rfl]; omega
  obtain ⟨j, hj, rfl⟩ := nI_of h0
  exact ⟨j, rfl, hj, nI_toInt hj⟩
theorem inr_nat {x : Int32} {m : Nat} (hm : m < 2 ^ 31) (h : inr x 0 (nI m) = true) : ∃ j, j ≤ m ∧ x = nI j := by
  obtain ⟨h1, h2⟩ := inr_iff.mp h
  obtain ⟨j, hj, rfl⟩ := nI_of h1
  rw [nI_ltI hm hj] at h2
  exact ⟨j, by omega, rfl⟩
theorem inr_pred {x : Int32} {m : Nat} (hm : m < 2 ^ 31) (h : inr x 0 (nI m - 1) = true) : ∃ j, j < m ∧ x = nI j := by
  cases m with
  | zero =>
    obtain ⟨h1, h2⟩ := inr_iff.mp h
    have e : nI 0 - 1 = (-1 : Int32) := by decide
    rw [e] at h2
    rw [kI_lt] at h1 h2
    rw [show (0 : Int32).toInt = 0 from rfl] at h1
    rw [show (-1 : Int32).toInt = -1 from rfl] at h2
    omega
  | succ m =>
    rw [nI_pred] at h
    obtain ⟨j, hj, rfl⟩ := inr_nat (by omega) h
    exact ⟨j, by omega, rfl⟩
def mf (st : kM) (k : Nat) (f : Nat → Int32) : kM := fun j => if j = k then f else st j
/-- the reference's state: its counts, and what its indices are -/
def mwf (st : kM) (nF nC nE w : Nat) : Prop := st 5 0 = nI nF ∧ nF ≤ 20 ∧ st 10 0 = nI nC ∧ nC ≤ 6 ∧ st 20 0 = nI nE ∧ nE ≤ 80 ∧ st 1 0 = nI w ∧ w ≤ 3000 ∧ (∀ k, k < nF → vp_in (st 7 k) 10 ∧ vp_in (st 8 k) 10) ∧ (∀ k, k < nE → vp_in (st 21 k) nF) ∧ (st 15 0 = -1 ∨ ∃ c, c < nC ∧ st 15 0 = nI c) ∧ ∃ t, t ≤ 12 ∧ st 28 0 = nI t
abbrev kR2 (r : Int32) (c : Bool) : Prop := (c = true ∧ r = 1) ∨ (c = false ∧ r = 0)
def mrank (st : kM) (x y : Int32) : Int32 × kM :=
  if inr x 0 9 = true then
    if inr y 0 99 = true then (st 4 x.toNatClampNeg, ma (ms st 0 0) 4 x.toNatClampNeg y) else (0, ms st 0 2)
  else (0, ms st 0 1)
def busyR (st : kM) (p : Int32) : Nat → Int32
  | 0 => 0
  | i + 1 => if busyR st p i = 0 then (if st 6 i = 0 then (if st 7 i = p then 1 else if st 8 i = p then 1 else 0) else 0) else 1
def mbegin (st : kM) (nF : Nat) (x y : Int32) : kM := ms (ma (ma (ma st 7 nF x) 8 nF y) 9 nF (-1)) 5 (nI (nF + 1))
def mfight (st : kM) (nF : Nat) (x y : Int32) : Int32 × kM :=
  if inr x 0 9 = true ∧ inr y 0 9 = true then
    if x = y then (0, ms st 0 2)
    else if busyR st x nF = 0 ∧ busyR st y nF = 0 ∧ ¬ st 5 0 = 20 then (nI nF, mbegin (ms st 0 0) nF x y)
    else (0, ms st 0 3)
  else (0, ms st 0 1)
def ptsR (st : kM) (f p e : Int32) : Nat → Int32
  | 0 => 0
  | k + 1 => ptsR st f p e k + (if st 21 k = f then (if st 22 k = p then (if st 25 k = 0 then (if e < st 24 k then 0 else st 23 k) else 0) else 0) else 0)
def mend (st : kM) (nE : Nat) (x : Int32) : Int32 × kM :=
  if inr x 0 (st 5 0 - 1) = true then
    if st 6 x.toNatClampNeg = 0 then
      let s1 := ma (ms st 0 0) 6 x.toNatClampNeg 1
      let more := ptsR s1 x (st 7 x.toNatClampNeg) 3000 nE - ptsR s1 x (st 8 x.toNatClampNeg) 3000 nE
      let wn := if 0 < more then st 7 x.toNatClampNeg else if more < 0 then st 8 x.toNatClampNeg else -1
      (wn, ma s1 9 x.toNatClampNeg wn)
    else (0, ms st 0 2)
  else (0, ms st 0 1)
def strA (st : kM) (x : Int32) (n : Nat) : Nat → Int32 := fun k => if k < n then (if st 25 k = 0 then (if st 21 k = x then 1 else 0) else 1) else st 25 k
def uncA (st : kM) (x : Int32) (n : Nat) : Nat → Int32 := fun k => if k < n then (if st 17 k = x then -1 else st 19 k) else st 19 k
def mreplay (st : kM) (nF nE w : Nat) (x : Int32) : Int32 × kM :=
  if inr x 0 (st 5 0 - 1) = true then
    if st 6 x.toNatClampNeg = 1 ∧ busyR st (st 7 x.toNatClampNeg) nF = 0 ∧ busyR st (st 8 x.toNatClampNeg) nF = 0 ∧ ¬ st 5 0 = 20 then
      (nI nF, mbegin (mf (mf (ma (ma (ms st 0 0) 6 x.toNatClampNeg 2) 9 x.toNatClampNeg (-1)) 25 (strA st x nE)) 19 (uncA st x w)) nF (st 7 x.toNatClampNeg) (st 8 x.toNatClampNeg))
    else (0, ms st 0 2)
  else (0, ms st 0 1)
def mcamera (st : kM) (nC : Nat) (x y : Int32) : Int32 × kM :=
  if inr x 1 60 = true ∧ inr y 0 60 = true then
    if st 10 0 = 6 then (0, ms st 0 2) else (nI nC, ms (ma (ma (ms st 0 0) 11 nC x) 12 nC y) 10 (nI (nC + 1)))
  else (0, ms st 0 1)
def msee (st : kM) : kM := ms st 3 (if st 3 0 < st 1 0 - 1 - st 2 0 then st 1 0 - 1 - st 2 0 else st 3 0)
def mdelay (st : kM) (x : Int32) : Int32 × kM :=
  if inr x 0 100 = true then (st 2 0, msee (ms (ms st 0 0) 2 x)) else (0, ms st 0 1)
def hasR (st : kM) (x f : Int32) : Nat → Int32
  | 0 => 0
  | k + 1 => if hasR st x f k = 0 then (if st 21 k = x then (if st 24 k = f then 1 else 0) else 0) else 1
def sumR (st : kM) (x : Int32) (nE : Nat) : Nat → Int32
  | 0 => st 4 (st 7 x.toNatClampNeg).toNatClampNeg + st 4 (st 8 x.toNatClampNeg).toNatClampNeg
  | t + 1 => sumR st x nE t + (if hasR st x (st 1 0 - 5 + nI t) nE = 0 then 0 else 10)
def mheat (st : kM) (nE : Nat) (x : Int32) : Int32 := sumR st x nE 5
def hotR (st : kM) (nE : Nat) : Nat → Int32
  | 0 => -1
  | k + 1 => if st 6 k = 0 then (if hotR st nE k = -1 then nI k else if mheat st nE (hotR st nE k) < mheat st nE (nI k) then nI k else if mheat st nE (nI k) = mheat st nE (hotR st nE k) then (if nI k = st 16 0 then nI k else hotR st nE k) else hotR st nE k) else hotR st nE k
theorem hotR_r (st : kM) (nE : Nat) : ∀ n, hotR st nE n = -1 ∨ ∃ j, j < n ∧ hotR st nE n = nI j
  | 0 => Or.inl rfl
  | k + 1 => by
    have ih := hotR_r st nE k
    have up : hotR st nE k = -1 ∨ ∃ j, j < k + 1 ∧ hotR st nE k = nI j := by
      rcases ih with h | ⟨j, h1, h2⟩
      · exact Or.inl h
      · exact Or.inr ⟨j, by omega, h2⟩
    rw [hotR]
    split
    · split
      · exact Or.inr ⟨k, by omega, rfl⟩
      · split
        · exact Or.inr ⟨k, by omega, rfl⟩
        · split
          · split
            · exact Or.inr ⟨k, by omega, rfl⟩
            · exact up
          · exact up
    · exact up
def choR (st : kM) (nC : Nat) : Nat → Int32
  | 0 => -1
  | d + 1 => if st 14 (nC - (d + 1)) = 0 then nI (nC - (d + 1)) else choR st nC d
theorem choR_r (st : kM) (nC : Nat) : ∀ d, d ≤ nC → choR st nC d = -1 ∨ ∃ j, j < nC ∧ choR st nC d = nI j
  | 0, _ => Or.inl rfl
  | d + 1, h => by
    rw [choR]
    split
    · exact Or.inr ⟨nC - (d + 1), by omega, rfl⟩
    · exact choR_r st nC d (by omega)
def mcho (st : kM) (nC : Nat) : Int32 := if st 15 0 = -1 then choR st nC nC else if st 14 (st 15 0).toNatClampNeg = 0 then st 15 0 else choR st nC nC
def cntR (f : Nat → Int32) (x : Int32) : Nat → Int32
  | 0 => 0
  | k + 1 => cntR f x k + (if f k = x then 1 else 0)
def mowed (st : kM) (w : Nat) (k : Nat) : Int32 := if st 26 k - cntR (st 19) (nI k) w < 0 then 0 else st 26 k - cntR (st 19) (nI k) w
def spoR (st : kM) (w p1 p2 : Nat) : Nat → Int32
  | 0 => -1
  | k + 1 => if st 27 (10 * k + p1) = 0 ∧ st 27 (10 * k + p2) = 0 then spoR st w p1 p2 k
    else if spoR st w p1 p2 k = -1 then (if 0 < mowed st w k then nI k else spoR st w p1 p2 k)
    else if mowed st w (spoR st w p1 p2 k).toNatClampNeg < mowed st w k then nI k else spoR st w p1 p2 k
theorem spoR_r (st : kM) (w p1 p2 : Nat) : ∀ n, spoR st w p1 p2 n = -1 ∨ ∃ j, j < n ∧ spoR st w p1 p2 n = nI j
  | 0 => Or.inl rfl
  | k + 1 => by
    have ih := spoR_r st w p1 p2 k
    have up : spoR st w p1 p2 k = -1 ∨ ∃ j, j < k + 1 ∧ spoR st w p1 p2 k = nI j := by
      rcases ih with h | ⟨j, h1, h2⟩
      · exact Or.inl h
      · exact Or.inr ⟨j, by omega, h2⟩
    rw [spoR]
    split
    · exact up
    · split
      · split
        · exact Or.inr ⟨k, by omega, rfl⟩
        · exact up
      · split
        · exact Or.inr ⟨k, by omega, rfl⟩
        · exact up
def mspo (st : kM) (w : Nat) (x : Int32) : Int32 := spoR st w (st 7 x.toNatClampNeg).toNatClampNeg (st 8 x.toNatClampNeg).toNatClampNeg 6
/-- a camera's frames in a row, and how many it is off, behind a frame in which 'cam' is on air -/
def inA (st : kM) (cam : Int32) (n : Nat) : Nat → Int32 := fun k => if k < n then (if nI k = cam then st 13 k + 1 else 0) else st 13 k
def offA (st : kM) (cam : Int32) (n : Nat) : Nat → Int32 := fun k => if k < n then (if (if nI k = cam then st 13 k + 1 else 0) = st 11 k then (if 1 < st 12 k then st 12 k else 1) else st 14 k - (if 0 < st 14 k then 1 else 0)) else st 14 k
def mpS (st : kM) (nF nC nE w : Nat) : Int32 × Int32 × kM :=
  let own0 := hotR st nE nF
  let cam := if own0 = -1 then -1 else mcho st nC
  let own := if cam = -1 then -1 else own0
  let s2 := ma (ma st 17 w own) 18 w cam
  (own, cam, ma s2 19 w (if own = -1 then -1 else mspo s2 w own))
def mpasses (st : kM) (nF nC nE w : Nat) : kM :=
  let q := mpS st nF nC nE w
  let s3 := q.2.2
  msee (ms (ms (ms (mf (mf s3 14 (offA s3 q.2.1 nC)) 13 (inA s3 q.2.1 nC)) 16 q.1) 15 q.2.1) 1 (nI (w + 1)))
def passR (st : kM) (nF nC nE w : Nat) : Nat → kM
  | 0 => st
  | i + 1 => mpasses (passR st nF nC nE w i) nF nC nE (w + i)
def mpass (st : kM) (nF nC nE w : Nat) (x : Int32) : Int32 × kM :=
  if inr x 1 200 = true then
    if 3000 < st 1 0 + x then (0, ms st 0 2) else (passR (ms st 0 0) nF nC nE w x.toNatClampNeg 1 0, passR (ms st 0 0) nF nC nE w x.toNatClampNeg)
  else (0, ms st 0 1)
def mblow (st : kM) (nE : Nat) (x y z : Int32) : Int32 × kM :=
  if inr x 0 (st 5 0 - 1) = true ∧ inr y 0 9 = true then
    if inr z 1 9 = true ∧ (st 7 x.toNatClampNeg = y ∨ st 8 x.toNatClampNeg = y) then
      if st 6 x.toNatClampNeg = 0 ∧ ¬ st 20 0 = 80 then
        (nI nE, ms (ma (ma (ma (ma (ms st 0 0) 21 nE x) 22 nE y) 23 nE z) 24 nE (st 1 0)) 20 (nI (nE + 1)))
      else (0, ms st 0 3)
    else (0, ms st 0 2)
  else (0, ms st 0 1)
def mfix (st : kM) (x : Int32) : Int32 := if st 25 x.toNatClampNeg = 0 then (if st 6 (st 21 x.toNatClampNeg).toNatClampNeg = 0 then 0 else 1) else 1
def mstrike (st : kM) (x : Int32) : Int32 × kM :=
  if inr x 0 (st 20 0 - 1) = true then
    if mfix st x = 0 then (st 23 x.toNatClampNeg, ma (ms st 0 0) 25 x.toNatClampNeg 1) else (0, ms st 0 2)
  else (0, ms st 0 1)
def mmend (st : kM) (x y : Int32) : Int32 × kM :=
  if inr x 0 (st 20 0 - 1) = true then
    if inr y 1 9 = true then
      if mfix st x = 0 then (st 23 x.toNatClampNeg, ma (ms st 0 0) 23 x.toNatClampNeg y) else (0, ms st 0 3)
    else (0, ms st 0 2)
  else (0, ms st 0 1)
def mpromise (st : kM) (x y : Int32) : Int32 × kM :=
  if inr x 0 5 = true then
    if inr y 0 1000 = true then (st 26 x.toNatClampNeg, ma (ms st 0 0) 26 x.toNatClampNeg y) else (0, ms st 0 2)
  else (0, ms st 0 1)
def mslot (st : kM) (x y : Int32) : Int32 × kM :=
  if inr x 0 5 = true ∧ inr y 0 9 = true then
    if st 28 0 = 12 then (0, ms st 0 2)
    else if st 27 (10 * x.toNatClampNeg + y.toNatClampNeg) = 0 then
      (st 28 0 + 1, ms (ma (ms st 0 0) 27 (10 * x.toNatClampNeg + y.toNatClampNeg) 1) 28 (st 28 0 + 1))
    else (0, ms st 0 2)
  else (0, ms st 0 1)
def mshown (st : kM) (x y : Int32) : Int32 × kM :=
  if inr x 0 (st 1 0 - 1) = true then
    if inr y 0 2 = true then (if y = 0 then st 17 x.toNatClampNeg else if y = 1 then st 18 x.toNatClampNeg else st 19 x.toNatClampNeg, ms st 0 0) else (0, ms st 0 2)
  else (0, ms st 0 1)
def mpoints (st : kM) (nE : Nat) (x y e : Int32) : Int32 × kM :=
  if inr x 0 (st 5 0 - 1) = true ∧ inr y 0 9 = true then (ptsR st x y e nE, ms st 0 0) else (0, ms st 0 1)
def mfightOf (st : kM) (w : Nat) (x y : Int32) : Int32 × kM :=
  if inr x 0 (st 5 0 - 1) = true then
    if inr y 0 4 = true then
      (if y < 4 then (if y = 0 then st 6 x.toNatClampNeg else if y = 1 then st 7 x.toNatClampNeg else if y = 2 then st 8 x.toNatClampNeg else st 9 x.toNatClampNeg) else cntR (st 17) x w, ms st 0 0)
    else (0, ms st 0 2)
  else (0, ms st 0 1)
def mcameraOf (st : kM) (x y : Int32) : Int32 × kM :=
  if inr x 0 (st 10 0 - 1) = true then
    if inr y 0 1 = true then (if y = 0 then st 13 x.toNatClampNeg else st 14 x.toNatClampNeg, ms st 0 0) else (0, ms st 0 2)
  else (0, ms st 0 1)
def mcounted (st : kM) (w : Nat) (x : Int32) : Int32 × kM :=
  if inr x 0 5 = true then (cntR (st 19) x w, ms st 0 0) else (0, ms st 0 1)
def mowedP (st : kM) (w : Nat) (x : Int32) : Int32 × kM :=
  if inr x 0 5 = true then (mowed st w x.toNatClampNeg, ms st 0 0) else (0, ms st 0 1)
def winR (st : kM) (x : Int32) : Nat → Int32
  | 0 => 0
  | k + 1 => winR st x k + (if st 6 k = 1 then (if st 9 k = x then 1 else 0) else 0)
def aheR (st : kM) (nF k : Nat) : Nat → Int32
  | 0 => 0
  | j + 1 => aheR st nF k j + (if winR st (nI k) nF < winR st (nI j) nF then 1 else if winR st (nI j) nF = winR st (nI k) nF then (if nI j < nI k then 1 else 0) else 0)
def leaR (st : kM) (nF : Nat) (x : Int32) : Nat → Int32
  | 0 => 0
  | k + 1 => if aheR st nF k 10 = x then nI k else leaR st nF x k
def mleader (st : kM) (nF : Nat) (x : Int32) : Int32 × kM :=
  if inr x 0 9 = true then (leaR st nF x 10, ms st 0 0) else (0, ms st 0 1)
theorem mwf_0 {st : kM} {nF nC nE w : Nat} {v : Int32} (h : mwf st nF nC nE w) : mwf (ms st 0 v) nF nC nE w := h
theorem busyR01 (st : kM) (p : Int32) : ∀ n, busyR st p n = 0 ∨ busyR st p n = 1
  | 0 => Or.inl rfl
  | k + 1 => by
    rw [busyR]
    repeat' split
    all_goals simp
theorem busyR_nar (st : kM) (p : Int32) (n : Nat) : narrow .boolean (.int (busyR st p n)) = .int (busyR st p n) := by
  rcases busyR01 st p n with h | h <;> rw [h] <;> rfl
theorem n20 {nF : Nat} (h : nF ≤ 20) (z : ¬ nI nF = 20) : nF < 20 := by
  rcases Nat.lt_or_ge nF 20 with q | q
  · exact q
  · have : nF = 20 := by omega
    subst this
    exact absurd rfl z
theorem mf_self (st : kM) (k : Nat) (f : Nat → Int32) (h : f = st k) : mf st k f = st := by
  funext j
  by_cases c : j = k
  · subst c; simp [mf, h]
  · simp [mf, c]
theorem ma_mf (st : kM) (k i : Nat) (f : Nat → Int32) (v : Int32) : ma (mf st k f) k i v = mf st k (upd f i v) := by
  funext j
  by_cases c : j = k <;> simp [ma, mf, c]
theorem mf_comm (st : kM) {k l : Nat} (n : k ≠ l) (f g : Nat → Int32) : mf (mf st k f) l g = mf (mf st l g) k f := by
  funext j
  by_cases c : j = k
  · subst c; simp [mf, n]
  · simp [mf, c]
theorem ma_mf_n (st : kM) {k l : Nat} (n : k ≠ l) (i : Nat) (f : Nat → Int32) (v : Int32) : ma (mf st l f) k i v = mf (ma st k i v) l f := by
  funext j
  by_cases c : j = k
  · subst c; simp [ma, mf, n]
  · simp [ma, mf, c]
theorem updA {f g : Nat → Int32} {i : Nat} {v : Int32} (h1 : v = g i) (h2 : ∀ j, j ≠ i → f j = g j) : upd f i v = g := by
  funext j
  by_cases c : j = i
  · subst c; simp [upd, h1]
  · simp [upd, c, h2 j c]
theorem strA_s {st : kM} {x v : Int32} {i : Nat} (hv : v = if st 25 i = 0 then (if st 21 i = x then 1 else 0) else 1) : ma (mf st 25 (strA st x i)) 25 i v = mf st 25 (strA st x (i + 1)) := by
  rw [ma_mf]
  congr 1
  refine updA (by simp [strA, hv]) (fun j hj => ?_)
  by_cases c : j < i
  · have : j < i + 1 := by omega
    simp [strA, c, this]
  · have : ¬ j < i + 1 := by omega
    simp [strA, c, this]
theorem uncA_s {st : kM} {x v : Int32} {i : Nat} (hv : v = if st 17 i = x then -1 else st 19 i) : ma (mf st 19 (uncA st x i)) 19 i v = mf st 19 (uncA st x (i + 1)) := by
  rw [ma_mf]
  congr 1
  refine updA (by simp [uncA, hv]) (fun j hj => ?_)
  by_cases c : j < i
  · have : j < i + 1 := by omega
    simp [uncA, c, this]
  · have : ¬ j < i + 1 := by omega
    simp [uncA, c, this]
end
section
abbrev rmX4_in : Room := { frames := 0, cells := 0, slots := 0, locals := 0 }
set_option maxHeartbeats 4000000 in
set_option maxRecDepth 100000 in
theorem tX4_in {E : kE} (h : kH) (v a c : Int32) : kCi E yX4_in wsX4_in rmX4_in 0 0 [.int v, .int a, .int c] h (fun r h' => kR2 r (inr v a c) ∧ h' = h) := by
  refine kCi_of (rt := .boolean) (own := RX4) (cc := cX4_in) (maxL := 3) (by decide) rfl rfl (Nat.le_of_ble_eq_true rfl) ?_
  intro X _ kret
  refine r_lo (lo' := [(0, .int v), (1, .int a), (2, .int c)]) [0, 1, 2] rfl ?_
  refine r_iload_n dX4_in_0 0 rfl ?_
  refine r_iload_n dX4_in_1 1 rfl ?_
  refine r_icmp_lt (tgt := 14) dX4_in_2 (by decide) (fun c1 => ?_) (fun c1 => ?_)
  · skip
    refine r_iconst (v := 0) dX4_in_14 (by decide) ?_
    exact kret _ _ _ _ _ _ (Nat.le_refl _) (Nat.le_refl _) dX4_in_15 rfl (⟨Or.inr ⟨inr_f1 c1, rfl⟩, rfl⟩)
  · skip
    refine r_iload_n dX4_in_5 0 rfl ?_
    refine r_iload_n dX4_in_6 2 rfl ?_
    refine r_icmp_gt (tgt := 14) dX4_in_7 (by decide) (fun c2 => ?_) (fun c2 => ?_)
    · skip
      refine r_iconst (v := 0) dX4_in_14 (by decide) ?_
      exact kret _ _ _ _ _ _ (Nat.le_refl _) (Nat.le_refl _) dX4_in_15 rfl (⟨Or.inr ⟨inr_f2 c2, rfl⟩, rfl⟩)
    · skip
      refine r_iconst (v := 1) dX4_in_10 (by decide) ?_
      refine r_goto (tgt := 15) dX4_in_11 (by decide) ?_
      exact kret _ _ _ _ _ _ (Nat.le_refl _) (Nat.le_refl _) dX4_in_15 rfl (⟨Or.inl ⟨inr_t c1 c2, rfl⟩, rfl⟩)

abbrev rmX4_thrown : Room := { frames := 0, cells := 0, slots := 0, locals := 0 }
theorem hinX4_thrown : ∀ w ∈ u_ws RX4 TX4 29, w ∈ wsX4_thrown := by decide +kernel
theorem fwX4_thrown_81 : Cond.fieldLink RX4 81 "CastdeskModel" "thrown" "I" ∈ wsX4_thrown := by decide +kernel
set_option maxHeartbeats 4000000 in
set_option maxRecDepth 100000 in
theorem tX4_thrown {E : kE} {b : Nat → Nat} (hb : binj b) (st : kM) (h0 : kH)  : kCi E yX4_thrown wsX4_thrown rmX4_thrown 0 0 [.ref (b 29)] (ov E b st h0) (fun r h' => r = st 0 0 ∧ h' = ov E b st h0) := by
  refine kCi_of (rt := .int) (own := RX4) (cc := cX4_thrown) (maxL := 1) (by decide) rfl rfl (Nat.le_of_ble_eq_true rfl) ?_
  intro X _ kret
  refine r_lo (lo' := [(0, .ref (b 29))]) [0] rfl ?_
  refine r_aload_n dX4_thrown_0 0 rfl ?_
  refine m_geti (v := st 0 0) hb hinX4_thrown 0 (by decide) rfl dX4_thrown_1 fwX4_thrown_81 rfl rfl ?_
  exact kret _ _ _ _ _ _ (Nat.le_refl _) (Nat.le_refl _) dX4_thrown_4 rfl (⟨rfl, rfl⟩)

abbrev rmX4_refused : Room := { frames := 0, cells := 0, slots := 0, locals := 0 }
theorem hinX4_refused : ∀ w ∈ u_ws RX4 TX4 29, w ∈ wsX4_refused := by decide +kernel
theorem fwX4_refused_81 : Cond.fieldLink RX4 81 "CastdeskModel" "thrown" "I" ∈ wsX4_refused := by decide +kernel
set_option maxHeartbeats 4000000 in
set_option maxRecDepth 100000 in
theorem tX4_refused {E : kE} {b : Nat → Nat} (hb : binj b) (st : kM) (h0 : kH) (w : Int32) : kCi E yX4_refused wsX4_refused rmX4_refused 0 0 [.ref (b 29), .int w] (ov E b st h0) (fun r h' => r = (if w = 0 then 0 else 1) ∧ h' = ov E b (ms st 0 w) h0) := by
  refine kCi_of (rt := .boolean) (own := RX4) (cc := cX4_refused) (maxL := 2) (by decide) rfl rfl (Nat.le_of_ble_eq_true rfl) ?_
  intro X _ kret
  refine r_lo (lo' := [(0, .ref (b 29)), (1, .int w)]) [0, 1] rfl ?_
  refine r_aload_n dX4_refused_0 0 rfl ?_
  refine r_iload_n dX4_refused_1 1 rfl ?_
  refine m_puti hb hinX4_refused 0 (by decide) rfl dX4_refused_2 fwX4_refused_81 rfl rfl rfl ?_
  refine r_iload_n dX4_refused_5 1 rfl ?_
  refine r_if_eq (tgt := 13) dX4_refused_6 (by decide) (fun c1 => ?_) (fun c1 => ?_)
  · skip
    refine r_iconst (v := 0) dX4_refused_13 (by decide) ?_
    exact kret _ _ _ _ _ _ (Nat.le_refl _) (Nat.le_refl _) dX4_refused_14 rfl (⟨(by simp [c1]), rfl⟩)
  · skip
    refine r_iconst (v := 1) dX4_refused_9 (by decide) ?_
    refine r_goto (tgt := 14) dX4_refused_10 (by decide) ?_
    exact kret _ _ _ _ _ _ (Nat.le_refl _) (Nat.le_refl _) dX4_refused_14 rfl (⟨(by simp [c1]), rfl⟩)

abbrev rmX4_isPlayer : Room := { frames := 1, cells := 0, slots := 0, locals := 22 }
set_option maxHeartbeats 4000000 in
set_option maxRecDepth 100000 in
theorem tX4_isPlayer {E : kE} (h : kH) (x : Int32) : kCi E yX4_isPlayer wsX4_isPlayer rmX4_isPlayer 0 0 [.int x] h (fun r h' => kR2 r (inr x 0 9) ∧ h' = h) := by
  refine kCi_of (rt := .boolean) (own := RX4) (cc := cX4_isPlayer) (maxL := 1) (by decide) rfl rfl (Nat.le_of_ble_eq_true rfl) ?_
  intro X _ kret
  refine r_lo (lo' := [(0, .int x)]) [0] rfl ?_
  refine r_iload_n dX4_isPlayer_0 0 rfl ?_
  refine r_iconst (v := 0) dX4_isPlayer_1 (by decide) ?_
  refine r_bipush (v := 9) dX4_isPlayer_2 (by decide) ?_
  refine r_callSi (nn := 3) (As := [.int x, .int 0, .int 9]) (st := []) dX4_isPlayer_4 (tX4_in h x 0 9) gX4_isPlayer_X4_in rfl (by decide +kernel) ⟨Nat.le_of_ble_eq_true rfl, Nat.le_of_ble_eq_true rfl⟩ ⟨rfl, rfl⟩ rfl (Nat.le_of_ble_eq_true rfl) ⟨Nat.le_of_ble_eq_true rfl, Nat.le_of_ble_eq_true rfl⟩ rfl (fun r hh hp => ?_)
  obtain ⟨⟨q1, rfl⟩ | ⟨q1, rfl⟩, rfl⟩ := hp
  · skip
    exact kret _ _ _ _ _ _ (Nat.le_refl _) (Nat.le_refl _) dX4_isPlayer_7 rfl (⟨Or.inl ⟨q1, rfl⟩, rfl⟩)
  · skip
    exact kret _ _ _ _ _ _ (Nat.le_refl _) (Nat.le_refl _) dX4_isPlayer_7 rfl (⟨Or.inr ⟨q1, rfl⟩, rfl⟩)

abbrev rmX4_isSponsor : Room := { frames := 1, cells := 0, slots := 0, locals := 22 }
set_option maxHeartbeats 4000000 in
set_option maxRecDepth 100000 in
theorem tX4_isSponsor {E : kE} (h : kH) (x : Int32) : kCi E yX4_isSponsor wsX4_isSponsor rmX4_isSponsor 0 0 [.int x] h (fun r h' => kR2 r (inr x 0 5) ∧ h' = h) := by
  refine kCi_of (rt := .boolean) (own := RX4) (cc := cX4_isSponsor) (maxL := 1) (by decide) rfl rfl (Nat.le_of_ble_eq_true rfl) ?_
  intro X _ kret
  refine r_lo (lo' := [(0, .int x)]) [0] rfl ?_
  refine r_iload_n dX4_isSponsor_0 0 rfl ?_
  refine r_iconst (v := 0) dX4_isSponsor_1 (by decide) ?_
  refine r_iconst (v := 5) dX4_isSponsor_2 (by decide) ?_
  refine r_callSi (nn := 3) (As := [.int x, .int 0, .int 5]) (st := []) dX4_isSponsor_3 (tX4_in h x 0 5) gX4_isSponsor_X4_in rfl (by decide +kernel) ⟨Nat.le_of_ble_eq_true rfl, Nat.le_of_ble_eq_true rfl⟩ ⟨rfl, rfl⟩ rfl (Nat.le_of_ble_eq_true rfl) ⟨Nat.le_of_ble_eq_true rfl, Nat.le_of_ble_eq_true rfl⟩ rfl (fun r hh hp => ?_)
  obtain ⟨⟨q1, rfl⟩ | ⟨q1, rfl⟩, rfl⟩ := hp
  · skip
    exact kret _ _ _ _ _ _ (Nat.le_refl _) (Nat.le_refl _) dX4_isSponsor_6 rfl (⟨Or.inl ⟨q1, rfl⟩, rfl⟩)
  · skip
    exact kret _ _ _ _ _ _ (Nat.le_refl _) (Nat.le_refl _) dX4_isSponsor_6 rfl (⟨Or.inr ⟨q1, rfl⟩, rfl⟩)

abbrev rmX4_isFight : Room := { frames := 1, cells := 0, slots := 0, locals := 22 }
theorem hinX4_isFight : ∀ w ∈ u_ws RX4 TX4 29, w ∈ wsX4_isFight := by decide +kernel
theorem fwX4_isFight_88 : Cond.fieldLink RX4 88 "CastdeskModel" "fights" "I" ∈ wsX4_isFight := by decide +kernel
set_option maxHeartbeats 4000000 in
set_option maxRecDepth 100000 in
theorem tX4_isFight {E : kE} {b : Nat → Nat} (hb : binj b) (st : kM) (h0 : kH) (x : Int32) : kCi E yX4_isFight wsX4_isFight rmX4_isFight 0 0 [.ref (b 29), .int x] (ov E b st h0) (fun r h' => kR2 r (inr x 0 (st 5 0 - 1)) ∧ h' = ov E b st h0) := by
  refine kCi_of (rt := .boolean) (own := RX4) (cc := cX4_isFight) (maxL := 2) (by decide) rfl rfl (Nat.le_of_ble_eq_true rfl) ?_
  intro X _ kret
  refine r_lo (lo' := [(0, .ref (b 29)), (1, .int x)]) [0, 1] rfl ?_
  refine r_iload_n dX4_isFight_0 1 rfl ?_
  refine r_iconst (v := 0) dX4_isFight_1 (by decide) ?_
  refine r_aload_n dX4_isFight_2 0 rfl ?_
  refine m_geti (v := st 5 0) hb hinX4_isFight 5 (by decide) rfl dX4_isFight_3 fwX4_isFight_88 rfl rfl ?_
  refine r_iconst (v := 1) dX4_isFight_6 (by decide) ?_
  refine r_isub dX4_isFight_7 ?_
  refine r_callSi (nn := 3) (As := [.int x, .int 0, .int ((st 5 0) - 1)]) (st := []) dX4_isFight_8 (tX4_in (ov E b st h0) x 0 ((st 5 0) - 1)) gX4_isFight_X4_in rfl (by decide +kernel) ⟨Nat.le_of_ble_eq_true rfl, Nat.le_of_ble_eq_true rfl⟩ ⟨rfl, rfl⟩ rfl (Nat.le_of_ble_eq_true rfl) ⟨Nat.le_of_ble_eq_true rfl, Nat.le_of_ble_eq_true rfl⟩ rfl (fun r hh hp => ?_)
  obtain ⟨⟨q1, rfl⟩ | ⟨q1, rfl⟩, rfl⟩ := hp
  · skip
    exact kret _ _ _ _ _ _ (Nat.le_refl _) (Nat.le_refl _) dX4_isFight_11 rfl (⟨Or.inl ⟨q1, rfl⟩, rfl⟩)
  · skip
    exact kret _ _ _ _ _ _ (Nat.le_refl _) (Nat.le_refl _) dX4_isFight_11 rfl (⟨Or.inr ⟨q1, rfl⟩, rfl⟩)

abbrev rmX4_isEntry : Room := { frames := 1, cells := 0, slots := 0, locals := 22 }
theorem hinX4_isEntry : ∀ w ∈ u_ws RX4 TX4 29, w ∈ wsX4_isEntry := by decide +kernel
theorem fwX4_isEntry_112 : Cond.fieldLink RX4 112 "CastdeskModel" "entries" "I" ∈ wsX4_isEntry := by decide +kernel
set_option maxHeartbeats 4000000 in
set_option maxRecDepth 100000 in
theorem tX4_isEntry {E : kE} {b : Nat → Nat} (hb : binj b) (st : kM) (h0 : kH) (x : Int32) : kCi E yX4_isEntry wsX4_isEntry rmX4_isEntry 0 0 [.ref (b 29), .int x] (ov E b st h0) (fun r h' => kR2 r (inr x 0 (st 20 0 - 1)) ∧ h' = ov E b st h0) := by
  refine kCi_of (rt := .boolean) (own := RX4) (cc := cX4_isEntry) (maxL := 2) (by decide) rfl rfl (Nat.le_of_ble_eq_true rfl) ?_
  intro X _ kret
  refine r_lo (lo' := [(0, .ref (b 29)), (1, .int x)]) [0, 1] rfl ?_
  refine r_iload_n dX4_isEntry_0 1 rfl ?_
  refine r_iconst (v := 0) dX4_isEntry_1 (by decide) ?_
  refine r_aload_n dX4_isEntry_2 0 rfl ?_
  refine m_geti (v := st 20 0) hb hinX4_isEntry 20 (by decide) rfl dX4_isEntry_3 fwX4_isEntry_112 rfl rfl ?_
  refine r_iconst (v := 1) dX4_isEntry_6 (by decide) ?_
  refine r_isub dX4_isEntry_7 ?_
  refine r_callSi (nn := 3) (As := [.int x, .int 0, .int ((st 20 0) - 1)]) (st := []) dX4_isEntry_8 (tX4_in (ov E b st h0) x 0 ((st 20 0) - 1)) gX4_isEntry_X4_in rfl (by decide +kernel) ⟨Nat.le_of_ble_eq_true rfl, Nat.le_of_ble_eq_true rfl⟩ ⟨rfl, rfl⟩ rfl (Nat.le_of_ble_eq_true rfl) ⟨Nat.le_of_ble_eq_true rfl, Nat.le_of_ble_eq_true rfl⟩ rfl (fun r hh hp => ?_)
  obtain ⟨⟨q1, rfl⟩ | ⟨q1, rfl⟩, rfl⟩ := hp
  · skip
    exact kret _ _ _ _ _ _ (Nat.le_refl _) (Nat.le_refl _) dX4_isEntry_11 rfl (⟨Or.inl ⟨q1, rfl⟩, rfl⟩)
  · skip
    exact kret _ _ _ _ _ _ (Nat.le_refl _) (Nat.le_refl _) dX4_isEntry_11 rfl (⟨Or.inr ⟨q1, rfl⟩, rfl⟩)

abbrev rmX4_frame : Room := { frames := 0, cells := 0, slots := 0, locals := 0 }
theorem hinX4_frame : ∀ w ∈ u_ws RX4 TX4 29, w ∈ wsX4_frame := by decide +kernel
theorem fwX4_frame_81 : Cond.fieldLink RX4 81 "CastdeskModel" "thrown" "I" ∈ wsX4_frame := by decide +kernel
theorem fwX4_frame_115 : Cond.fieldLink RX4 115 "CastdeskModel" "now" "I" ∈ wsX4_frame := by decide +kernel
set_option maxHeartbeats 4000000 in
set_option maxRecDepth 100000 in
theorem tX4_frame {E : kE} {b : Nat → Nat} (hb : binj b) (st : kM) (h0 : kH)  : kCi E yX4_frame wsX4_frame rmX4_frame 0 0 [.ref (b 29)] (ov E b st h0) (fun r h' => r = st 1 0 ∧ h' = ov E b (ms st 0 0) h0) := by
  refine kCi_of (rt := .int) (own := RX4) (cc := cX4_frame) (maxL := 1) (by decide) rfl rfl (Nat.le_of_ble_eq_true rfl) ?_
  intro X _ kret
  refine r_lo (lo' := [(0, .ref (b 29))]) [0] rfl ?_
  refine r_aload_n dX4_frame_0 0 rfl ?_
  refine r_iconst (v := 0) dX4_frame_1 (by decide) ?_
  refine m_puti hb hinX4_frame 0 (by decide) rfl dX4_frame_2 fwX4_frame_81 rfl rfl rfl ?_
  refine r_aload_n dX4_frame_5 0 rfl ?_
  refine m_geti (v := st 1 0) hb hinX4_frame 1 (by decide) rfl dX4_frame_6 fwX4_frame_115 rfl rfl ?_
  exact kret _ _ _ _ _ _ (Nat.le_refl _) (Nat.le_refl _) dX4_frame_9 rfl (⟨rfl, rfl⟩)

abbrev rmX4_seen : Room := { frames := 0, cells := 0, slots := 0, locals := 0 }
theorem hinX4_seen : ∀ w ∈ u_ws RX4 TX4 29, w ∈ wsX4_seen := by decide +kernel
theorem fwX4_seen_13 : Cond.fieldLink RX4 13 "CastdeskModel" "seen" "I" ∈ wsX4_seen := by decide +kernel
theorem fwX4_seen_81 : Cond.fieldLink RX4 81 "CastdeskModel" "thrown" "I" ∈ wsX4_seen := by decide +kernel
set_option maxHeartbeats 4000000 in
set_option maxRecDepth 100000 in
theorem tX4_seen {E : kE} {b : Nat → Nat} (hb : binj b) (st : kM) (h0 : kH)  : kCi E yX4_seen wsX4_seen rmX4_seen 0 0 [.ref (b 29)] (ov E b st h0) (fun r h' => r = st 3 0 ∧ h' = ov E b (ms st 0 0) h0) := by
  refine kCi_of (rt := .int) (own := RX4) (cc := cX4_seen) (maxL := 1) (by decide) rfl rfl (Nat.le_of_ble_eq_true rfl) ?_
  intro X _ kret
  refine r_lo (lo' := [(0, .ref (b 29))]) [0] rfl ?_
  refine r_aload_n dX4_seen_0 0 rfl ?_
  refine r_iconst (v := 0) dX4_seen_1 (by decide) ?_
  refine m_puti hb hinX4_seen 0 (by decide) rfl dX4_seen_2 fwX4_seen_81 rfl rfl rfl ?_
  refine r_aload_n dX4_seen_5 0 rfl ?_
  refine m_geti (v := st 3 0) hb hinX4_seen 3 (by decide) rfl dX4_seen_6 fwX4_seen_13 rfl rfl ?_
  exact kret _ _ _ _ _ _ (Nat.le_refl _) (Nat.le_refl _) dX4_seen_9 rfl (⟨rfl, rfl⟩)

abbrev rmX4_rank : Room := { frames := 2, cells := 0, slots := 0, locals := 42 }
theorem hinX4_rank : ∀ w ∈ u_ws RX4 TX4 29, w ∈ wsX4_rank := by decide +kernel
theorem fwX4_rank_16 : Cond.fieldLink RX4 16 "CastdeskModel" "ranks" "[I" ∈ wsX4_rank := by decide +kernel
set_option maxHeartbeats 4000000 in
set_option maxRecDepth 100000 in
theorem tX4_rank {E : kE} {b : Nat → Nat} (hb : binj b) (st : kM) (h0 : kH) (x y : Int32) : kCi E yX4_rank wsX4_rank rmX4_rank 0 0 [.ref (b 29), .int x, .int y] (ov E b st h0) (fun r h' => r = (mrank st x y).1 ∧ h' = ov E b (mrank st x y).2 h0) := by
  refine kCi_of (rt := .int) (own := RX4) (cc := cX4_rank) (maxL := 4) (by decide) rfl rfl (Nat.le_of_ble_eq_true rfl) ?_
  intro X _ kret
  refine r_lo (lo' := [(0, .ref (b 29)), (1, .int x), (2, .int y)]) [0, 1, 2] rfl ?_
  refine r_aload_n dX4_rank_0 0 rfl ?_
  refine r_iload_n dX4_rank_1 1 rfl ?_
  refine r_callSi (nn := 1) (As := [.int x]) (st := [.ref (b 29)]) dX4_rank_2 (tX4_isPlayer _ x) gX4_rank_X4_isPlayer rfl (by decide +kernel) ⟨Nat.le_of_ble_eq_true rfl, Nat.le_of_ble_eq_true rfl⟩ ⟨rfl, rfl⟩ rfl (Nat.le_of_ble_eq_true rfl) ⟨Nat.le_of_ble_eq_true rfl, Nat.le_of_ble_eq_true rfl⟩ rfl (fun r hh hp => ?_)
  obtain ⟨⟨q1, rfl⟩ | ⟨q1, rfl⟩, rfl⟩ := hp
  · skip
    obtain ⟨o, ho, rfl⟩ := inr_nat (m := 9) (by decide) q1
    have eo : (nI o).toNatClampNeg = o := nI_clamp (by omega)
    refine r_if_ne (tgt := 12) dX4_rank_5 (by decide) (fun _ => ?_) (fun z => absurd z (by decide))
    refine r_iload_n dX4_rank_12 2 rfl ?_
    refine r_iconst (v := 0) dX4_rank_13 (by decide) ?_
    refine r_bipush (v := 99) dX4_rank_14 (by decide) ?_
    refine r_callSi (nn := 3) (As := [.int y, .int 0, .int 99]) (st := [.ref (b 29)]) dX4_rank_16 (tX4_in _ y 0 99) gX4_rank_X4_in rfl (by decide +kernel) ⟨Nat.le_of_ble_eq_true rfl, Nat.le_of_ble_eq_true rfl⟩ ⟨rfl, rfl⟩ rfl (Nat.le_of_ble_eq_true rfl) ⟨Nat.le_of_ble_eq_true rfl, Nat.le_of_ble_eq_true rfl⟩ rfl (fun r hh hp => ?_)
    obtain ⟨⟨q2, rfl⟩ | ⟨q2, rfl⟩, rfl⟩ := hp
    · skip
      refine r_if_ne (tgt := 26) dX4_rank_19 (by decide) (fun _ => ?_) (fun z => absurd z (by decide))
      refine r_iconst (v := 0) dX4_rank_26 (by decide) ?_
      refine r_callVi (nn := 1) (As := [.int 0]) (st := []) dX4_rank_27 (tX4_refused hb st h0 0) gX4_rank_X4_refused rfl (by decide +kernel) ⟨Nat.le_of_ble_eq_true rfl, Nat.le_of_ble_eq_true rfl⟩ ⟨rfl, rfl⟩ (ov_obj hb _ _) rfl rfl (Nat.le_of_ble_eq_true rfl) ⟨Nat.le_of_ble_eq_true rfl, Nat.le_of_ble_eq_true rfl⟩ rfl (fun r hh hp => ?_)
      obtain ⟨hr9, rfl⟩ := hp
      rw [show (if (0 : Int32) = 0 then (0 : Int32) else 1) = 0 from by decide] at hr9
      subst hr9
      refine r_if_eq (tgt := 35) dX4_rank_30 (by decide) (fun _ => ?_) (fun z => absurd z (by decide))
      refine r_aload_n dX4_rank_35 0 rfl ?_
      refine m_geta hb hinX4_rank 4 (by decide) rfl dX4_rank_36 fwX4_rank_16 rfl ?_
      refine r_iload_n dX4_rank_39 1 rfl ?_
      refine m_ald (v := st 4 o) hb 4 o (by decide) dX4_rank_40 rfl (by show _ < 10; omega) (by decide) rfl ?_
      refine r_istore_n (lo' := [(3, .int (st 4 o)), (0, .ref (b 29)), (1, .int (nI o)), (2, .int y)]) dX4_rank_41 (by decide) rfl ?_
      refine r_aload_n dX4_rank_42 1 rfl ?_
      refine m_geta hb hinX4_rank 4 (by decide) rfl dX4_rank_43 fwX4_rank_16 rfl ?_
      refine r_iload_n dX4_rank_46 2 rfl ?_
      refine r_iload_n dX4_rank_47 3 rfl ?_
      refine m_ast hb 4 o (by decide) dX4_rank_48 rfl (by show _ < 10; omega) (by decide) ?_
      refine r_iload_n dX4_rank_49 0 rfl ?_
      exact kret _ _ _ _ _ _ (Nat.le_refl _) (Nat.le_refl _) dX4_rank_50 rfl (⟨by simp [mrank, ms, ma, q1, eo, q2], by simp [mrank, ms, ma, q1, eo, q2]⟩)
    · skip
      refine r_if_ne (tgt := 26) dX4_rank_19 (by decide) (fun z => absurd z (by decide)) (fun _ => ?_)
      refine r_iconst (v := 2) dX4_rank_22 (by decide) ?_
      refine r_goto (tgt := 27) dX4_rank_23 (by decide) ?_
      refine r_callVi (nn := 1) (As := [.int 2]) (st := []) dX4_rank_27 (tX4_refused hb st h0 2) gX4_rank_X4_refused rfl (by decide +kernel) ⟨Nat.le_of_ble_eq_true rfl, Nat.le_of_ble_eq_true rfl⟩ ⟨rfl, rfl⟩ (ov_obj hb _ _) rfl rfl (Nat.le_of_ble_eq_true rfl) ⟨Nat.le_of_ble_eq_true rfl, Nat.le_of_ble_eq_true rfl⟩ rfl (fun r hh hp => ?_)
      obtain ⟨hr9, rfl⟩ := hp
      rw [show (if (2 : Int32) = 0 then (0 : Int32) else 1) = 1 from by decide] at hr9
      subst hr9
      refine r_if_eq (tgt := 35) dX4_rank_30 (by decide) (fun z => absurd z (by decide)) (fun _ => ?_)
      refine r_iconst (v := 0) dX4_rank_33 (by decide) ?_
      exact kret _ _ _ _ _ _ (Nat.le_refl _) (Nat.le_refl _) dX4_rank_34 rfl (⟨by simp [mrank, ms, ma, q1, eo, q2], by simp [mrank, ms, ma, q1, eo, q2]⟩)
  · skip
    refine r_if_ne (tgt := 12) dX4_rank_5 (by decide) (fun z => absurd z (by decide)) (fun _ => ?_)
    refine r_iconst (v := 1) dX4_rank_8 (by decide) ?_
    refine r_goto (tgt := 27) dX4_rank_9 (by decide) ?_
    refine r_callVi (nn := 1) (As := [.int 1]) (st := []) dX4_rank_27 (tX4_refused hb st h0 1) gX4_rank_X4_refused rfl (by decide +kernel) ⟨Nat.le_of_ble_eq_true rfl, Nat.le_of_ble_eq_true rfl⟩ ⟨rfl, rfl⟩ (ov_obj hb _ _) rfl rfl (Nat.le_of_ble_eq_true rfl) ⟨Nat.le_of_ble_eq_true rfl, Nat.le_of_ble_eq_true rfl⟩ rfl (fun r hh hp => ?_)
    obtain ⟨hr9, rfl⟩ := hp
    rw [show (if (1 : Int32) = 0 then (0 : Int32) else 1) = 1 from by decide] at hr9
    subst hr9
    refine r_if_eq (tgt := 35) dX4_rank_30 (by decide) (fun z => absurd z (by decide)) (fun _ => ?_)
    refine r_iconst (v := 0) dX4_rank_33 (by decide) ?_
    exact kret _ _ _ _ _ _ (Nat.le_refl _) (Nat.le_refl _) dX4_rank_34 rfl (⟨by simp [mrank, ms, ma, q1], by simp [mrank, ms, ma, q1]⟩)

abbrev rmX4_isBusy : Room := { frames := 0, cells := 0, slots := 0, locals := 0 }
theorem hinX4_isBusy : ∀ w ∈ u_ws RX4 TX4 29, w ∈ wsX4_isBusy := by decide +kernel
theorem fwX4_isBusy_20 : Cond.fieldLink RX4 20 "CastdeskModel" "state" "[I" ∈ wsX4_isBusy := by decide +kernel
theorem fwX4_isBusy_23 : Cond.fieldLink RX4 23 "CastdeskModel" "first" "[I" ∈ wsX4_isBusy := by decide +kernel
theorem fwX4_isBusy_26 : Cond.fieldLink RX4 26 "CastdeskModel" "second" "[I" ∈ wsX4_isBusy := by decide +kernel
theorem fwX4_isBusy_88 : Cond.fieldLink RX4 88 "CastdeskModel" "fights" "I" ∈ wsX4_isBusy := by decide +kernel
set_option maxHeartbeats 4000000 in
set_option maxRecDepth 100000 in
theorem lX4_isBusy_4 {E : kE} {b : Nat → Nat} (hb : binj b) {st : kM} {h0 : kH} (nF nC nE w : Nat) (hwf : mwf st nF nC nE w) (p : Int32)  {X : kX} (hx : ∀ v : Int32, v = busyR st p nF → V E X rmX4_isBusy cX4_isBusy 4 wsX4_isBusy RX4 0 0 (ov E b st h0) [(3, .int (nI nF)), (2, .int v), (0, .ref (b 29)), (1, .int p)] 57 [])
    : ∀ (d i : Nat) (v : Int32), nF < i + d → i ≤ nF → v = busyR st p i → V E X rmX4_isBusy cX4_isBusy 4 wsX4_isBusy RX4 0 0 (ov E b st h0) [(3, .int (nI i)), (2, .int v), (0, .ref (b 29)), (1, .int p)] 4 [] := by
  obtain ⟨hF, hF20, hC, hC6, hE, hE80, hW, hW3, hpl, hof, hon, hsl⟩ := id hwf
  intro d
  induction d with
  | zero =>
    intro i v h1 h2
    exact absurd h1 (by omega)
  | succ d ih =>
    intro i v h1 h2 e1
    refine r_iload_n dX4_isBusy_4 0 rfl ?_
    refine r_aload_n dX4_isBusy_5 2 rfl ?_
    refine m_geti (v := st 5 0) hb hinX4_isBusy 5 (by decide) rfl dX4_isBusy_6 fwX4_isBusy_88 rfl rfl ?_
    refine rn_icmp_ge (a := i) (c := nF) (tgt := 57) dX4_isBusy_9 (by decide) rfl hF (by omega) (by omega) (fun c1 => ?_) (fun c1 => ?_)
    · skip
      have hNi : nF = i := by omega
      subst hNi
      exact hx v e1
    · skip
      refine r_iload_n dX4_isBusy_12 1 rfl ?_
      refine r_if_ne (tgt := 45) dX4_isBusy_13 (by decide) (fun c2 => ?_) (fun c2 => ?_)
      · skip
        refine r_iconst (v := 1) dX4_isBusy_45 (by decide) ?_
        refine r_goto (tgt := 50) dX4_isBusy_46 (by decide) ?_
        refine r_istore_n (lo' := [(2, .int 1), (3, .int (nI i)), (0, .ref (b 29)), (1, .int p)]) dX4_isBusy_50 (by decide) rfl ?_
        refine r_iinc (v := nI (i + 1)) (lo' := [(3, .int (nI (i + 1))), (2, .int 1), (0, .ref (b 29)), (1, .int p)]) dX4_isBusy_51 1 rfl (nI_1 i) (by decide) rfl ?_
        refine r_goto (tgt := 4) dX4_isBusy_54 (by decide) ?_
        refine r_lo (lo' := [(3, .int (nI (i + 1))), (2, .int 1), (0, .ref (b 29)), (1, .int p)]) [0, 1, 2, 3] rfl ?_
        exact ih (i + 1) 1 (by omega) (by omega) (by simp only [busyR, ← e1]; simp [c1, c2])
      · skip
        refine r_aload_n dX4_isBusy_16 2 rfl ?_
        refine m_geta hb hinX4_isBusy 6 (by decide) rfl dX4_isBusy_17 fwX4_isBusy_20 rfl ?_
        refine r_iload_n dX4_isBusy_20 0 rfl ?_
        refine m_ald (v := st 6 i) hb 6 i (by decide) dX4_isBusy_21 rfl (by show _ < 20; omega) (by decide) rfl ?_
        refine r_if_ne (tgt := 49) dX4_isBusy_22 (by decide) (fun c3 => ?_) (fun c3 => ?_)
        · skip
          refine r_iconst (v := 0) dX4_isBusy_49 (by decide) ?_
          refine r_istore_n (lo' := [(2, .int 0), (3, .int (nI i)), (0, .ref (b 29)), (1, .int p)]) dX4_isBusy_50 (by decide) rfl ?_
          refine r_iinc (v := nI (i + 1)) (lo' := [(3, .int (nI (i + 1))), (2, .int 0), (0, .ref (b 29)), (1, .int p)]) dX4_isBusy_51 1 rfl (nI_1 i) (by decide) rfl ?_
          refine r_goto (tgt := 4) dX4_isBusy_54 (by decide) ?_
          refine r_lo (lo' := [(3, .int (nI (i + 1))), (2, .int 0), (0, .ref (b 29)), (1, .int p)]) [0, 1, 2, 3] rfl ?_
          exact ih (i + 1) 0 (by omega) (by omega) (by simp only [busyR, ← e1]; simp [c1, c2, c3])
        · skip
          refine r_aload_n dX4_isBusy_25 2 rfl ?_
          refine m_geta hb hinX4_isBusy 7 (by decide) rfl dX4_isBusy_26 fwX4_isBusy_23 rfl ?_
          refine r_iload_n dX4_isBusy_29 0 rfl ?_
          refine m_ald (v := st 7 i) hb 7 i (by decide) dX4_isBusy_30 rfl (by show _ < 20; omega) (by decide) rfl ?_
          refine r_iload_n dX4_isBusy_31 3 rfl ?_
          refine r_icmp_eq (tgt := 45) dX4_isBusy_32 (by decide) (fun c4 => ?_) (fun c4 => ?_)
          · skip
            refine r_iconst (v := 1) dX4_isBusy_45 (by decide) ?_
            refine r_goto (tgt := 50) dX4_isBusy_46 (by decide) ?_
            refine r_istore_n (lo' := [(2, .int 1), (3, .int (nI i)), (0, .ref (b 29)), (1, .int p)]) dX4_isBusy_50 (by decide) rfl ?_
            refine r_iinc (v := nI (i + 1)) (lo' := [(3, .int (nI (i + 1))), (2, .int 1), (0, .ref (b 29)), (1, .int p)]) dX4_isBusy_51 1 rfl (nI_1 i) (by decide) rfl ?_
            refine r_goto (tgt := 4) dX4_isBusy_54 (by decide) ?_
            refine r_lo (lo' := [(3, .int (nI (i + 1))), (2, .int 1), (0, .ref (b 29)), (1, .int p)]) [0, 1, 2, 3] rfl ?_
            exact ih (i + 1) 1 (by omega) (by omega) (by simp only [busyR, ← e1]; simp [c1, c2, c3, c4])
          · skip
            refine r_aload_n dX4_isBusy_35 2 rfl ?_
            refine m_geta hb hinX4_isBusy 8 (by decide) rfl dX4_isBusy_36 fwX4_isBusy_26 rfl ?_
            refine r_iload_n dX4_isBusy_39 0 rfl ?_
            refine m_ald (v := st 8 i) hb 8 i (by decide) dX4_isBusy_40 rfl (by show _ < 20; omega) (by decide) rfl ?_
            refine r_iload_n dX4_isBusy_41 3 rfl ?_
            refine r_icmp_ne (tgt := 49) dX4_isBusy_42 (by decide) (fun c5 => ?_) (fun c5 => ?_)
            · skip
              refine r_iconst (v := 0) dX4_isBusy_49 (by decide) ?_
              refine r_istore_n (lo' := [(2, .int 0), (3, .int (nI i)), (0, .ref (b 29)), (1, .int p)]) dX4_isBusy_50 (by decide) rfl ?_
              refine r_iinc (v := nI (i + 1)) (lo' := [(3, .int (nI (i + 1))), (2, .int 0), (0, .ref (b 29)), (1, .int p)]) dX4_isBusy_51 1 rfl (nI_1 i) (by decide) rfl ?_
              refine r_goto (tgt := 4) dX4_isBusy_54 (by decide) ?_
              refine r_lo (lo' := [(3, .int (nI (i + 1))), (2, .int 0), (0, .ref (b 29)), (1, .int p)]) [0, 1, 2, 3] rfl ?_
              exact ih (i + 1) 0 (by omega) (by omega) (by simp only [busyR, ← e1]; simp [c1, c2, c3, c4, c5])
            · skip
              refine r_iconst (v := 1) dX4_isBusy_45 (by decide) ?_
              refine r_goto (tgt := 50) dX4_isBusy_46 (by decide) ?_
              refine r_istore_n (lo' := [(2, .int 1), (3, .int (nI i)), (0, .ref (b 29)), (1, .int p)]) dX4_isBusy_50 (by decide) rfl ?_
              refine r_iinc (v := nI (i + 1)) (lo' := [(3, .int (nI (i + 1))), (2, .int 1), (0, .ref (b 29)), (1, .int p)]) dX4_isBusy_51 1 rfl (nI_1 i) (by decide) rfl ?_
              refine r_goto (tgt := 4) dX4_isBusy_54 (by decide) ?_
              refine r_lo (lo' := [(3, .int (nI (i + 1))), (2, .int 1), (0, .ref (b 29)), (1, .int p)]) [0, 1, 2, 3] rfl ?_
              exact ih (i + 1) 1 (by omega) (by omega) (by simp only [busyR, ← e1]; simp [c1, c2, c3, c4, c5])

set_option maxHeartbeats 4000000 in
set_option maxRecDepth 100000 in
theorem tX4_isBusy {E : kE} {b : Nat → Nat} (hb : binj b) (st : kM) (h0 : kH) (nF nC nE w : Nat) (hwf : mwf st nF nC nE w) (p : Int32) : kCi E yX4_isBusy wsX4_isBusy rmX4_isBusy 0 0 [.ref (b 29), .int p] (ov E b st h0) (fun r h' => r = busyR st p nF ∧ h' = ov E b st h0) := by
  obtain ⟨hF, hF20, hC, hC6, hE, hE80, hW, hW3, hpl, hof, hon, hsl⟩ := id hwf
  refine kCi_of (rt := .boolean) (own := RX4) (cc := cX4_isBusy) (maxL := 4) (by decide) rfl rfl (Nat.le_of_ble_eq_true rfl) ?_
  intro X _ kret
  refine r_lo (lo' := [(0, .ref (b 29)), (1, .int p)]) [0, 1] rfl ?_
  refine r_iconst (v := 0) dX4_isBusy_0 (by decide) ?_
  refine r_istore_n (lo' := [(2, .int 0), (0, .ref (b 29)), (1, .int p)]) dX4_isBusy_1 (by decide) rfl ?_
  refine r_iconst (v := 0) dX4_isBusy_2 (by decide) ?_
  refine r_istore_n (lo' := [(3, .int 0), (2, .int 0), (0, .ref (b 29)), (1, .int p)]) dX4_isBusy_3 (by decide) rfl ?_
  refine r_lo (lo' := [(3, .int 0), (2, .int 0), (0, .ref (b 29)), (1, .int p)]) [0, 1, 2, 3] rfl ?_
  refine lX4_isBusy_4 hb nF nC nE w hwf p (fun v e1 => ?_) (nF + 1) 0 _ (by omega) (Nat.zero_le _) rfl
  refine r_iload_n dX4_isBusy_57 1 rfl ?_
  exact kret _ _ _ _ _ _ (Nat.le_refl _) (Nat.le_refl _) dX4_isBusy_58 (by rw [e1]; exact busyR_nar st p nF) (⟨e1, rfl⟩)

abbrev rmX4_pointsOf : Room := { frames := 0, cells := 0, slots := 0, locals := 0 }
theorem hinX4_pointsOf : ∀ w ∈ u_ws RX4 TX4 29, w ∈ wsX4_pointsOf := by decide +kernel
theorem fwX4_pointsOf_59 : Cond.fieldLink RX4 59 "CastdeskModel" "of" "[I" ∈ wsX4_pointsOf := by decide +kernel
theorem fwX4_pointsOf_62 : Cond.fieldLink RX4 62 "CastdeskModel" "by" "[I" ∈ wsX4_pointsOf := by decide +kernel
theorem fwX4_pointsOf_65 : Cond.fieldLink RX4 65 "CastdeskModel" "points" "[I" ∈ wsX4_pointsOf := by decide +kernel
theorem fwX4_pointsOf_68 : Cond.fieldLink RX4 68 "CastdeskModel" "at" "[I" ∈ wsX4_pointsOf := by decide +kernel
theorem fwX4_pointsOf_71 : Cond.fieldLink RX4 71 "CastdeskModel" "isStruck" "[Z" ∈ wsX4_pointsOf := by decide +kernel
theorem fwX4_pointsOf_112 : Cond.fieldLink RX4 112 "CastdeskModel" "entries" "I" ∈ wsX4_pointsOf := by decide +kernel
set_option maxHeartbeats 4000000 in
set_option maxRecDepth 100000 in
theorem lX4_pointsOf_6 {E : kE} {b : Nat → Nat} (hb : binj b) {st : kM} {h0 : kH} (nF nC nE w : Nat) (hwf : mwf st nF nC nE w) (f p e : Int32)  {X : kX} (hx : ∀ v : Int32, v = ptsR st f p e nE → V E X rmX4_pointsOf cX4_pointsOf 6 wsX4_pointsOf RX4 0 0 (ov E b st h0) [(5, .int (nI nE)), (4, .int v), (0, .ref (b 29)), (1, .int f), (2, .int p), (3, .int e)] 80 [])
    : ∀ (d i : Nat) (v : Int32), nE < i + d → i ≤ nE → v = ptsR st f p e i → V E X rmX4_pointsOf cX4_pointsOf 6 wsX4_pointsOf RX4 0 0 (ov E b st h0) [(5, .int (nI i)), (4, .int v), (0, .ref (b 29)), (1, .int f), (2, .int p), (3, .int e)] 6 [] := by
  obtain ⟨hF, hF20, hC, hC6, hE, hE80, hW, hW3, hpl, hof, hon, hsl⟩ := id hwf
  intro d
  induction d with
  | zero =>
    intro i v h1 h2
    exact absurd h1 (by omega)
  | succ d ih =>
    intro i v h1 h2 e1
    refine r_iload dX4_pointsOf_6 0 rfl ?_
    refine r_aload_n dX4_pointsOf_8 2 rfl ?_
    refine m_geti (v := st 20 0) hb hinX4_pointsOf 20 (by decide) rfl dX4_pointsOf_9 fwX4_pointsOf_112 rfl rfl ?_
    refine rn_icmp_ge (a := i) (c := nE) (tgt := 80) dX4_pointsOf_12 (by decide) rfl hE (by omega) (by omega) (fun c1 => ?_) (fun c1 => ?_)
    · skip
      have hNi : nE = i := by omega
      subst hNi
      exact hx v e1
    · skip
      refine r_iload dX4_pointsOf_15 1 rfl ?_
      refine r_aload_n dX4_pointsOf_17 2 rfl ?_
      refine m_geta hb hinX4_pointsOf 21 (by decide) rfl dX4_pointsOf_18 fwX4_pointsOf_59 rfl ?_
      refine r_iload dX4_pointsOf_21 0 rfl ?_
      refine m_ald (v := st 21 i) hb 21 i (by decide) dX4_pointsOf_23 rfl (by show _ < 80; omega) (by decide) rfl ?_
      refine r_iload_n dX4_pointsOf_24 3 rfl ?_
      refine r_icmp_ne (tgt := 70) dX4_pointsOf_25 (by decide) (fun c2 => ?_) (fun c2 => ?_)
      · skip
        refine r_iconst (v := 0) dX4_pointsOf_70 (by decide) ?_
        refine r_iadd dX4_pointsOf_71 ?_
        refine r_istore (lo' := [(4, .int (v + 0)), (5, .int (nI i)), (0, .ref (b 29)), (1, .int f), (2, .int p), (3, .int e)]) dX4_pointsOf_72 (by decide) rfl ?_
        refine r_iinc (v := nI (i + 1)) (lo' := [(5, .int (nI (i + 1))), (4, .int (v + 0)), (0, .ref (b 29)), (1, .int f), (2, .int p), (3, .int e)]) dX4_pointsOf_74 1 rfl (nI_1 i) (by decide) rfl ?_
        refine r_goto (tgt := 6) dX4_pointsOf_77 (by decide) ?_
        refine r_lo (lo' := [(5, .int (nI (i + 1))), (4, .int (v + 0)), (0, .ref (b 29)), (1, .int f), (2, .int p), (3, .int e)]) [0, 1, 2, 3, 4, 5] rfl ?_
        exact ih (i + 1) (v + 0) (by omega) (by omega) (by simp only [ptsR, ← e1]; simp [c1, c2])
      · skip
        refine r_aload_n dX4_pointsOf_28 2 rfl ?_
        refine m_geta hb hinX4_pointsOf 22 (by decide) rfl dX4_pointsOf_29 fwX4_pointsOf_62 rfl ?_
        refine r_iload dX4_pointsOf_32 0 rfl ?_
        refine m_ald (v := st 22 i) hb 22 i (by decide) dX4_pointsOf_34 rfl (by show _ < 80; omega) (by decide) rfl ?_
        refine r_iload_n dX4_pointsOf_35 4 rfl ?_
        refine r_icmp_ne (tgt := 70) dX4_pointsOf_36 (by decide) (fun c3 => ?_) (fun c3 => ?_)
        · skip
          refine r_iconst (v := 0) dX4_pointsOf_70 (by decide) ?_
          refine r_iadd dX4_pointsOf_71 ?_
          refine r_istore (lo' := [(4, .int (v + 0)), (5, .int (nI i)), (0, .ref (b 29)), (1, .int f), (2, .int p), (3, .int e)]) dX4_pointsOf_72 (by decide) rfl ?_
          refine r_iinc (v := nI (i + 1)) (lo' := [(5, .int (nI (i + 1))), (4, .int (v + 0)), (0, .ref (b 29)), (1, .int f), (2, .int p), (3, .int e)]) dX4_pointsOf_74 1 rfl (nI_1 i) (by decide) rfl ?_
          refine r_goto (tgt := 6) dX4_pointsOf_77 (by decide) ?_
          refine r_lo (lo' := [(5, .int (nI (i + 1))), (4, .int (v + 0)), (0, .ref (b 29)), (1, .int f), (2, .int p), (3, .int e)]) [0, 1, 2, 3, 4, 5] rfl ?_
          exact ih (i + 1) (v + 0) (by omega) (by omega) (by simp only [ptsR, ← e1]; simp [c1, c2, c3])
        · skip
          refine r_aload_n dX4_pointsOf_39 2 rfl ?_
          refine m_geta hb hinX4_pointsOf 25 (by decide) rfl dX4_pointsOf_40 fwX4_pointsOf_71 rfl ?_
          refine r_iload dX4_pointsOf_43 0 rfl ?_
          refine m_zald (v := st 25 i) hb 25 i (by decide) dX4_pointsOf_45 rfl (by show _ < 80; omega) (by decide) rfl ?_
          refine r_if_ne (tgt := 70) dX4_pointsOf_46 (by decide) (fun c4 => ?_) (fun c4 => ?_)
          · skip
            refine r_iconst (v := 0) dX4_pointsOf_70 (by decide) ?_
            refine r_iadd dX4_pointsOf_71 ?_
            refine r_istore (lo' := [(4, .int (v + 0)), (5, .int (nI i)), (0, .ref (b 29)), (1, .int f), (2, .int p), (3, .int e)]) dX4_pointsOf_72 (by decide) rfl ?_
            refine r_iinc (v := nI (i + 1)) (lo' := [(5, .int (nI (i + 1))), (4, .int (v + 0)), (0, .ref (b 29)), (1, .int f), (2, .int p), (3, .int e)]) dX4_pointsOf_74 1 rfl (nI_1 i) (by decide) rfl ?_
            refine r_goto (tgt := 6) dX4_pointsOf_77 (by decide) ?_
            refine r_lo (lo' := [(5, .int (nI (i + 1))), (4, .int (v + 0)), (0, .ref (b 29)), (1, .int f), (2, .int p), (3, .int e)]) [0, 1, 2, 3, 4, 5] rfl ?_
            exact ih (i + 1) (v + 0) (by omega) (by omega) (by simp only [ptsR, ← e1]; simp [c1, c2, c3, c4])
          · skip
            refine r_aload_n dX4_pointsOf_49 2 rfl ?_
            refine m_geta hb hinX4_pointsOf 24 (by decide) rfl dX4_pointsOf_50 fwX4_pointsOf_68 rfl ?_
            refine r_iload dX4_pointsOf_53 0 rfl ?_
            refine m_ald (v := st 24 i) hb 24 i (by decide) dX4_pointsOf_55 rfl (by show _ < 80; omega) (by decide) rfl ?_
            refine r_iload_n dX4_pointsOf_56 5 rfl ?_
            refine r_icmp_gt (tgt := 70) dX4_pointsOf_57 (by decide) (fun c5 => ?_) (fun c5 => ?_)
            · skip
              refine r_iconst (v := 0) dX4_pointsOf_70 (by decide) ?_
              refine r_iadd dX4_pointsOf_71 ?_
              refine r_istore (lo' := [(4, .int (v + 0)), (5, .int (nI i)), (0, .ref (b 29)), (1, .int f), (2, .int p), (3, .int e)]) dX4_pointsOf_72 (by decide) rfl ?_
              refine r_iinc (v := nI (i + 1)) (lo' := [(5, .int (nI (i + 1))), (4, .int (v + 0)), (0, .ref (b 29)), (1, .int f), (2, .int p), (3, .int e)]) dX4_pointsOf_74 1 rfl (nI_1 i) (by decide) rfl ?_
              refine r_goto (tgt := 6) dX4_pointsOf_77 (by decide) ?_
              refine r_lo (lo' := [(5, .int (nI (i + 1))), (4, .int (v + 0)), (0, .ref (b 29)), (1, .int f), (2, .int p), (3, .int e)]) [0, 1, 2, 3, 4, 5] rfl ?_
              exact ih (i + 1) (v + 0) (by omega) (by omega) (by simp only [ptsR, ← e1]; simp [c1, c2, c3, c4, c5])
            · skip
              refine r_aload_n dX4_pointsOf_60 2 rfl ?_
              refine m_geta hb hinX4_pointsOf 23 (by decide) rfl dX4_pointsOf_61 fwX4_pointsOf_65 rfl ?_
              refine r_iload dX4_pointsOf_64 0 rfl ?_
              refine m_ald (v := st 23 i) hb 23 i (by decide) dX4_pointsOf_66 rfl (by show _ < 80; omega) (by decide) rfl ?_
              refine r_goto (tgt := 71) dX4_pointsOf_67 (by decide) ?_
              refine r_iadd dX4_pointsOf_71 ?_
              refine r_istore (lo' := [(4, .int (v + (st 23 i))), (5, .int (nI i)), (0, .ref (b 29)), (1, .int f), (2, .int p), (3, .int e)]) dX4_pointsOf_72 (by decide) rfl ?_
              refine r_iinc (v := nI (i + 1)) (lo' := [(5, .int (nI (i + 1))), (4, .int (v + (st 23 i))), (0, .ref (b 29)), (1, .int f), (2, .int p), (3, .int e)]) dX4_pointsOf_74 1 rfl (nI_1 i) (by decide) rfl ?_
              refine r_goto (tgt := 6) dX4_pointsOf_77 (by decide) ?_
              refine r_lo (lo' := [(5, .int (nI (i + 1))), (4, .int (v + (st 23 i))), (0, .ref (b 29)), (1, .int f), (2, .int p), (3, .int e)]) [0, 1, 2, 3, 4, 5] rfl ?_
              exact ih (i + 1) (v + (st 23 i)) (by omega) (by omega) (by simp only [ptsR, ← e1]; simp [c1, c2, c3, c4, c5])

set_option maxHeartbeats 4000000 in
set_option maxRecDepth 100000 in
theorem tX4_pointsOf {E : kE} {b : Nat → Nat} (hb : binj b) (st : kM) (h0 : kH) (nF nC nE w : Nat) (hwf : mwf st nF nC nE w) (f p e : Int32) : kCi E yX4_pointsOf wsX4_pointsOf rmX4_pointsOf 0 0 [.ref (b 29), .int f, .int p, .int e] (ov E b st h0) (fun r h' => r = ptsR st f p e nE ∧ h' = ov E b st h0) := by
  obtain ⟨hF, hF20, hC, hC6, hE, hE80, hW, hW3, hpl, hof, hon, hsl⟩ := id hwf
  refine kCi_of (rt := .int) (own := RX4) (cc := cX4_pointsOf) (maxL := 6) (by decide) rfl rfl (Nat.le_of_ble_eq_true rfl) ?_
  intro X _ kret
  refine r_lo (lo' := [(0, .ref (b 29)), (1, .int f), (2, .int p), (3, .int e)]) [0, 1, 2, 3] rfl ?_
  refine r_iconst (v := 0) dX4_pointsOf_0 (by decide) ?_
  refine r_istore (lo' := [(4, .int 0), (0, .ref (b 29)), (1, .int f), (2, .int p), (3, .int e)]) dX4_pointsOf_1 (by decide) rfl ?_
  refine r_iconst (v := 0) dX4_pointsOf_3 (by decide) ?_
  refine r_istore (lo' := [(5, .int 0), (4, .int 0), (0, .ref (b 29)), (1, .int f), (2, .int p), (3, .int e)]) dX4_pointsOf_4 (by decide) rfl ?_
  refine r_lo (lo' := [(5, .int 0), (4, .int 0), (0, .ref (b 29)), (1, .int f), (2, .int p), (3, .int e)]) [0, 1, 2, 3, 4, 5] rfl ?_
  refine lX4_pointsOf_6 hb nF nC nE w hwf f p e (fun v e1 => ?_) (nE + 1) 0 _ (by omega) (Nat.zero_le _) rfl
  refine r_iload dX4_pointsOf_80 1 rfl ?_
  exact kret _ _ _ _ _ _ (Nat.le_refl _) (Nat.le_refl _) dX4_pointsOf_82 rfl (⟨e1, rfl⟩)

abbrev rmX4_countedFor : Room := { frames := 0, cells := 0, slots := 0, locals := 0 }
theorem hinX4_countedFor : ∀ w ∈ u_ws RX4 TX4 29, w ∈ wsX4_countedFor := by decide +kernel
theorem fwX4_countedFor_56 : Cond.fieldLink RX4 56 "CastdeskModel" "sponsorIn" "[I" ∈ wsX4_countedFor := by decide +kernel
theorem fwX4_countedFor_115 : Cond.fieldLink RX4 115 "CastdeskModel" "now" "I" ∈ wsX4_countedFor := by decide +kernel
set_option maxHeartbeats 4000000 in
set_option maxRecDepth 100000 in
theorem lX4_countedFor_4 {E : kE} {b : Nat → Nat} (hb : binj b) {st : kM} {h0 : kH} (nF nC nE w : Nat) (hwf : mwf st nF nC nE w) (x : Int32)  {X : kX} (hx : ∀ v : Int32, v = cntR (st 19) x w → V E X rmX4_countedFor cX4_countedFor 4 wsX4_countedFor RX4 0 0 (ov E b st h0) [(3, .int (nI w)), (2, .int v), (0, .ref (b 29)), (1, .int x)] 36 [])
    : ∀ (d i : Nat) (v : Int32), w < i + d → i ≤ w → v = cntR (st 19) x i → V E X rmX4_countedFor cX4_countedFor 4 wsX4_countedFor RX4 0 0 (ov E b st h0) [(3, .int (nI i)), (2, .int v), (0, .ref (b 29)), (1, .int x)] 4 [] := by
  obtain ⟨hF, hF20, hC, hC6, hE, hE80, hW, hW3, hpl, hof, hon, hsl⟩ := id hwf
  intro d
  induction d with
  | zero =>
    intro i v h1 h2
    exact absurd h1 (by omega)
  | succ d ih =>
    intro i v h1 h2 e1
    refine r_iload_n dX4_countedFor_4 0 rfl ?_
    refine r_aload_n dX4_countedFor_5 2 rfl ?_
    refine m_geti (v := st 1 0) hb hinX4_countedFor 1 (by decide) rfl dX4_countedFor_6 fwX4_countedFor_115 rfl rfl ?_
    refine rn_icmp_ge (a := i) (c := w) (tgt := 36) dX4_countedFor_9 (by decide) rfl hW (by omega) (by omega) (fun c1 => ?_) (fun c1 => ?_)
    · skip
      have hNi : w = i := by omega
      subst hNi
      exact hx v e1
    · skip
      refine r_iload_n dX4_countedFor_12 1 rfl ?_
      refine r_aload_n dX4_countedFor_13 2 rfl ?_
      refine m_geta hb hinX4_countedFor 19 (by decide) rfl dX4_countedFor_14 fwX4_countedFor_56 rfl ?_
      refine r_iload_n dX4_countedFor_17 0 rfl ?_
      refine m_ald (v := st 19 i) hb 19 i (by decide) dX4_countedFor_18 rfl (by show _ < 3000; omega) (by decide) rfl ?_
      refine r_iload_n dX4_countedFor_19 3 rfl ?_
      refine r_icmp_ne (tgt := 27) dX4_countedFor_20 (by decide) (fun c2 => ?_) (fun c2 => ?_)
      · skip
        refine r_iconst (v := 0) dX4_countedFor_27 (by decide) ?_
        refine r_iadd dX4_countedFor_28 ?_
        refine r_istore_n (lo' := [(2, .int (v + 0)), (3, .int (nI i)), (0, .ref (b 29)), (1, .int x)]) dX4_countedFor_29 (by decide) rfl ?_
        refine r_iinc (v := nI (i + 1)) (lo' := [(3, .int (nI (i + 1))), (2, .int (v + 0)), (0, .ref (b 29)), (1, .int x)]) dX4_countedFor_30 1 rfl (nI_1 i) (by decide) rfl ?_
        refine r_goto (tgt := 4) dX4_countedFor_33 (by decide) ?_
        refine r_lo (lo' := [(3, .int (nI (i + 1))), (2, .int (v + 0)), (0, .ref (b 29)), (1, .int x)]) [0, 1, 2, 3] rfl ?_
        exact ih (i + 1) (v + 0) (by omega) (by omega) (by simp only [cntR, ← e1]; simp [c1, c2])
      · skip
        refine r_iconst (v := 1) dX4_countedFor_23 (by decide) ?_
        refine r_goto (tgt := 28) dX4_countedFor_24 (by decide) ?_
        refine r_iadd dX4_countedFor_28 ?_
        refine r_istore_n (lo' := [(2, .int (v + 1)), (3, .int (nI i)), (0, .ref (b 29)), (1, .int x)]) dX4_countedFor_29 (by decide) rfl ?_
        refine r_iinc (v := nI (i + 1)) (lo' := [(3, .int (nI (i + 1))), (2, .int (v + 1)), (0, .ref (b 29)), (1, .int x)]) dX4_countedFor_30 1 rfl (nI_1 i) (by decide) rfl ?_
        refine r_goto (tgt := 4) dX4_countedFor_33 (by decide) ?_
        refine r_lo (lo' := [(3, .int (nI (i + 1))), (2, .int (v + 1)), (0, .ref (b 29)), (1, .int x)]) [0, 1, 2, 3] rfl ?_
        exact ih (i + 1) (v + 1) (by omega) (by omega) (by simp only [cntR, ← e1]; simp [c1, c2])

set_option maxHeartbeats 4000000 in
set_option maxRecDepth 100000 in
theorem tX4_countedFor {E : kE} {b : Nat → Nat} (hb : binj b) (st : kM) (h0 : kH) (nF nC nE w : Nat) (hwf : mwf st nF nC nE w) (x : Int32) : kCi E yX4_countedFor wsX4_countedFor rmX4_countedFor 0 0 [.ref (b 29), .int x] (ov E b st h0) (fun r h' => r = cntR (st 19) x w ∧ h' = ov E b st h0) := by
  obtain ⟨hF, hF20, hC, hC6, hE, hE80, hW, hW3, hpl, hof, hon, hsl⟩ := id hwf
  refine kCi_of (rt := .int) (own := RX4) (cc := cX4_countedFor) (maxL := 4) (by decide) rfl rfl (Nat.le_of_ble_eq_true rfl) ?_
  intro X _ kret
  refine r_lo (lo' := [(0, .ref (b 29)), (1, .int x)]) [0, 1] rfl ?_
  refine r_iconst (v := 0) dX4_countedFor_0 (by decide) ?_
  refine r_istore_n (lo' := [(2, .int 0), (0, .ref (b 29)), (1, .int x)]) dX4_countedFor_1 (by decide) rfl ?_
  refine r_iconst (v := 0) dX4_countedFor_2 (by decide) ?_
  refine r_istore_n (lo' := [(3, .int 0), (2, .int 0), (0, .ref (b 29)), (1, .int x)]) dX4_countedFor_3 (by decide) rfl ?_
  refine r_lo (lo' := [(3, .int 0), (2, .int 0), (0, .ref (b 29)), (1, .int x)]) [0, 1, 2, 3] rfl ?_
  refine lX4_countedFor_4 hb nF nC nE w hwf x (fun v e1 => ?_) (w + 1) 0 _ (by omega) (Nat.zero_le _) rfl
  refine r_iload_n dX4_countedFor_36 1 rfl ?_
  exact kret _ _ _ _ _ _ (Nat.le_refl _) (Nat.le_refl _) dX4_countedFor_37 rfl (⟨e1, rfl⟩)

abbrev rmX4_wins : Room := { frames := 0, cells := 0, slots := 0, locals := 0 }
theorem hinX4_wins : ∀ w ∈ u_ws RX4 TX4 29, w ∈ wsX4_wins := by decide +kernel
theorem fwX4_wins_20 : Cond.fieldLink RX4 20 "CastdeskModel" "state" "[I" ∈ wsX4_wins := by decide +kernel
theorem fwX4_wins_29 : Cond.fieldLink RX4 29 "CastdeskModel" "winner" "[I" ∈ wsX4_wins := by decide +kernel
theorem fwX4_wins_88 : Cond.fieldLink RX4 88 "CastdeskModel" "fights" "I" ∈ wsX4_wins := by decide +kernel
set_option maxHeartbeats 4000000 in
set_option maxRecDepth 100000 in
theorem lX4_wins_4 {E : kE} {b : Nat → Nat} (hb : binj b) {st : kM} {h0 : kH} (nF nC nE w : Nat) (hwf : mwf st nF nC nE w) (x : Int32)  {X : kX} (hx : ∀ v : Int32, v = winR st x nF → V E X rmX4_wins cX4_wins 4 wsX4_wins RX4 0 0 (ov E b st h0) [(3, .int (nI nF)), (2, .int v), (0, .ref (b 29)), (1, .int x)] 46 [])
    : ∀ (d i : Nat) (v : Int32), nF < i + d → i ≤ nF → v = winR st x i → V E X rmX4_wins cX4_wins 4 wsX4_wins RX4 0 0 (ov E b st h0) [(3, .int (nI i)), (2, .int v), (0, .ref (b 29)), (1, .int x)] 4 [] := by
  obtain ⟨hF, hF20, hC, hC6, hE, hE80, hW, hW3, hpl, hof, hon, hsl⟩ := id hwf
  intro d
  induction d with
  | zero =>
    intro i v h1 h2
    exact absurd h1 (by omega)
  | succ d ih =>
    intro i v h1 h2 e1
    refine r_iload_n dX4_wins_4 0 rfl ?_
    refine r_aload_n dX4_wins_5 2 rfl ?_
    refine m_geti (v := st 5 0) hb hinX4_wins 5 (by decide) rfl dX4_wins_6 fwX4_wins_88 rfl rfl ?_
    refine rn_icmp_ge (a := i) (c := nF) (tgt := 46) dX4_wins_9 (by decide) rfl hF (by omega) (by omega) (fun c1 => ?_) (fun c1 => ?_)
    · skip
      have hNi : nF = i := by omega
      subst hNi
      exact hx v e1
    · skip
      refine r_iload_n dX4_wins_12 1 rfl ?_
      refine r_aload_n dX4_wins_13 2 rfl ?_
      refine m_geta hb hinX4_wins 6 (by decide) rfl dX4_wins_14 fwX4_wins_20 rfl ?_
      refine r_iload_n dX4_wins_17 0 rfl ?_
      refine m_ald (v := st 6 i) hb 6 i (by decide) dX4_wins_18 rfl (by show _ < 20; omega) (by decide) rfl ?_
      refine r_iconst (v := 1) dX4_wins_19 (by decide) ?_
      refine r_icmp_ne (tgt := 37) dX4_wins_20 (by decide) (fun c2 => ?_) (fun c2 => ?_)
      · skip
        refine r_iconst (v := 0) dX4_wins_37 (by decide) ?_
        refine r_iadd dX4_wins_38 ?_
        refine r_istore_n (lo' := [(2, .int (v + 0)), (3, .int (nI i)), (0, .ref (b 29)), (1, .int x)]) dX4_wins_39 (by decide) rfl ?_
        refine r_iinc (v := nI (i + 1)) (lo' := [(3, .int (nI (i + 1))), (2, .int (v + 0)), (0, .ref (b 29)), (1, .int x)]) dX4_wins_40 1 rfl (nI_1 i) (by decide) rfl ?_
        refine r_goto (tgt := 4) dX4_wins_43 (by decide) ?_
        refine r_lo (lo' := [(3, .int (nI (i + 1))), (2, .int (v + 0)), (0, .ref (b 29)), (1, .int x)]) [0, 1, 2, 3] rfl ?_
        exact ih (i + 1) (v + 0) (by omega) (by omega) (by simp only [winR, ← e1]; simp [c1, c2])
      · skip
        refine r_aload_n dX4_wins_23 2 rfl ?_
        refine m_geta hb hinX4_wins 9 (by decide) rfl dX4_wins_24 fwX4_wins_29 rfl ?_
        refine r_iload_n dX4_wins_27 0 rfl ?_
        refine m_ald (v := st 9 i) hb 9 i (by decide) dX4_wins_28 rfl (by show _ < 20; omega) (by decide) rfl ?_
        refine r_iload_n dX4_wins_29 3 rfl ?_
        refine r_icmp_ne (tgt := 37) dX4_wins_30 (by decide) (fun c3 => ?_) (fun c3 => ?_)
        · skip
          refine r_iconst (v := 0) dX4_wins_37 (by decide) ?_
          refine r_iadd dX4_wins_38 ?_
          refine r_istore_n (lo' := [(2, .int (v + 0)), (3, .int (nI i)), (0, .ref (b 29)), (1, .int x)]) dX4_wins_39 (by decide) rfl ?_
          refine r_iinc (v := nI (i + 1)) (lo' := [(3, .int (nI (i + 1))), (2, .int (v + 0)), (0, .ref (b 29)), (1, .int x)]) dX4_wins_40 1 rfl (nI_1 i) (by decide) rfl ?_
          refine r_goto (tgt := 4) dX4_wins_43 (by decide) ?_
          refine r_lo (lo' := [(3, .int (nI (i + 1))), (2, .int (v + 0)), (0, .ref (b 29)), (1, .int x)]) [0, 1, 2, 3] rfl ?_
          exact ih (i + 1) (v + 0) (by omega) (by omega) (by simp only [winR, ← e1]; simp [c1, c2, c3])
        · skip
          refine r_iconst (v := 1) dX4_wins_33 (by decide) ?_
          refine r_goto (tgt := 38) dX4_wins_34 (by decide) ?_
          refine r_iadd dX4_wins_38 ?_
          refine r_istore_n (lo' := [(2, .int (v + 1)), (3, .int (nI i)), (0, .ref (b 29)), (1, .int x)]) dX4_wins_39 (by decide) rfl ?_
          refine r_iinc (v := nI (i + 1)) (lo' := [(3, .int (nI (i + 1))), (2, .int (v + 1)), (0, .ref (b 29)), (1, .int x)]) dX4_wins_40 1 rfl (nI_1 i) (by decide) rfl ?_
          refine r_goto (tgt := 4) dX4_wins_43 (by decide) ?_
          refine r_lo (lo' := [(3, .int (nI (i + 1))), (2, .int (v + 1)), (0, .ref (b 29)), (1, .int x)]) [0, 1, 2, 3] rfl ?_
          exact ih (i + 1) (v + 1) (by omega) (by omega) (by simp only [winR, ← e1]; simp [c1, c2, c3])

set_option maxHeartbeats 4000000 in
set_option maxRecDepth 100000 in
theorem tX4_wins {E : kE} {b : Nat → Nat} (hb : binj b) (st : kM) (h0 : kH) (nF nC nE w : Nat) (hwf : mwf st nF nC nE w) (x : Int32) : kCi E yX4_wins wsX4_wins rmX4_wins 0 0 [.ref (b 29), .int x] (ov E b st h0) (fun r h' => r = winR st x nF ∧ h' = ov E b st h0) := by
  obtain ⟨hF, hF20, hC, hC6, hE, hE80, hW, hW3, hpl, hof, hon, hsl⟩ := id hwf
  refine kCi_of (rt := .int) (own := RX4) (cc := cX4_wins) (maxL := 4) (by decide) rfl rfl (Nat.le_of_ble_eq_true rfl) ?_
  intro X _ kret
  refine r_lo (lo' := [(0, .ref (b 29)), (1, .int x)]) [0, 1] rfl ?_
  refine r_iconst (v := 0) dX4_wins_0 (by decide) ?_
  refine r_istore_n (lo' := [(2, .int 0), (0, .ref (b 29)), (1, .int x)]) dX4_wins_1 (by decide) rfl ?_
  refine r_iconst (v := 0) dX4_wins_2 (by decide) ?_
  refine r_istore_n (lo' := [(3, .int 0), (2, .int 0), (0, .ref (b 29)), (1, .int x)]) dX4_wins_3 (by decide) rfl ?_
  refine r_lo (lo' := [(3, .int 0), (2, .int 0), (0, .ref (b 29)), (1, .int x)]) [0, 1, 2, 3] rfl ?_
  refine lX4_wins_4 hb nF nC nE w hwf x (fun v e1 => ?_) (nF + 1) 0 _ (by omega) (Nat.zero_le _) rfl
  refine r_iload_n dX4_wins_46 1 rfl ?_
  exact kret _ _ _ _ _ _ (Nat.le_refl _) (Nat.le_refl _) dX4_wins_47 rfl (⟨e1, rfl⟩)

abbrev rmX4_begin : Room := { frames := 0, cells := 0, slots := 0, locals := 0 }
theorem hinX4_begin : ∀ w ∈ u_ws RX4 TX4 29, w ∈ wsX4_begin := by decide +kernel
theorem fwX4_begin_23 : Cond.fieldLink RX4 23 "CastdeskModel" "first" "[I" ∈ wsX4_begin := by decide +kernel
theorem fwX4_begin_26 : Cond.fieldLink RX4 26 "CastdeskModel" "second" "[I" ∈ wsX4_begin := by decide +kernel
theorem fwX4_begin_29 : Cond.fieldLink RX4 29 "CastdeskModel" "winner" "[I" ∈ wsX4_begin := by decide +kernel
theorem fwX4_begin_88 : Cond.fieldLink RX4 88 "CastdeskModel" "fights" "I" ∈ wsX4_begin := by decide +kernel
set_option maxHeartbeats 4000000 in
set_option maxRecDepth 100000 in
theorem tX4_begin {E : kE} {b : Nat → Nat} (hb : binj b) (st : kM) (h0 : kH) (nF nC nE w : Nat) (hwf : mwf st nF nC nE w) (h20 : nF < 20) (x y : Int32) : kCi E yX4_begin wsX4_begin rmX4_begin 0 0 [.ref (b 29), .int x, .int y] (ov E b st h0) (fun r h' => r = nI nF ∧ h' = ov E b (mbegin st nF x y) h0) := by
  obtain ⟨hF, hF20, hC, hC6, hE, hE80, hW, hW3, hpl, hof, hon, hsl⟩ := id hwf
  refine kCi_of (rt := .int) (own := RX4) (cc := cX4_begin) (maxL := 3) (by decide) rfl rfl (Nat.le_of_ble_eq_true rfl) ?_
  intro X _ kret
  refine r_lo (lo' := [(0, .ref (b 29)), (1, .int x), (2, .int y)]) [0, 1, 2] rfl ?_
  refine r_aload_n dX4_begin_0 0 rfl ?_
  refine m_geta hb hinX4_begin 7 (by decide) rfl dX4_begin_1 fwX4_begin_23 rfl ?_
  refine r_aload_n dX4_begin_4 0 rfl ?_
  refine m_geti (v := nI nF) hb hinX4_begin 5 (by decide) rfl dX4_begin_5 fwX4_begin_88 rfl hF ?_
  refine r_iload_n dX4_begin_8 1 rfl ?_
  refine m_ast hb 7 nF (by decide) dX4_begin_9 rfl (by show _ < 20; omega) (by decide) ?_
  refine r_aload_n dX4_begin_10 0 rfl ?_
  refine m_geta hb hinX4_begin 8 (by decide) rfl dX4_begin_11 fwX4_begin_26 rfl ?_
  refine r_aload_n dX4_begin_14 0 rfl ?_
  refine m_geti (v := nI nF) hb hinX4_begin 5 (by decide) rfl dX4_begin_15 fwX4_begin_88 rfl hF ?_
  refine r_iload_n dX4_begin_18 2 rfl ?_
  refine m_ast hb 8 nF (by decide) dX4_begin_19 rfl (by show _ < 20; omega) (by decide) ?_
  refine r_aload_n dX4_begin_20 0 rfl ?_
  refine m_geta hb hinX4_begin 9 (by decide) rfl dX4_begin_21 fwX4_begin_29 rfl ?_
  refine r_aload_n dX4_begin_24 0 rfl ?_
  refine m_geti (v := nI nF) hb hinX4_begin 5 (by decide) rfl dX4_begin_25 fwX4_begin_88 rfl hF ?_
  refine r_iconst (v := (-1)) dX4_begin_28 (by decide) ?_
  refine m_ast hb 9 nF (by decide) dX4_begin_29 rfl (by show _ < 20; omega) (by decide) ?_
  refine r_aload_n dX4_begin_30 0 rfl ?_
  refine r_dup dX4_begin_31 rfl ?_
  refine m_geti (v := nI nF) hb hinX4_begin 5 (by decide) rfl dX4_begin_32 fwX4_begin_88 rfl hF ?_
  refine r_iconst (v := 1) dX4_begin_35 (by decide) ?_
  refine r_iadd dX4_begin_36 ?_
  rw [show (nI nF) + 1 = nI (nF + 1) from nI_add nF 1]
  refine m_puti hb hinX4_begin 5 (by decide) rfl dX4_begin_37 fwX4_begin_88 rfl rfl rfl ?_
  refine r_aload_n dX4_begin_40 0 rfl ?_
  refine m_geti (v := nI (nF + 1)) hb hinX4_begin 5 (by decide) rfl dX4_begin_41 fwX4_begin_88 rfl rfl ?_
  refine r_iconst (v := 1) dX4_begin_44 (by decide) ?_
  refine r_isub dX4_begin_45 ?_
  rw [show (nI (nF + 1)) - 1 = nI nF from nI_pred nF]
  exact kret _ _ _ _ _ _ (Nat.le_refl _) (Nat.le_refl _) dX4_begin_46 rfl (⟨rfl, rfl⟩)

abbrev rmX4_fight : Room := { frames := 2, cells := 0, slots := 0, locals := 42 }
theorem hinX4_fight : ∀ w ∈ u_ws RX4 TX4 29, w ∈ wsX4_fight := by decide +kernel
theorem fwX4_fight_88 : Cond.fieldLink RX4 88 "CastdeskModel" "fights" "I" ∈ wsX4_fight := by decide +kernel
set_option maxHeartbeats 4000000 in
set_option maxRecDepth 100000 in
theorem tX4_fight {E : kE} {b : Nat → Nat} (hb : binj b) (st : kM) (h0 : kH) (nF nC nE w : Nat) (hwf : mwf st nF nC nE w) (x y : Int32) : kCi E yX4_fight wsX4_fight rmX4_fight 0 0 [.ref (b 29), .int x, .int y] (ov E b st h0) (fun r h' => r = (mfight st nF x y).1 ∧ h' = ov E b (mfight st nF x y).2 h0) := by
  obtain ⟨hF, hF20, hC, hC6, hE, hE80, hW, hW3, hpl, hof, hon, hsl⟩ := id hwf
  refine kCi_of (rt := .int) (own := RX4) (cc := cX4_fight) (maxL := 4) (by decide) rfl rfl (Nat.le_of_ble_eq_true rfl) ?_
  intro X _ kret
  refine r_lo (lo' := [(0, .ref (b 29)), (1, .int x), (2, .int y)]) [0, 1, 2] rfl ?_
  refine r_iload_n dX4_fight_0 1 rfl ?_
  refine r_callSi (nn := 1) (As := [.int x]) (st := []) dX4_fight_1 (tX4_isPlayer _ x) gX4_fight_X4_isPlayer rfl (by decide +kernel) ⟨Nat.le_of_ble_eq_true rfl, Nat.le_of_ble_eq_true rfl⟩ ⟨rfl, rfl⟩ rfl (Nat.le_of_ble_eq_true rfl) ⟨Nat.le_of_ble_eq_true rfl, Nat.le_of_ble_eq_true rfl⟩ rfl (fun r hh hp => ?_)
  obtain ⟨⟨q1, rfl⟩ | ⟨q1, rfl⟩, rfl⟩ := hp
  · skip
    refine r_if_eq (tgt := 18) dX4_fight_4 (by decide) (fun z => absurd z (by decide)) (fun _ => ?_)
    refine r_iload_n dX4_fight_7 2 rfl ?_
    refine r_callSi (nn := 1) (As := [.int y]) (st := []) dX4_fight_8 (tX4_isPlayer _ y) gX4_fight_X4_isPlayer rfl (by decide +kernel) ⟨Nat.le_of_ble_eq_true rfl, Nat.le_of_ble_eq_true rfl⟩ ⟨rfl, rfl⟩ rfl (Nat.le_of_ble_eq_true rfl) ⟨Nat.le_of_ble_eq_true rfl, Nat.le_of_ble_eq_true rfl⟩ rfl (fun r hh hp => ?_)
    obtain ⟨⟨q2, rfl⟩ | ⟨q2, rfl⟩, rfl⟩ := hp
    · skip
      refine r_if_eq (tgt := 18) dX4_fight_11 (by decide) (fun z => absurd z (by decide)) (fun _ => ?_)
      refine r_iconst (v := 1) dX4_fight_14 (by decide) ?_
      refine r_goto (tgt := 19) dX4_fight_15 (by decide) ?_
      refine r_istore_n (lo' := [(3, .int 1), (0, .ref (b 29)), (1, .int x), (2, .int y)]) dX4_fight_19 (by decide) rfl ?_
      refine r_aload_n dX4_fight_20 1 rfl ?_
      refine r_iload_n dX4_fight_21 0 rfl ?_
      refine r_if_ne (tgt := 29) dX4_fight_22 (by decide) (fun _ => ?_) (fun z => absurd z (by decide))
      refine r_iload_n dX4_fight_29 2 rfl ?_
      refine r_iload_n dX4_fight_30 3 rfl ?_
      refine r_icmp_ne (tgt := 38) dX4_fight_31 (by decide) (fun c3 => ?_) (fun c3 => ?_)
      · skip
        refine r_aload_n dX4_fight_38 1 rfl ?_
        refine r_iload_n dX4_fight_39 2 rfl ?_
        refine r_callVi (nn := 1) (As := [.int x]) (st := [.ref (b 29)]) dX4_fight_40 (tX4_isBusy hb st h0 nF nC nE w hwf x) gX4_fight_X4_isBusy rfl (by decide +kernel) ⟨Nat.le_of_ble_eq_true rfl, Nat.le_of_ble_eq_true rfl⟩ ⟨rfl, rfl⟩ (ov_obj hb _ _) rfl rfl (Nat.le_of_ble_eq_true rfl) ⟨Nat.le_of_ble_eq_true rfl, Nat.le_of_ble_eq_true rfl⟩ rfl (fun r hh hp => ?_)
        obtain ⟨rfl, rfl⟩ := hp
        refine r_if_ne (tgt := 63) dX4_fight_43 (by decide) (fun c4 => ?_) (fun c4 => ?_)
        · skip
          refine r_iconst (v := 3) dX4_fight_63 (by decide) ?_
          refine r_goto (tgt := 68) dX4_fight_64 (by decide) ?_
          refine r_callVi (nn := 1) (As := [.int 3]) (st := []) dX4_fight_68 (tX4_refused hb st h0 3) gX4_fight_X4_refused rfl (by decide +kernel) ⟨Nat.le_of_ble_eq_true rfl, Nat.le_of_ble_eq_true rfl⟩ ⟨rfl, rfl⟩ (ov_obj hb _ _) rfl rfl (Nat.le_of_ble_eq_true rfl) ⟨Nat.le_of_ble_eq_true rfl, Nat.le_of_ble_eq_true rfl⟩ rfl (fun r hh hp => ?_)
          obtain ⟨hr9, rfl⟩ := hp
          rw [show (if (3 : Int32) = 0 then (0 : Int32) else 1) = 1 from by decide] at hr9
          subst hr9
          refine r_if_eq (tgt := 76) dX4_fight_71 (by decide) (fun z => absurd z (by decide)) (fun _ => ?_)
          refine r_iconst (v := 0) dX4_fight_74 (by decide) ?_
          exact kret _ _ _ _ _ _ (Nat.le_refl _) (Nat.le_refl _) dX4_fight_75 rfl (⟨by simp [mfight, q1, q2, c3, c4], by simp [mfight, q1, q2, c3, c4]⟩)
        · skip
          refine r_aload_n dX4_fight_46 1 rfl ?_
          refine r_iload_n dX4_fight_47 3 rfl ?_
          refine r_callVi (nn := 1) (As := [.int y]) (st := [.ref (b 29)]) dX4_fight_48 (tX4_isBusy hb st h0 nF nC nE w hwf y) gX4_fight_X4_isBusy rfl (by decide +kernel) ⟨Nat.le_of_ble_eq_true rfl, Nat.le_of_ble_eq_true rfl⟩ ⟨rfl, rfl⟩ (ov_obj hb _ _) rfl rfl (Nat.le_of_ble_eq_true rfl) ⟨Nat.le_of_ble_eq_true rfl, Nat.le_of_ble_eq_true rfl⟩ rfl (fun r hh hp => ?_)
          obtain ⟨rfl, rfl⟩ := hp
          refine r_if_ne (tgt := 63) dX4_fight_51 (by decide) (fun c5 => ?_) (fun c5 => ?_)
          · skip
            refine r_iconst (v := 3) dX4_fight_63 (by decide) ?_
            refine r_goto (tgt := 68) dX4_fight_64 (by decide) ?_
            refine r_callVi (nn := 1) (As := [.int 3]) (st := []) dX4_fight_68 (tX4_refused hb st h0 3) gX4_fight_X4_refused rfl (by decide +kernel) ⟨Nat.le_of_ble_eq_true rfl, Nat.le_of_ble_eq_true rfl⟩ ⟨rfl, rfl⟩ (ov_obj hb _ _) rfl rfl (Nat.le_of_ble_eq_true rfl) ⟨Nat.le_of_ble_eq_true rfl, Nat.le_of_ble_eq_true rfl⟩ rfl (fun r hh hp => ?_)
            obtain ⟨hr9, rfl⟩ := hp
            rw [show (if (3 : Int32) = 0 then (0 : Int32) else 1) = 1 from by decide] at hr9
            subst hr9
            refine r_if_eq (tgt := 76) dX4_fight_71 (by decide) (fun z => absurd z (by decide)) (fun _ => ?_)
            refine r_iconst (v := 0) dX4_fight_74 (by decide) ?_
            exact kret _ _ _ _ _ _ (Nat.le_refl _) (Nat.le_refl _) dX4_fight_75 rfl (⟨by simp [mfight, q1, q2, c3, c4, c5], by simp [mfight, q1, q2, c3, c4, c5]⟩)
          · skip
            refine r_aload_n dX4_fight_54 1 rfl ?_
            refine m_geti (v := st 5 0) hb hinX4_fight 5 (by decide) rfl dX4_fight_55 fwX4_fight_88 rfl rfl ?_
            refine r_bipush (v := 20) dX4_fight_58 (by decide) ?_
            refine r_icmp_ne (tgt := 67) dX4_fight_60 (by decide) (fun c6 => ?_) (fun c6 => ?_)
            · skip
              refine r_iconst (v := 0) dX4_fight_67 (by decide) ?_
              refine r_callVi (nn := 1) (As := [.int 0]) (st := []) dX4_fight_68 (tX4_refused hb st h0 0) gX4_fight_X4_refused rfl (by decide +kernel) ⟨Nat.le_of_ble_eq_true rfl, Nat.le_of_ble_eq_true rfl⟩ ⟨rfl, rfl⟩ (ov_obj hb _ _) rfl rfl (Nat.le_of_ble_eq_true rfl) ⟨Nat.le_of_ble_eq_true rfl, Nat.le_of_ble_eq_true rfl⟩ rfl (fun r hh hp => ?_)
              obtain ⟨hr9, rfl⟩ := hp
              rw [show (if (0 : Int32) = 0 then (0 : Int32) else 1) = 0 from by decide] at hr9
              subst hr9
              refine r_if_eq (tgt := 76) dX4_fight_71 (by decide) (fun _ => ?_) (fun z => absurd z (by decide))
              refine r_aload_n dX4_fight_76 1 rfl ?_
              refine r_iload_n dX4_fight_77 2 rfl ?_
              refine r_iload_n dX4_fight_78 3 rfl ?_
              refine r_callVi (nn := 2) (As := [.int x, .int y]) (st := []) dX4_fight_79 (tX4_begin hb (ms st 0 0) h0 nF nC nE w hwf (n20 hF20 (by rw [← hF]; assumption)) x y) gX4_fight_X4_begin rfl (by decide +kernel) ⟨Nat.le_of_ble_eq_true rfl, Nat.le_of_ble_eq_true rfl⟩ ⟨rfl, rfl⟩ (ov_obj hb _ _) rfl rfl (Nat.le_of_ble_eq_true rfl) ⟨Nat.le_of_ble_eq_true rfl, Nat.le_of_ble_eq_true rfl⟩ rfl (fun r hh hp => ?_)
              obtain ⟨rfl, rfl⟩ := hp
              exact kret _ _ _ _ _ _ (Nat.le_refl _) (Nat.le_refl _) dX4_fight_82 rfl (⟨by simp [mfight, q1, q2, c3, c4, c5, c6], by simp [mfight, q1, q2, c3, c4, c5, c6]⟩)
            · skip
              refine r_iconst (v := 3) dX4_fight_63 (by decide) ?_
              refine r_goto (tgt := 68) dX4_fight_64 (by decide) ?_
              refine r_callVi (nn := 1) (As := [.int 3]) (st := []) dX4_fight_68 (tX4_refused hb st h0 3) gX4_fight_X4_refused rfl (by decide +kernel) ⟨Nat.le_of_ble_eq_true rfl, Nat.le_of_ble_eq_true rfl⟩ ⟨rfl, rfl⟩ (ov_obj hb _ _) rfl rfl (Nat.le_of_ble_eq_true rfl) ⟨Nat.le_of_ble_eq_true rfl, Nat.le_of_ble_eq_true rfl⟩ rfl (fun r hh hp => ?_)
              obtain ⟨hr9, rfl⟩ := hp
              rw [show (if (3 : Int32) = 0 then (0 : Int32) else 1) = 1 from by decide] at hr9
              subst hr9
              refine r_if_eq (tgt := 76) dX4_fight_71 (by decide) (fun z => absurd z (by decide)) (fun _ => ?_)
              refine r_iconst (v := 0) dX4_fight_74 (by decide) ?_
              exact kret _ _ _ _ _ _ (Nat.le_refl _) (Nat.le_refl _) dX4_fight_75 rfl (⟨by simp [mfight, q1, q2, c3, c4, c5, c6], by simp [mfight, q1, q2, c3, c4, c5, c6]⟩)
      · skip
        refine r_iconst (v := 2) dX4_fight_34 (by decide) ?_
        refine r_goto (tgt := 68) dX4_fight_35 (by decide) ?_
        refine r_callVi (nn := 1) (As := [.int 2]) (st := []) dX4_fight_68 (tX4_refused hb st h0 2) gX4_fight_X4_refused rfl (by decide +kernel) ⟨Nat.le_of_ble_eq_true rfl, Nat.le_of_ble_eq_true rfl⟩ ⟨rfl, rfl⟩ (ov_obj hb _ _) rfl rfl (Nat.le_of_ble_eq_true rfl) ⟨Nat.le_of_ble_eq_true rfl, Nat.le_of_ble_eq_true rfl⟩ rfl (fun r hh hp => ?_)
        obtain ⟨hr9, rfl⟩ := hp
        rw [show (if (2 : Int32) = 0 then (0 : Int32) else 1) = 1 from by decide] at hr9
        subst hr9
        refine r_if_eq (tgt := 76) dX4_fight_71 (by decide) (fun z => absurd z (by decide)) (fun _ => ?_)
        refine r_iconst (v := 0) dX4_fight_74 (by decide) ?_
        exact kret _ _ _ _ _ _ (Nat.le_refl _) (Nat.le_refl _) dX4_fight_75 rfl (⟨by simp [mfight, q1, q2, c3], by simp [mfight, q1, q2, c3]⟩)
    · skip
      refine r_if_eq (tgt := 18) dX4_fight_11 (by decide) (fun _ => ?_) (fun z => absurd z (by decide))
      refine r_iconst (v := 0) dX4_fight_18 (by decide) ?_
      refine r_istore_n (lo' := [(3, .int 0), (0, .ref (b 29)), (1, .int x), (2, .int y)]) dX4_fight_19 (by decide) rfl ?_
      refine r_aload_n dX4_fight_20 1 rfl ?_
      refine r_iload_n dX4_fight_21 0 rfl ?_
      refine r_if_ne (tgt := 29) dX4_fight_22 (by decide) (fun z => absurd z (by decide)) (fun _ => ?_)
      refine r_iconst (v := 1) dX4_fight_25 (by decide) ?_
      refine r_goto (tgt := 68) dX4_fight_26 (by decide) ?_
      refine r_callVi (nn := 1) (As := [.int 1]) (st := []) dX4_fight_68 (tX4_refused hb st h0 1) gX4_fight_X4_refused rfl (by decide +kernel) ⟨Nat.le_of_ble_eq_true rfl, Nat.le_of_ble_eq_true rfl⟩ ⟨rfl, rfl⟩ (ov_obj hb _ _) rfl rfl (Nat.le_of_ble_eq_true rfl) ⟨Nat.le_of_ble_eq_true rfl, Nat.le_of_ble_eq_true rfl⟩ rfl (fun r hh hp => ?_)
      obtain ⟨hr9, rfl⟩ := hp
      rw [show (if (1 : Int32) = 0 then (0 : Int32) else 1) = 1 from by decide] at hr9
      subst hr9
      refine r_if_eq (tgt := 76) dX4_fight_71 (by decide) (fun z => absurd z (by decide)) (fun _ => ?_)
      refine r_iconst (v := 0) dX4_fight_74 (by decide) ?_
      exact kret _ _ _ _ _ _ (Nat.le_refl _) (Nat.le_refl _) dX4_fight_75 rfl (⟨by simp [mfight, q1, q2], by simp [mfight, q1, q2]⟩)
  · skip
    refine r_if_eq (tgt := 18) dX4_fight_4 (by decide) (fun _ => ?_) (fun z => absurd z (by decide))
    refine r_iconst (v := 0) dX4_fight_18 (by decide) ?_
    refine r_istore_n (lo' := [(3, .int 0), (0, .ref (b 29)), (1, .int x), (2, .int y)]) dX4_fight_19 (by decide) rfl ?_
    refine r_aload_n dX4_fight_20 1 rfl ?_
    refine r_iload_n dX4_fight_21 0 rfl ?_
    refine r_if_ne (tgt := 29) dX4_fight_22 (by decide) (fun z => absurd z (by decide)) (fun _ => ?_)
    refine r_iconst (v := 1) dX4_fight_25 (by decide) ?_
    refine r_goto (tgt := 68) dX4_fight_26 (by decide) ?_
    refine r_callVi (nn := 1) (As := [.int 1]) (st := []) dX4_fight_68 (tX4_refused hb st h0 1) gX4_fight_X4_refused rfl (by decide +kernel) ⟨Nat.le_of_ble_eq_true rfl, Nat.le_of_ble_eq_true rfl⟩ ⟨rfl, rfl⟩ (ov_obj hb _ _) rfl rfl (Nat.le_of_ble_eq_true rfl) ⟨Nat.le_of_ble_eq_true rfl, Nat.le_of_ble_eq_true rfl⟩ rfl (fun r hh hp => ?_)
    obtain ⟨hr9, rfl⟩ := hp
    rw [show (if (1 : Int32) = 0 then (0 : Int32) else 1) = 1 from by decide] at hr9
    subst hr9
    refine r_if_eq (tgt := 76) dX4_fight_71 (by decide) (fun z => absurd z (by decide)) (fun _ => ?_)
    refine r_iconst (v := 0) dX4_fight_74 (by decide) ?_
    exact kret _ _ _ _ _ _ (Nat.le_refl _) (Nat.le_refl _) dX4_fight_75 rfl (⟨by simp [mfight, q1], by simp [mfight, q1]⟩)

abbrev rmX4_end : Room := { frames := 2, cells := 0, slots := 0, locals := 43 }
theorem hinX4_end : ∀ w ∈ u_ws RX4 TX4 29, w ∈ wsX4_end := by decide +kernel
theorem fwX4_end_20 : Cond.fieldLink RX4 20 "CastdeskModel" "state" "[I" ∈ wsX4_end := by decide +kernel
theorem fwX4_end_23 : Cond.fieldLink RX4 23 "CastdeskModel" "first" "[I" ∈ wsX4_end := by decide +kernel
theorem fwX4_end_26 : Cond.fieldLink RX4 26 "CastdeskModel" "second" "[I" ∈ wsX4_end := by decide +kernel
theorem fwX4_end_29 : Cond.fieldLink RX4 29 "CastdeskModel" "winner" "[I" ∈ wsX4_end := by decide +kernel
set_option maxHeartbeats 4000000 in
set_option maxRecDepth 100000 in
theorem tX4_end {E : kE} {b : Nat → Nat} (hb : binj b) (st : kM) (h0 : kH) (nF nC nE w : Nat) (hwf : mwf st nF nC nE w) (x : Int32) : kCi E yX4_end wsX4_end rmX4_end 0 0 [.ref (b 29), .int x] (ov E b st h0) (fun r h' => r = (mend st nE x).1 ∧ h' = ov E b (mend st nE x).2 h0) := by
  obtain ⟨hF, hF20, hC, hC6, hE, hE80, hW, hW3, hpl, hof, hon, hsl⟩ := id hwf
  refine kCi_of (rt := .int) (own := RX4) (cc := cX4_end) (maxL := 4) (by decide) rfl rfl (Nat.le_of_ble_eq_true rfl) ?_
  intro X _ kret
  refine r_lo (lo' := [(0, .ref (b 29)), (1, .int x)]) [0, 1] rfl ?_
  refine r_aload_n dX4_end_0 0 rfl ?_
  refine r_iload_n dX4_end_1 1 rfl ?_
  refine r_callVi (nn := 1) (As := [.int x]) (st := []) dX4_end_2 (tX4_isFight hb st h0 x) gX4_end_X4_isFight rfl (by decide +kernel) ⟨Nat.le_of_ble_eq_true rfl, Nat.le_of_ble_eq_true rfl⟩ ⟨rfl, rfl⟩ (ov_obj hb _ _) rfl rfl (Nat.le_of_ble_eq_true rfl) ⟨Nat.le_of_ble_eq_true rfl, Nat.le_of_ble_eq_true rfl⟩ rfl (fun r hh hp => ?_)
  obtain ⟨⟨q1, rfl⟩ | ⟨q1, rfl⟩, rfl⟩ := hp
  · skip
    obtain ⟨o, ho, rfl⟩ := inr_pred (m := nF) (by omega) (by rw [← hF]; exact q1)
    have eo : (nI o).toNatClampNeg = o := nI_clamp (by omega)
    refine r_istore_n (lo' := [(2, .int 1), (0, .ref (b 29)), (1, .int (nI o))]) dX4_end_5 (by decide) rfl ?_
    refine r_aload_n dX4_end_6 1 rfl ?_
    refine r_iload_n dX4_end_7 0 rfl ?_
    refine r_if_ne (tgt := 15) dX4_end_8 (by decide) (fun _ => ?_) (fun z => absurd z (by decide))
    refine r_aload_n dX4_end_15 1 rfl ?_
    refine m_geta hb hinX4_end 6 (by decide) rfl dX4_end_16 fwX4_end_20 rfl ?_
    refine r_iload_n dX4_end_19 2 rfl ?_
    refine m_ald (v := st 6 o) hb 6 o (by decide) dX4_end_20 rfl (by show _ < 20; omega) (by decide) rfl ?_
    refine r_if_eq (tgt := 28) dX4_end_21 (by decide) (fun c2 => ?_) (fun c2 => ?_)
    · skip
      refine r_iconst (v := 0) dX4_end_28 (by decide) ?_
      refine r_callVi (nn := 1) (As := [.int 0]) (st := []) dX4_end_29 (tX4_refused hb st h0 0) gX4_end_X4_refused rfl (by decide +kernel) ⟨Nat.le_of_ble_eq_true rfl, Nat.le_of_ble_eq_true rfl⟩ ⟨rfl, rfl⟩ (ov_obj hb _ _) rfl rfl (Nat.le_of_ble_eq_true rfl) ⟨Nat.le_of_ble_eq_true rfl, Nat.le_of_ble_eq_true rfl⟩ rfl (fun r hh hp => ?_)
      obtain ⟨hr9, rfl⟩ := hp
      rw [show (if (0 : Int32) = 0 then (0 : Int32) else 1) = 0 from by decide] at hr9
      subst hr9
      refine r_if_eq (tgt := 37) dX4_end_32 (by decide) (fun _ => ?_) (fun z => absurd z (by decide))
      refine r_aload_n dX4_end_37 1 rfl ?_
      refine m_geta hb hinX4_end 6 (by decide) rfl dX4_end_38 fwX4_end_20 rfl ?_
      refine r_iload_n dX4_end_41 2 rfl ?_
      refine r_iconst (v := 1) dX4_end_42 (by decide) ?_
      refine m_ast hb 6 o (by decide) dX4_end_43 rfl (by show _ < 20; omega) (by decide) ?_
      refine r_aload_n dX4_end_44 1 rfl ?_
      refine r_iload_n dX4_end_45 2 rfl ?_
      refine r_aload_n dX4_end_46 1 rfl ?_
      refine m_geta hb hinX4_end 7 (by decide) rfl dX4_end_47 fwX4_end_23 rfl ?_
      refine r_iload_n dX4_end_50 2 rfl ?_
      refine m_ald (v := st 7 o) hb 7 o (by decide) dX4_end_51 rfl (by show _ < 20; omega) (by decide) rfl ?_
      refine r_sipush (v := 3000) dX4_end_52 (by decide) ?_
      refine r_callVi (nn := 3) (As := [.int (nI o), .int (st 7 o), .int 3000]) (st := []) dX4_end_55 (tX4_pointsOf hb (ma (ms st 0 0) 6 o 1) h0 nF nC nE w hwf (nI o) (st 7 o) 3000) gX4_end_X4_pointsOf rfl (by decide +kernel) ⟨Nat.le_of_ble_eq_true rfl, Nat.le_of_ble_eq_true rfl⟩ ⟨rfl, rfl⟩ (ov_obj hb _ _) rfl rfl (Nat.le_of_ble_eq_true rfl) ⟨Nat.le_of_ble_eq_true rfl, Nat.le_of_ble_eq_true rfl⟩ rfl (fun r hh hp => ?_)
      obtain ⟨rfl, rfl⟩ := hp
      refine r_aload_n dX4_end_58 1 rfl ?_
      refine r_iload_n dX4_end_59 2 rfl ?_
      refine r_aload_n dX4_end_60 1 rfl ?_
      refine m_geta hb hinX4_end 8 (by decide) rfl dX4_end_61 fwX4_end_26 rfl ?_
      refine r_iload_n dX4_end_64 2 rfl ?_
      refine m_ald (v := st 8 o) hb 8 o (by decide) dX4_end_65 rfl (by show _ < 20; omega) (by decide) rfl ?_
      refine r_sipush (v := 3000) dX4_end_66 (by decide) ?_
      refine r_callVi (nn := 3) (As := [.int (nI o), .int (st 8 o), .int 3000]) (st := [.int (ptsR (ma (ms st 0 0) 6 o 1) (nI o) (st 7 o) 3000 nE)]) dX4_end_69 (tX4_pointsOf hb (ma (ms st 0 0) 6 o 1) h0 nF nC nE w hwf (nI o) (st 8 o) 3000) gX4_end_X4_pointsOf rfl (by decide +kernel) ⟨Nat.le_of_ble_eq_true rfl, Nat.le_of_ble_eq_true rfl⟩ ⟨rfl, rfl⟩ (ov_obj hb _ _) rfl rfl (Nat.le_of_ble_eq_true rfl) ⟨Nat.le_of_ble_eq_true rfl, Nat.le_of_ble_eq_true rfl⟩ rfl (fun r hh hp => ?_)
      obtain ⟨rfl, rfl⟩ := hp
      refine r_isub dX4_end_72 ?_
      refine r_istore_n (lo' := [(3, .int ((ptsR (ma (ms st 0 0) 6 o 1) (nI o) (st 7 o) 3000 nE) - (ptsR (ma (ms st 0 0) 6 o 1) (nI o) (st 8 o) 3000 nE))), (2, .int 1), (0, .ref (b 29)), (1, .int (nI o))]) dX4_end_73 (by decide) rfl ?_
      refine r_aload_n dX4_end_74 2 rfl ?_
      refine m_geta hb hinX4_end 9 (by decide) rfl dX4_end_75 fwX4_end_29 rfl ?_
      refine r_iload_n dX4_end_78 3 rfl ?_
      refine r_iload_n dX4_end_79 0 rfl ?_
      refine r_if_le (tgt := 92) dX4_end_80 (by decide) (fun c3 => ?_) (fun c3 => ?_)
      · skip
        refine r_iload_n dX4_end_92 0 rfl ?_
        refine r_if_ge (tgt := 105) dX4_end_93 (by decide) (fun c4 => ?_) (fun c4 => ?_)
        · skip
          refine r_iconst (v := (-1)) dX4_end_105 (by decide) ?_
          refine m_ast hb 9 o (by decide) dX4_end_106 rfl (by show _ < 20; omega) (by decide) ?_
          refine r_aload_n dX4_end_107 2 rfl ?_
          refine m_geta hb hinX4_end 9 (by decide) rfl dX4_end_108 fwX4_end_29 rfl ?_
          refine r_iload_n dX4_end_111 3 rfl ?_
          refine m_ald (v := (-1)) hb 9 o (by decide) dX4_end_112 rfl (by show _ < 20; omega) (by decide) (by simp [ma, ms, upd]) ?_
          exact kret _ _ _ _ _ _ (Nat.le_refl _) (Nat.le_refl _) dX4_end_113 rfl (⟨by simp [mend, q1, eo, c2, c3, c4], by simp [mend, q1, eo, c2, c3, c4]⟩)
        · skip
          refine r_aload_n dX4_end_96 2 rfl ?_
          refine m_geta hb hinX4_end 8 (by decide) rfl dX4_end_97 fwX4_end_26 rfl ?_
          refine r_iload_n dX4_end_100 3 rfl ?_
          refine m_ald (v := st 8 o) hb 8 o (by decide) dX4_end_101 rfl (by show _ < 20; omega) (by decide) rfl ?_
          refine r_goto (tgt := 106) dX4_end_102 (by decide) ?_
          refine m_ast hb 9 o (by decide) dX4_end_106 rfl (by show _ < 20; omega) (by decide) ?_
          refine r_aload_n dX4_end_107 2 rfl ?_
          refine m_geta hb hinX4_end 9 (by decide) rfl dX4_end_108 fwX4_end_29 rfl ?_
          refine r_iload_n dX4_end_111 3 rfl ?_
          refine m_ald (v := st 8 o) hb 9 o (by decide) dX4_end_112 rfl (by show _ < 20; omega) (by decide) (by simp [ma, ms, upd]) ?_
          exact kret _ _ _ _ _ _ (Nat.le_refl _) (Nat.le_refl _) dX4_end_113 rfl (⟨by simp [mend, q1, eo, c2, c3, c4], by simp [mend, q1, eo, c2, c3, c4]⟩)
      · skip
        refine r_aload_n dX4_end_83 2 rfl ?_
        refine m_geta hb hinX4_end 7 (by decide) rfl dX4_end_84 fwX4_end_23 rfl ?_
        refine r_iload_n dX4_end_87 3 rfl ?_
        refine m_ald (v := st 7 o) hb 7 o (by decide) dX4_end_88 rfl (by show _ < 20; omega) (by decide) rfl ?_
        refine r_goto (tgt := 106) dX4_end_89 (by decide) ?_
        refine m_ast hb 9 o (by decide) dX4_end_106 rfl (by show _ < 20; omega) (by decide) ?_
        refine r_aload_n dX4_end_107 2 rfl ?_
        refine m_geta hb hinX4_end 9 (by decide) rfl dX4_end_108 fwX4_end_29 rfl ?_
        refine r_iload_n dX4_end_111 3 rfl ?_
        refine m_ald (v := st 7 o) hb 9 o (by decide) dX4_end_112 rfl (by show _ < 20; omega) (by decide) (by simp [ma, ms, upd]) ?_
        exact kret _ _ _ _ _ _ (Nat.le_refl _) (Nat.le_refl _) dX4_end_113 rfl (⟨by simp [mend, q1, eo, c2, c3], by simp [mend, q1, eo, c2, c3]⟩)
    · skip
      refine r_iconst (v := 2) dX4_end_24 (by decide) ?_
      refine r_goto (tgt := 29) dX4_end_25 (by decide) ?_
      refine r_callVi (nn := 1) (As := [.int 2]) (st := []) dX4_end_29 (tX4_refused hb st h0 2) gX4_end_X4_refused rfl (by decide +kernel) ⟨Nat.le_of_ble_eq_true rfl, Nat.le_of_ble_eq_true rfl⟩ ⟨rfl, rfl⟩ (ov_obj hb _ _) rfl rfl (Nat.le_of_ble_eq_true rfl) ⟨Nat.le_of_ble_eq_true rfl, Nat.le_of_ble_eq_true rfl⟩ rfl (fun r hh hp => ?_)
      obtain ⟨hr9, rfl⟩ := hp
      rw [show (if (2 : Int32) = 0 then (0 : Int32) else 1) = 1 from by decide] at hr9
      subst hr9
      refine r_if_eq (tgt := 37) dX4_end_32 (by decide) (fun z => absurd z (by decide)) (fun _ => ?_)
      refine r_iconst (v := 0) dX4_end_35 (by decide) ?_
      exact kret _ _ _ _ _ _ (Nat.le_refl _) (Nat.le_refl _) dX4_end_36 rfl (⟨by simp [mend, q1, eo, c2], by simp [mend, q1, eo, c2]⟩)
  · skip
    refine r_istore_n (lo' := [(2, .int 0), (0, .ref (b 29)), (1, .int x)]) dX4_end_5 (by decide) rfl ?_
    refine r_aload_n dX4_end_6 1 rfl ?_
    refine r_iload_n dX4_end_7 0 rfl ?_
    refine r_if_ne (tgt := 15) dX4_end_8 (by decide) (fun z => absurd z (by decide)) (fun _ => ?_)
    refine r_iconst (v := 1) dX4_end_11 (by decide) ?_
    refine r_goto (tgt := 29) dX4_end_12 (by decide) ?_
    refine r_callVi (nn := 1) (As := [.int 1]) (st := []) dX4_end_29 (tX4_refused hb st h0 1) gX4_end_X4_refused rfl (by decide +kernel) ⟨Nat.le_of_ble_eq_true rfl, Nat.le_of_ble_eq_true rfl⟩ ⟨rfl, rfl⟩ (ov_obj hb _ _) rfl rfl (Nat.le_of_ble_eq_true rfl) ⟨Nat.le_of_ble_eq_true rfl, Nat.le_of_ble_eq_true rfl⟩ rfl (fun r hh hp => ?_)
    obtain ⟨hr9, rfl⟩ := hp
    rw [show (if (1 : Int32) = 0 then (0 : Int32) else 1) = 1 from by decide] at hr9
    subst hr9
    refine r_if_eq (tgt := 37) dX4_end_32 (by decide) (fun z => absurd z (by decide)) (fun _ => ?_)
    refine r_iconst (v := 0) dX4_end_35 (by decide) ?_
    exact kret _ _ _ _ _ _ (Nat.le_refl _) (Nat.le_refl _) dX4_end_36 rfl (⟨by simp [mend, q1], by simp [mend, q1]⟩)
end
