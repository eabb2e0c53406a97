section
-- ===== PART A: goes FIRST, ahead of the names: the tables' words, and 'selects' of the private methods out of them =====
/-- a private method of a class that the tables say can be made, by its rows of tables_1 -/
def lw_okq (q : MethodName × Nat) : Prop := (q.1.cls ≠ "java/lang/invoke/MethodHandle" ∧ q.1.cls ≠ "java/lang/invoke/VarHandle") ∧ Cond.instantiable q.1.cls q.2 ∈ tables_1 ∧ Cond.privateMethod q.1 ∈ tables_1 ∧ Cond.instanceMethod q.1 ∈ tables_1
theorem lw_p0 : lw_okq (⟨"DarkDesk$Stores", "isGotButNotSent", "(I)Z"⟩, 14) := ⟨⟨by decide +kernel, by decide +kernel⟩, List.mem_of_getElem? (i := 70) (by decide +kernel), List.mem_of_getElem? (i := 310) (by decide +kernel), List.mem_of_getElem? (i := 311) (by decide +kernel)⟩
theorem lw_p1 : lw_okq (⟨"java/lang/Throwable", "fillInStackTrace", "(I)Ljava/lang/Throwable;"⟩, 6) := ⟨⟨by decide +kernel, by decide +kernel⟩, List.mem_of_getElem? (i := 370) (by decide +kernel), List.mem_of_getElem? (i := 368) (by decide +kernel), List.mem_of_getElem? (i := 369) (by decide +kernel)⟩
theorem lw_p2 : lw_okq (⟨"DarkDesk", "endPlanAndNight", "()V"⟩, 4) := ⟨⟨by decide +kernel, by decide +kernel⟩, List.mem_of_getElem? (i := 19) (by decide +kernel), List.mem_of_getElem? (i := 416) (by decide +kernel), List.mem_of_getElem? (i := 417) (by decide +kernel)⟩
theorem lw_p3 : lw_okq (⟨"DarkDesk", "requireWork", "(I)V"⟩, 4) := ⟨⟨by decide +kernel, by decide +kernel⟩, List.mem_of_getElem? (i := 19) (by decide +kernel), List.mem_of_getElem? (i := 432) (by decide +kernel), List.mem_of_getElem? (i := 433) (by decide +kernel)⟩
theorem lw_p4 : lw_okq (⟨"DarkDesk", "requireStore", "(I)V"⟩, 4) := ⟨⟨by decide +kernel, by decide +kernel⟩, List.mem_of_getElem? (i := 19) (by decide +kernel), List.mem_of_getElem? (i := 496) (by decide +kernel), List.mem_of_getElem? (i := 497) (by decide +kernel)⟩
theorem lw_p5 : lw_okq (⟨"DarkDesk$Planner", "fitsHands", "()Z"⟩, 18) := ⟨⟨by decide +kernel, by decide +kernel⟩, List.mem_of_getElem? (i := 125) (by decide +kernel), List.mem_of_getElem? (i := 582) (by decide +kernel), List.mem_of_getElem? (i := 583) (by decide +kernel)⟩
theorem lw_p6 : lw_okq (⟨"DarkDesk$Planner", "sortByNeed", "(I)V"⟩, 18) := ⟨⟨by decide +kernel, by decide +kernel⟩, List.mem_of_getElem? (i := 125) (by decide +kernel), List.mem_of_getElem? (i := 587) (by decide +kernel), List.mem_of_getElem? (i := 588) (by decide +kernel)⟩
theorem lw_p7 : lw_okq (⟨"DarkDesk$Planner", "sortByWorth", "()V"⟩, 18) := ⟨⟨by decide +kernel, by decide +kernel⟩, List.mem_of_getElem? (i := 125) (by decide +kernel), List.mem_of_getElem? (i := 592) (by decide +kernel), List.mem_of_getElem? (i := 593) (by decide +kernel)⟩
theorem lw_p8 : lw_okq (⟨"DarkDesk$Planner", "isWorthMore", "(II)Z"⟩, 18) := ⟨⟨by decide +kernel, by decide +kernel⟩, List.mem_of_getElem? (i := 125) (by decide +kernel), List.mem_of_getElem? (i := 596) (by decide +kernel), List.mem_of_getElem? (i := 597) (by decide +kernel)⟩
theorem lw_p9 : lw_okq (⟨"DarkDesk$Planner", "explore", "(IIIIJ)V"⟩, 18) := ⟨⟨by decide +kernel, by decide +kernel⟩, List.mem_of_getElem? (i := 125) (by decide +kernel), List.mem_of_getElem? (i := 604) (by decide +kernel), List.mem_of_getElem? (i := 605) (by decide +kernel)⟩
theorem lw_p10 : lw_okq (⟨"DarkDesk$Planner", "hope", "(IIIIJ)V"⟩, 18) := ⟨⟨by decide +kernel, by decide +kernel⟩, List.mem_of_getElem? (i := 125) (by decide +kernel), List.mem_of_getElem? (i := 608) (by decide +kernel), List.mem_of_getElem? (i := 609) (by decide +kernel)⟩
theorem lw_p11 : lw_okq (⟨"DarkDesk$Planner", "earliest", "(III)I"⟩, 18) := ⟨⟨by decide +kernel, by decide +kernel⟩, List.mem_of_getElem? (i := 125) (by decide +kernel), List.mem_of_getElem? (i := 613) (by decide +kernel), List.mem_of_getElem? (i := 614) (by decide +kernel)⟩
theorem lw_p12 : lw_okq (⟨"DarkDesk$Planner", "awayBy", "(II)I"⟩, 18) := ⟨⟨by decide +kernel, by decide +kernel⟩, List.mem_of_getElem? (i := 125) (by decide +kernel), List.mem_of_getElem? (i := 617) (by decide +kernel), List.mem_of_getElem? (i := 618) (by decide +kernel)⟩
theorem lw_p13 : lw_okq (⟨"DarkDesk$Planner", "isOutdone", "(IIJ)Z"⟩, 18) := ⟨⟨by decide +kernel, by decide +kernel⟩, List.mem_of_getElem? (i := 125) (by decide +kernel), List.mem_of_getElem? (i := 635) (by decide +kernel), List.mem_of_getElem? (i := 636) (by decide +kernel)⟩
theorem lw_p14 : lw_okq (⟨"DarkDesk$Planner", "occupy", "(II)V"⟩, 18) := ⟨⟨by decide +kernel, by decide +kernel⟩, List.mem_of_getElem? (i := 125) (by decide +kernel), List.mem_of_getElem? (i := 639) (by decide +kernel), List.mem_of_getElem? (i := 640) (by decide +kernel)⟩
theorem lw_p15 : lw_okq (⟨"DarkDesk", "requireNight", "()V"⟩, 4) := ⟨⟨by decide +kernel, by decide +kernel⟩, List.mem_of_getElem? (i := 19) (by decide +kernel), List.mem_of_getElem? (i := 671) (by decide +kernel), List.mem_of_getElem? (i := 672) (by decide +kernel)⟩
def lw_privs_1 : List (MethodName × Nat) := [(⟨"DarkDesk$Stores", "isGotButNotSent", "(I)Z"⟩, 14), (⟨"java/lang/Throwable", "fillInStackTrace", "(I)Ljava/lang/Throwable;"⟩, 6), (⟨"DarkDesk", "endPlanAndNight", "()V"⟩, 4), (⟨"DarkDesk", "requireWork", "(I)V"⟩, 4), (⟨"DarkDesk", "requireStore", "(I)V"⟩, 4), (⟨"DarkDesk$Planner", "fitsHands", "()Z"⟩, 18), (⟨"DarkDesk$Planner", "sortByNeed", "(I)V"⟩, 18), (⟨"DarkDesk$Planner", "sortByWorth", "()V"⟩, 18), (⟨"DarkDesk$Planner", "isWorthMore", "(II)Z"⟩, 18), (⟨"DarkDesk$Planner", "explore", "(IIIIJ)V"⟩, 18), (⟨"DarkDesk$Planner", "hope", "(IIIIJ)V"⟩, 18), (⟨"DarkDesk$Planner", "earliest", "(III)I"⟩, 18), (⟨"DarkDesk$Planner", "awayBy", "(II)I"⟩, 18), (⟨"DarkDesk$Planner", "isOutdone", "(IIJ)Z"⟩, 18), (⟨"DarkDesk$Planner", "occupy", "(II)V"⟩, 18), (⟨"DarkDesk", "requireNight", "()V"⟩, 4)]
theorem lw_r1 : ∀ q ∈ lw_privs_1, lw_okq q := List.forall_mem_cons.mpr ⟨lw_p0, List.forall_mem_cons.mpr ⟨lw_p1, List.forall_mem_cons.mpr ⟨lw_p2, List.forall_mem_cons.mpr ⟨lw_p3, List.forall_mem_cons.mpr ⟨lw_p4, List.forall_mem_cons.mpr ⟨lw_p5, List.forall_mem_cons.mpr ⟨lw_p6, List.forall_mem_cons.mpr ⟨lw_p7, List.forall_mem_cons.mpr ⟨lw_p8, List.forall_mem_cons.mpr ⟨lw_p9, List.forall_mem_cons.mpr ⟨lw_p10, List.forall_mem_cons.mpr ⟨lw_p11, List.forall_mem_cons.mpr ⟨lw_p12, List.forall_mem_cons.mpr ⟨lw_p13, List.forall_mem_cons.mpr ⟨lw_p14, List.forall_mem_cons.mpr ⟨lw_p15, fun _ h => absurd h List.not_mem_nil⟩⟩⟩⟩⟩⟩⟩⟩⟩⟩⟩⟩⟩⟩⟩⟩
theorem lw_p16 : lw_okq (⟨"DarkDesk$Night", "passOne", "()V"⟩, 9) := ⟨⟨by decide +kernel, by decide +kernel⟩, List.mem_of_getElem? (i := 189) (by decide +kernel), List.mem_of_getElem? (i := 713) (by decide +kernel), List.mem_of_getElem? (i := 714) (by decide +kernel)⟩
theorem lw_p17 : lw_okq (⟨"DarkDesk$Night", "thoseThatStand", "(I)I"⟩, 9) := ⟨⟨by decide +kernel, by decide +kernel⟩, List.mem_of_getElem? (i := 189) (by decide +kernel), List.mem_of_getElem? (i := 739) (by decide +kernel), List.mem_of_getElem? (i := 740) (by decide +kernel)⟩
theorem lw_p18 : lw_okq (⟨"DarkDesk$Night", "stopThose", "(I)V"⟩, 9) := ⟨⟨by decide +kernel, by decide +kernel⟩, List.mem_of_getElem? (i := 189) (by decide +kernel), List.mem_of_getElem? (i := 743) (by decide +kernel), List.mem_of_getElem? (i := 744) (by decide +kernel)⟩
theorem lw_p19 : lw_okq (⟨"DarkDeskModel", "throwsIf", "(ZI)Z"⟩, 39) := ⟨⟨by decide +kernel, by decide +kernel⟩, List.mem_of_getElem? (i := 784) (by decide +kernel), List.mem_of_getElem? (i := 919) (by decide +kernel), List.mem_of_getElem? (i := 920) (by decide +kernel)⟩
theorem lw_p20 : lw_okq (⟨"DarkDeskModel", "ends", "()V"⟩, 39) := ⟨⟨by decide +kernel, by decide +kernel⟩, List.mem_of_getElem? (i := 784) (by decide +kernel), List.mem_of_getElem? (i := 923) (by decide +kernel), List.mem_of_getElem? (i := 924) (by decide +kernel)⟩
theorem lw_p21 : lw_okq (⟨"DarkDeskModel", "noWork", "(I)Z"⟩, 39) := ⟨⟨by decide +kernel, by decide +kernel⟩, List.mem_of_getElem? (i := 784) (by decide +kernel), List.mem_of_getElem? (i := 931) (by decide +kernel), List.mem_of_getElem? (i := 932) (by decide +kernel)⟩
theorem lw_p22 : lw_okq (⟨"DarkDeskModel", "measures", "(I)V"⟩, 39) := ⟨⟨by decide +kernel, by decide +kernel⟩, List.mem_of_getElem? (i := 784) (by decide +kernel), List.mem_of_getElem? (i := 939) (by decide +kernel), List.mem_of_getElem? (i := 940) (by decide +kernel)⟩
theorem lw_p23 : lw_okq (⟨"DarkDeskModel", "counts", "(II)Z"⟩, 39) := ⟨⟨by decide +kernel, by decide +kernel⟩, List.mem_of_getElem? (i := 784) (by decide +kernel), List.mem_of_getElem? (i := 944) (by decide +kernel), List.mem_of_getElem? (i := 945) (by decide +kernel)⟩
theorem lw_p24 : lw_okq (⟨"DarkDeskModel", "canBeThin", "(I)Z"⟩, 39) := ⟨⟨by decide +kernel, by decide +kernel⟩, List.mem_of_getElem? (i := 784) (by decide +kernel), List.mem_of_getElem? (i := 948) (by decide +kernel), List.mem_of_getElem? (i := 949) (by decide +kernel)⟩
theorem lw_p25 : lw_okq (⟨"DarkDeskModel", "ringsOf", "(I)I"⟩, 39) := ⟨⟨by decide +kernel, by decide +kernel⟩, List.mem_of_getElem? (i := 784) (by decide +kernel), List.mem_of_getElem? (i := 960) (by decide +kernel), List.mem_of_getElem? (i := 961) (by decide +kernel)⟩
theorem lw_p26 : lw_okq (⟨"DarkDeskModel", "noStore", "(I)Z"⟩, 39) := ⟨⟨by decide +kernel, by decide +kernel⟩, List.mem_of_getElem? (i := 784) (by decide +kernel), List.mem_of_getElem? (i := 976) (by decide +kernel), List.mem_of_getElem? (i := 977) (by decide +kernel)⟩
theorem lw_p27 : lw_okq (⟨"DarkDeskModel", "chooses", "()Z"⟩, 39) := ⟨⟨by decide +kernel, by decide +kernel⟩, List.mem_of_getElem? (i := 784) (by decide +kernel), List.mem_of_getElem? (i := 1000) (by decide +kernel), List.mem_of_getElem? (i := 1001) (by decide +kernel)⟩
theorem lw_p28 : lw_okq (⟨"DarkDeskModel", "upTo", "(II)I"⟩, 39) := ⟨⟨by decide +kernel, by decide +kernel⟩, List.mem_of_getElem? (i := 784) (by decide +kernel), List.mem_of_getElem? (i := 1004) (by decide +kernel), List.mem_of_getElem? (i := 1005) (by decide +kernel)⟩
theorem lw_p29 : lw_okq (⟨"DarkDeskModel", "seeks", "(II)V"⟩, 39) := ⟨⟨by decide +kernel, by decide +kernel⟩, List.mem_of_getElem? (i := 784) (by decide +kernel), List.mem_of_getElem? (i := 1022) (by decide +kernel), List.mem_of_getElem? (i := 1023) (by decide +kernel)⟩
theorem lw_p30 : lw_okq (⟨"DarkDeskModel", "isBetter", "(I)Z"⟩, 39) := ⟨⟨by decide +kernel, by decide +kernel⟩, List.mem_of_getElem? (i := 784) (by decide +kernel), List.mem_of_getElem? (i := 1026) (by decide +kernel), List.mem_of_getElem? (i := 1027) (by decide +kernel)⟩
theorem lw_p31 : lw_okq (⟨"DarkDeskModel", "isReady", "(II)Z"⟩, 39) := ⟨⟨by decide +kernel, by decide +kernel⟩, List.mem_of_getElem? (i := 784) (by decide +kernel), List.mem_of_getElem? (i := 1030) (by decide +kernel), List.mem_of_getElem? (i := 1031) (by decide +kernel)⟩
def lw_privs_2 : List (MethodName × Nat) := [(⟨"DarkDesk$Night", "passOne", "()V"⟩, 9), (⟨"DarkDesk$Night", "thoseThatStand", "(I)I"⟩, 9), (⟨"DarkDesk$Night", "stopThose", "(I)V"⟩, 9), (⟨"DarkDeskModel", "throwsIf", "(ZI)Z"⟩, 39), (⟨"DarkDeskModel", "ends", "()V"⟩, 39), (⟨"DarkDeskModel", "noWork", "(I)Z"⟩, 39), (⟨"DarkDeskModel", "measures", "(I)V"⟩, 39), (⟨"DarkDeskModel", "counts", "(II)Z"⟩, 39), (⟨"DarkDeskModel", "canBeThin", "(I)Z"⟩, 39), (⟨"DarkDeskModel", "ringsOf", "(I)I"⟩, 39), (⟨"DarkDeskModel", "noStore", "(I)Z"⟩, 39), (⟨"DarkDeskModel", "chooses", "()Z"⟩, 39), (⟨"DarkDeskModel", "upTo", "(II)I"⟩, 39), (⟨"DarkDeskModel", "seeks", "(II)V"⟩, 39), (⟨"DarkDeskModel", "isBetter", "(I)Z"⟩, 39), (⟨"DarkDeskModel", "isReady", "(II)Z"⟩, 39)]
theorem lw_r2 : ∀ q ∈ lw_privs_2, lw_okq q := List.forall_mem_cons.mpr ⟨lw_p16, List.forall_mem_cons.mpr ⟨lw_p17, List.forall_mem_cons.mpr ⟨lw_p18, List.forall_mem_cons.mpr ⟨lw_p19, List.forall_mem_cons.mpr ⟨lw_p20, List.forall_mem_cons.mpr ⟨lw_p21, List.forall_mem_cons.mpr ⟨lw_p22, List.forall_mem_cons.mpr ⟨lw_p23, List.forall_mem_cons.mpr ⟨lw_p24, List.forall_mem_cons.mpr ⟨lw_p25, List.forall_mem_cons.mpr ⟨lw_p26, List.forall_mem_cons.mpr ⟨lw_p27, List.forall_mem_cons.mpr ⟨lw_p28, List.forall_mem_cons.mpr ⟨lw_p29, List.forall_mem_cons.mpr ⟨lw_p30, List.forall_mem_cons.mpr ⟨lw_p31, fun _ h => absurd h List.not_mem_nil⟩⟩⟩⟩⟩⟩⟩⟩⟩⟩⟩⟩⟩⟩⟩⟩
theorem lw_p32 : lw_okq (⟨"DarkDeskModel", "earliest", "(I)I"⟩, 39) := ⟨⟨by decide +kernel, by decide +kernel⟩, List.mem_of_getElem? (i := 784) (by decide +kernel), List.mem_of_getElem? (i := 1034) (by decide +kernel), List.mem_of_getElem? (i := 1035) (by decide +kernel)⟩
theorem lw_p33 : lw_okq (⟨"DarkDeskModel", "firstFree", "(II)I"⟩, 39) := ⟨⟨by decide +kernel, by decide +kernel⟩, List.mem_of_getElem? (i := 784) (by decide +kernel), List.mem_of_getElem? (i := 1038) (by decide +kernel), List.mem_of_getElem? (i := 1039) (by decide +kernel)⟩
theorem lw_p34 : lw_okq (⟨"DarkDeskModel", "free", "()I"⟩, 39) := ⟨⟨by decide +kernel, by decide +kernel⟩, List.mem_of_getElem? (i := 784) (by decide +kernel), List.mem_of_getElem? (i := 1054) (by decide +kernel), List.mem_of_getElem? (i := 1055) (by decide +kernel)⟩
theorem lw_p35 : lw_okq (⟨"DarkDeskModel", "stands", "(IZI)Z"⟩, 39) := ⟨⟨by decide +kernel, by decide +kernel⟩, List.mem_of_getElem? (i := 784) (by decide +kernel), List.mem_of_getElem? (i := 1058) (by decide +kernel), List.mem_of_getElem? (i := 1059) (by decide +kernel)⟩
theorem lw_p36 : lw_okq (⟨"DarkDeskModel", "falls", "(I)V"⟩, 39) := ⟨⟨by decide +kernel, by decide +kernel⟩, List.mem_of_getElem? (i := 784) (by decide +kernel), List.mem_of_getElem? (i := 1074) (by decide +kernel), List.mem_of_getElem? (i := 1075) (by decide +kernel)⟩
def lw_privs_3 : List (MethodName × Nat) := [(⟨"DarkDeskModel", "earliest", "(I)I"⟩, 39), (⟨"DarkDeskModel", "firstFree", "(II)I"⟩, 39), (⟨"DarkDeskModel", "free", "()I"⟩, 39), (⟨"DarkDeskModel", "stands", "(IZI)Z"⟩, 39), (⟨"DarkDeskModel", "falls", "(I)V"⟩, 39)]
theorem lw_r3 : ∀ q ∈ lw_privs_3, lw_okq q := List.forall_mem_cons.mpr ⟨lw_p32, List.forall_mem_cons.mpr ⟨lw_p33, List.forall_mem_cons.mpr ⟨lw_p34, List.forall_mem_cons.mpr ⟨lw_p35, List.forall_mem_cons.mpr ⟨lw_p36, fun _ h => absurd h List.not_mem_nil⟩⟩⟩⟩⟩
def lw_privs : List (MethodName × Nat) := lw_privs_1 ++ (lw_privs_2 ++ (lw_privs_3))
def lw_tbl : List Cond := k2_sels lw_privs ++ tables_1
theorem lw_privs_ok : ∀ q ∈ lw_privs, lw_okq q := by
  show ∀ q ∈ lw_privs_1 ++ (lw_privs_2 ++ (lw_privs_3)), lw_okq q
  exact List.forall_mem_append.mpr ⟨lw_r1, List.forall_mem_append.mpr ⟨lw_r2, lw_r3⟩⟩
/-! ===== BEGIN words of one list among another's, by their places ===== -/
theorem goodIn_r {big : List Cond} (ws : List Cond) (ps : List Nat) (hp : ws = ps.filterMap (fun i => big[i]?)) (h : ws.all goodWord = true) : GoodIn big ws := by
  intro w hw
  have h1 := List.all_eq_true.mp h w hw
  rw [hp] at hw
  obtain ⟨i, -, hi⟩ := List.mem_filterMap.mp hw
  have hm : w ∈ big := by first | exact List.mem_of_getElem? hi | exact List.getElem?_mem hi
  exact ⟨hm, good_of_word h1⟩
theorem goodIn_app {big a b : List Cond} (ha : GoodIn big a) (hb : GoodIn big b) : GoodIn big (a ++ b) := fun w h => (List.mem_append.mp h).elim (ha w) (hb w)
theorem goodIn_ca {big a b : List Cond} {c : Cond} (ha : GoodIn big (c :: a)) (hb : GoodIn big b) : GoodIn big (c :: (a ++ b)) := fun w h => (List.mem_cons.mp h).elim (fun e => ha w (List.mem_cons.mpr (Or.inl e))) (fun h => (List.mem_append.mp h).elim (fun h => ha w (List.mem_cons.mpr (Or.inr h))) (hb w))
theorem goodIn_sub {big ws : List Cond} (hm : ∀ w ∈ ws, w ∈ big) (h : ws.all goodWord = true) : GoodIn big ws := fun w hw => ⟨hm w hw, good_of_word (List.all_eq_true.mp h w hw)⟩
/-! ===== END ===== -/

/-! ===== BEGIN exceptions that leave a method, and their catching by the caller (launches without stack traces) ===== -/
section VXA
/-! The laws vx_back, vx_callV, vx_callS, vx_callSW, vx_throw0, vx_throwS follow proofs of the library, with one case more: JvmDerived/Free/Laws.lean (Back.of_free), Shelf42/LK1.lean (callV, callS), Shelf/KitTraced.lean (throwNew0V, throwNewS). -/
/-- where a method has thrown q: the class by its name, the cell, what was written, the world -/
def vx_T (XC : String → State → State → Prop) (st : State) (q : Addr) (t : State) (mc ms : Nat) (free : Addr → Prop) : Prop :=
  ∃ (E : String) (ce : Cell) (L : List Loc), XC E st t ∧ t.heap[q]? = some ce ∧ ce.vm = .none ∧ st.vm.findClass E = some ce.cls ∧ st.WarmedH t.vm ∧ st.sameButNew ({ t with vm := st.vm } : State) L mc ms ∧ ∀ z ∈ L, free z.base
def vx_Q (Qc : Array Value → State → Outcome → State → Prop) (XC : String → State → State → Prop) (mc ms : Nat) (free : Addr → Prop) : Array Value → State → Outcome → State → Prop := fun a st o t =>
  (Qc a st o t ∧ ∃ L, FrameEnd st o t L mc ms ∧ ∀ q ∈ L, free q.base) ∨ ∃ q, o = .threw q ∧ vx_T XC st q t mc ms free
/-- a callee that returns or throws -/
def vx_Met (l : Launch) (y : MethodName) (ws : List Cond) (rm : Room) (Pc : Array Value → State → Prop) (Qc : Array Value → State → Outcome → State → Prop) (XC : String → State → State → Prop) (mc ms : Nat) (free : Addr → Prop) : Prop :=
  MetFree l y (headSpec ws rm) Pc (fun _ _ _ _ _ => True) (vx_Q Qc XC mc ms free)
def vx_Post (XC : String → State → State → Prop) (mc ms : Nat) (free : Addr → Prop) : Pt → Array Value → Addr → Pt → Prop := fun A a q B =>
  ∃ (g : JFrame) (mk : MethodId) (t : State) (L : List Loc) (E : String) (ce : Cell), B.U.heap = t.heap ∧ B.U.vm = t.vm ∧ XC E (A.U.calling g mk a) t ∧ t.heap[q]? = some ce ∧ ce.vm = .none ∧ A.U.vm.findClass E = some ce.cls ∧ B.locs = A.locs ++ L ∧ (∀ z ∈ L, free z.base) ∧ B.cells = A.cells + mc ∧ B.slots = A.slots + ms
def vx_Back (l : Launch) (R : Room) (p : Program) (e : Env) (below : List Frame) (s : State) (sargs : Array Value) (y : MethodName) (len W9 : Nat)
    (Pre : Pt → Array Value → Prop) (Post : Pt → Array Value → Option Value → Pt → Prop) (PostX : Pt → Array Value → Addr → Pt → Prop) : Prop :=
  ∀ (m : MethodId) (meth : Method) (c : Code) (A : Pt) (g : JFrame) (ig : Instr) (mk : MethodId) (a : Array Value),
    Stand p l e R s m sargs below meth c A.U A.locs A.cells A.slots → g.method = m → g.locals.size = c.maxLocals → decode c.code g.pc = .ok (ig, len) →
    2 * g.monitorRoom + (g.stack.map fun v => v.category).sum ≤ W9 → A.U.methodNamed? y = some mk → Pre A a →
    (∃ (v : Option Value) (B : Pt), Stand p l e R s m sargs below meth c B.U B.locs B.cells B.slots ∧ Post A a v B ∧
      Steps p.tables e below (doInvoke e (A.U.setTop g) [] mk a).1 (B.U.setTop { g with pc := g.pc + len, stack := v.toList ++ g.stack })) ∨
    (∃ (q : Addr) (B : Pt), Stand p l e R s m sargs below meth c B.U B.locs B.cells B.slots ∧ PostX A a q B ∧
      Steps p.tables e below (doInvoke e (A.U.setTop g) [] mk a).1 ((B.U.setTop g).pushFrame (.throwing q)))
section Payer
variable {l : Launch} {R : Room} {p : Program} {e : Env} {below : List Frame} {s : State} {sargs : Array Value} {y : MethodName} {len W9 : Nat}
theorem vx_back {ws : List Cond} {rm : Room} {Pc : Array Value → State → Prop} {Qc : Array Value → State → Outcome → State → Prop} {XC : String → State → State → Prop} {mc ms : Nat} {free : Addr → Prop} {bytes : ByteArray} {maxL : Nat} {ret : Option FieldType}
    (hM : vx_Met l y ws rm Pc Qc XC mc ms free) (hblind : FrameBlind Pc) (hrc : rm.cells = mc) (hrs : rm.slots = ms)
    (hframes : rm.frames + 1 ≤ R.frames) (hlocals : W9 + (maxL + 11) + rm.locals ≤ R.locals)
    (hws : ∀ w ∈ ws, ∀ a' U, s.WarmedH U.vm → w.before a' U = true) (hcode : Cond.code y bytes maxL ret ∈ ws) (hinit : ∀ a' U, s.WarmedH U.vm → (Cond.initialized y.cls).before a' U = true) :
    vx_Back l R p e below s sargs y len W9 (PreOf R mc ms Pc) (PostOf Qc mc ms free) (vx_Post XC mc ms free) := by
  intro m meth c A g ig mk a X hg hsize hdg hW hn hp
  have h1 : (headSpec ws rm).pre.before a A.U = true := atoms_intro fun w hw => hws w hw _ _ X.warmed
  have h2 : (Cond.code y bytes maxL ret).before a A.U = true := hws _ hcode _ _ X.warmed
  have h3 : (Cond.initialized y.cls).before a A.U = true := hinit _ _ X.warmed
  have h4 : A.cells + (headSpec ws rm).room.cells ≤ R.cells := by rw [show (headSpec ws rm).room.cells = mc from hrc]; exact hp.1
  have h5 : A.slots + (headSpec ws rm).room.slots ≤ R.slots := by rw [show (headSpec ws rm).room.slots = ms from hrs]; exact hp.2.1
  have hPc : Pc a (A.U.calling g mk a) := hblind _ _ _ _ hp.2.2
  obtain ⟨U, Ls, c0, s0⟩ := A
  dsimp only [Pt.U, Pt.locs, Pt.cells, Pt.slots] at h1 h2 h3 h4 h5 X hn hPc ⊢
  obtain ⟨methY, cY, hmY, hcY, -, hlY, -, -, -, -⟩ := Cond.code_spec hn h2
  obtain ⟨kY, hkY, -⟩ := className_of_methodNamed hn
  have hinitY : kY.init = .initialized := Cond.initialized_spec (findClass_of_methodNamed hn) hkY h3
  have h : At U g.method c below := by rw [hg]; exact X.here
  have hlocals9 : W9 + (maxL + 11) + (headSpec ws rm).room.locals ≤ R.locals := hlocals
  have happ : (headSpec ws rm).appliesLoose y e.platform (U.calling g mk a) = true :=
    Spec.appliesLoose_calling (g := g) h hdg hn hkY hinitY
      (X.room_calling (g := g) (R' := (headSpec ws rm).room) hsize hmY hcY hframes (by rw [hlY]; omega) h4 h5) h1
  obtain ⟨mid, hmid⟩ := h.above
  have hfr : (U.setTop g).frames = (.java g :: mid) ++ below := by rw [State.frames_setTop' g h.top, hmid]; rfl
  obtain ⟨o, s₂, hsteps, -, hend, hq⟩ := Steps.callFree hM p X.admits X.cas X.clock (acts := []) hfr happ hPc trivial
  have hq' : vx_Q Qc XC mc ms free a (U.calling g mk a) o s₂ := hq
  rw [State.frames_setTop' g h.top] at hend
  obtain ⟨g₀, hg0⟩ := Option.isSome_iff_exists.mp h.top
  obtain ⟨r, hr⟩ := State.topJava?_eq_some.mp hg0
  have hr' : (({ U with heap := s₂.heap, slotsUsed := s₂.slotsUsed } : State).setVm s₂.vm).frames = .java g₀ :: r := hr
  rcases hq' with ⟨hqc, L, hfe, hL⟩ | ⟨q, rfl, E, ce, L, hx, hce, hcv, hcl, hW₂, hsm, hL⟩
  · obtain ⟨⟨v, rfl⟩, hW₂, e2, q2, q3, q4, q5, q6⟩ := id hfe
    have e3 : s₂ = ({ (U.calling g mk a).setFrames s₂.frames with heap := s₂.heap, slotsUsed := s₂.slotsUsed } : State).setVm s₂.vm := by
      have : s₂ = ({ s₂ with vm := (U.calling g mk a).vm } : State).setVm s₂.vm := rfl
      rw [e2] at this
      exact this
    obtain ⟨c₂, i₂, len₂, hc₂, hd₂, hf₂⟩ := hend
    have hW' : U.WarmedH s₂.vm := hW₂
    have hcc : c₂ = c := by
      have h1 : s₂.code? g.method = U.code? g.method := by
        rw [State.code?_eq, State.code?_eq, hW'.alike.method?]
      exact Option.some.inj (hc₂.symm.trans (h1.trans h.code))
    subst hcc
    have hlen : len₂ = len := by rw [hdg] at hd₂; cases hd₂; rfl
    subst hlen
    have hs₂ : s₂ = (({ U with heap := s₂.heap, slotsUsed := s₂.slotsUsed } : State).setVm s₂.vm).setTop { g with pc := g.pc + len₂, stack := v.toList ++ g.stack } := by
      refine e3.trans ?_
      rw [hf₂, State.calling_eq h.top, State.setFrames_setFrames, State.setTop_of_frames _ hr', hr]
      rfl
    have hsame : U.sameButNew ({ U with heap := s₂.heap, slotsUsed := s₂.slotsUsed } : State) L mc ms := by
      refine ⟨?_, q2, q3, q4, q5, q6⟩
      obtain ⟨t, ht, -⟩ := State.frames_cons hr
      show ({ U with heap := s₂.heap, slotsUsed := s₂.slotsUsed } : State) = { U.setFrames U.frames with heap := s₂.heap, slotsUsed := s₂.slotsUsed }
      rw [State.setFrames_self ht]
    subst hg
    refine Or.inl ⟨v, ⟨(({ U with heap := s₂.heap, slotsUsed := s₂.slotsUsed } : State).setVm s₂.vm), Ls ++ L, c0 + mc, s0 + ms⟩,
      ⟨X.admits, X.cas, X.clock, X.frames, X.room, X.hears, X.method, X.code, (X.here.setHeapUsed s₂.heap s₂.slotsUsed).setVm hW'.alike, X.tail, State.WarmedH.trans X.warmed hW', X.limits, X.bytes, X.same.trans (hsame.setVm s.vm)⟩,
      ⟨g, mk, s₂, L, rfl, rfl, hqc, rfl, hL, rfl, rfl⟩, ?_⟩
    show Steps p.tables e below _ ((({ U with heap := s₂.heap, slotsUsed := s₂.slotsUsed } : State).setVm s₂.vm).setTop { g with pc := g.pc + len₂, stack := v.toList ++ g.stack })
    rw [← hs₂]
    exact hsteps
  · obtain ⟨e2, q2, q3, q4, q5, q6⟩ := id hsm
    have e3 : s₂ = ({ (U.calling g mk a).setFrames s₂.frames with heap := s₂.heap, slotsUsed := s₂.slotsUsed } : State).setVm s₂.vm := by
      have : s₂ = ({ s₂ with vm := (U.calling g mk a).vm } : State).setVm s₂.vm := rfl
      rw [e2] at this
      exact this
    have hf₂ : s₂.frames = .throwing q :: .java g :: U.frames.tail := hend
    have hW' : U.WarmedH s₂.vm := hW₂
    have hs₂ : s₂ = ((({ U with heap := s₂.heap, slotsUsed := s₂.slotsUsed } : State).setVm s₂.vm).setTop g).pushFrame (.throwing q) := by
      refine e3.trans ?_
      rw [hf₂, State.calling_eq h.top, State.setFrames_setFrames, State.pushFrame, State.frames_setTop _ hr', State.setTop_of_frames _ hr', State.setFrames_setFrames, hr]
      rfl
    have hsame : U.sameButNew ({ U with heap := s₂.heap, slotsUsed := s₂.slotsUsed } : State) L mc ms := by
      refine ⟨?_, q2, q3, q4, q5, q6⟩
      obtain ⟨t, ht, -⟩ := State.frames_cons hr
      show ({ U with heap := s₂.heap, slotsUsed := s₂.slotsUsed } : State) = { U.setFrames U.frames with heap := s₂.heap, slotsUsed := s₂.slotsUsed }
      rw [State.setFrames_self ht]
    subst hg
    refine Or.inr ⟨q, ⟨(({ U with heap := s₂.heap, slotsUsed := s₂.slotsUsed } : State).setVm s₂.vm), Ls ++ L, c0 + mc, s0 + ms⟩,
      ⟨X.admits, X.cas, X.clock, X.frames, X.room, X.hears, X.method, X.code, (X.here.setHeapUsed s₂.heap s₂.slotsUsed).setVm hW'.alike, X.tail, State.WarmedH.trans X.warmed hW', X.limits, X.bytes, X.same.trans (hsame.setVm s.vm)⟩,
      ⟨g, mk, s₂, L, E, ce, rfl, rfl, hx, hce, hcv, hcl, rfl, hL, rfl, rfl⟩, ?_⟩
    show Steps p.tables e below _ (((({ U with heap := s₂.heap, slotsUsed := s₂.slotsUsed } : State).setVm s₂.vm).setTop g).pushFrame (.throwing q))
    rw [← hs₂]
    exact hsteps
end Payer
section Calls
variable {p : Program} {l : Launch} {e : Env} {R : Room} {s : State} {m : MethodId} {args : Array Value} {below : List Frame} {meth : Method} {c : Code} {T : State} {locs : List Loc} {cells slots : Nat}
theorem vx_callV (X : Stand p l e R s m args below meth c T locs cells slots) (hexec : p.tables.exec = Jvm.exec) {own C : String} {index : Nat} {y : MethodName} {bytes : ByteArray} {maxL : Nat} {ret : Option FieldType}
    (hown : s.vm.findClass own = some m.cls) (hlink : (Cond.methodLink own index y).before args s = true) (hinst : (Cond.instanceMethod y).before args s = true) (hsel : (Cond.selects C y y).before args s = true)
    (hcode : (Cond.code y bytes maxL ret).before args s = true) (hy : y.cls ≠ "java/lang/invoke/MethodHandle" ∧ y.cls ≠ "java/lang/invoke/VarHandle")
    {W9 : Nat} {Pre : Pt → Array Value → Prop} {Post : Pt → Array Value → Option Value → Pt → Prop} {PostX : Pt → Array Value → Addr → Pt → Prop} (hK : vx_Back l R p e below s args y 3 W9 Pre Post PostX)
    {b : Addr} {cellB : Cell} (hcell : T.heap[b]? = some cellB) (hobj : cellB.vm.isStatics = false) (hcls : s.vm.findClass C = some cellB.cls)
    {g : JFrame} (hg : g.method = m) (hsize : g.locals.size = c.maxLocals) {argsL rest : List Value} (hlen : ∀ sig, parseMethodDescriptor y.desc = some sig → argsL.length = sig.parameters.length)
    (hstack : g.stack = argsL.reverse ++ .ref b :: rest) (hW : 2 * g.monitorRoom + (rest.map fun v => v.category).sum ≤ W9) (hdg : decode c.code g.pc = .ok (.invokevirtual index, 3))
    (hpre : ∀ vm₁, s.WarmedH vm₁ → Pre ⟨T.setVm vm₁, locs, cells, slots⟩ (Value.ref b :: argsL).toArray) :
    (∃ (v : Option Value) (vm₁ : Vm) (B : Pt), s.WarmedH vm₁ ∧ Stand p l e R s m args below meth c B.U B.locs B.cells B.slots ∧ Post ⟨T.setVm vm₁, locs, cells, slots⟩ (Value.ref b :: argsL).toArray v B ∧
      ∀ target, Steps p.tables e below (B.U.setTop { g with pc := g.pc + 3, stack := v.toList ++ rest }) target → Steps p.tables e below (T.setTop g) target) ∨
    (∃ (q : Addr) (vm₁ : Vm) (B : Pt), s.WarmedH vm₁ ∧ Stand p l e R s m args below meth c B.U B.locs B.cells B.slots ∧ PostX ⟨T.setVm vm₁, locs, cells, slots⟩ (Value.ref b :: argsL).toArray q B ∧
      Steps p.tables e below (T.setTop g) ((B.U.setTop { g with stack := rest }).pushFrame (.throwing q))) := by
  obtain ⟨mk, methM, hnamed, hmethM, hstM, habM⟩ := Cond.instanceMethod_spec hinst
  obtain ⟨methM', cM, hmethM', -, -, -, -, -, -, hsigM⟩ := Cond.code_spec hnamed hcode
  cases hmethM.symm.trans hmethM'
  obtain ⟨c2, r2, m2, q1, q2, q3, q4, kP, hkP, hkPi⟩ := Cond.selects_spec hsel
  cases hcls.symm.trans q1
  cases (State.methodFound?_of_named hnamed hy).symm.trans q2
  cases hnamed.symm.trans q3
  have hselP : selectMethod e.platform s.vm cellB.cls mk = .method mk := by rw [Launch.admits_selectMethod X.admits]; exact q4
  obtain ⟨vm₁, X₁, hstep₁⟩ := X.invokevirtual hexec hown hlink hnamed hmethM hstM hkP hkPi hy (a := b) (cell := cellB) hcell
    (fun z h => by rw [h] at hobj; cases hobj) hselP hmethM habM hkP hkPi (g := g) hg (argsL := argsL) (rest := rest) (hlen _ hsigM) hstack hdg
  rcases hK m meth c ⟨T.setVm vm₁, locs, cells, slots⟩ { g with stack := rest } (.invokevirtual index) mk (Value.ref b :: argsL).toArray X₁ hg hsize hdg hW (X₁.named hnamed) (hpre vm₁ X₁.warmed) with ⟨v, B, X', hpost, hsteps⟩ | ⟨q, B, X', hpost, hsteps⟩
  · exact Or.inl ⟨v, vm₁, B, X₁.warmed, X', hpost, fun target h => hstep₁ _ fun acts => by rw [doInvoke_state]; exact hsteps.trans h⟩
  · exact Or.inr ⟨q, vm₁, B, X₁.warmed, X', hpost, hstep₁ _ fun acts => by rw [doInvoke_state]; exact hsteps⟩
theorem vx_callS (X : Stand p l e R s m args below meth c T locs cells slots) (hexec : p.tables.exec = Jvm.exec) {own : String} {index : Nat} {y : MethodName} {bytes : ByteArray} {maxL : Nat} {ret : Option FieldType}
    (hown : s.vm.findClass own = some m.cls) (hlink : (Cond.methodLink own index y).before args s = true) (hstat : (Cond.static y).before args s = true) (hinit : (Cond.initialized y.cls).before args s = true)
    (hcode : (Cond.code y bytes maxL ret).before args s = true) (hy : y.cls ≠ "java/lang/invoke/MethodHandle" ∧ y.cls ≠ "java/lang/invoke/VarHandle")
    {W9 : Nat} {Pre : Pt → Array Value → Prop} {Post : Pt → Array Value → Option Value → Pt → Prop} {PostX : Pt → Array Value → Addr → Pt → Prop} (hK : vx_Back l R p e below s args y 3 W9 Pre Post PostX)
    {g : JFrame} (hg : g.method = m) (hsize : g.locals.size = c.maxLocals) {argsL rest : List Value} (hlen : ∀ sig, parseMethodDescriptor y.desc = some sig → argsL.length = sig.parameters.length)
    (hstack : g.stack = argsL.reverse ++ rest) (hW : 2 * g.monitorRoom + (rest.map fun v => v.category).sum ≤ W9) (hdg : decode c.code g.pc = .ok (.invokestatic index, 3))
    (hpre : ∀ vm₁, s.WarmedH vm₁ → Pre ⟨T.setVm vm₁, locs, cells, slots⟩ argsL.toArray) :
    (∃ (v : Option Value) (vm₁ : Vm) (B : Pt), s.WarmedH vm₁ ∧ Stand p l e R s m args below meth c B.U B.locs B.cells B.slots ∧ Post ⟨T.setVm vm₁, locs, cells, slots⟩ argsL.toArray v B ∧
      ∀ target, Steps p.tables e below (B.U.setTop { g with pc := g.pc + 3, stack := v.toList ++ rest }) target → Steps p.tables e below (T.setTop g) target) ∨
    (∃ (q : Addr) (vm₁ : Vm) (B : Pt), s.WarmedH vm₁ ∧ Stand p l e R s m args below meth c B.U B.locs B.cells B.slots ∧ PostX ⟨T.setVm vm₁, locs, cells, slots⟩ argsL.toArray q B ∧
      Steps p.tables e below (T.setTop g) ((B.U.setTop { g with stack := rest }).pushFrame (.throwing q))) := by
  obtain ⟨mk, hnamed⟩ := Cond.code_named hcode
  obtain ⟨methM, cM, hmethM, -, -, -, -, -, -, hsigM⟩ := Cond.code_spec hnamed hcode
  have hstatic : methM.isStatic = true := Cond.static_spec hnamed hmethM hstat
  obtain ⟨kP, hkP, -⟩ := className_of_methodNamed hnamed
  have hinitP : kP.init = .initialized := Cond.initialized_spec (findClass_of_methodNamed hnamed) hkP hinit
  obtain ⟨vm₁, X₁, hstep₁⟩ := X.invokestatic hexec hown hlink hnamed hmethM hstatic hkP hinitP hy (g := g) hg (argsL := argsL) (rest := rest) (hlen _ hsigM) hstack hdg
  rcases hK m meth c ⟨T.setVm vm₁, locs, cells, slots⟩ { g with stack := rest } (.invokestatic index) mk argsL.toArray X₁ hg hsize hdg hW (X₁.named hnamed) (hpre vm₁ X₁.warmed) with ⟨v, B, X', hpost, hsteps⟩ | ⟨q, B, X', hpost, hsteps⟩
  · exact Or.inl ⟨v, vm₁, B, X₁.warmed, X', hpost, fun target h => hstep₁ _ fun acts => by rw [doInvoke_state]; exact hsteps.trans h⟩
  · exact Or.inr ⟨q, vm₁, B, X₁.warmed, X', hpost, hstep₁ _ fun acts => by rw [doInvoke_state]; exact hsteps⟩
end Calls
theorem vx_cls {s : State} {T : State} {vm₁ : Vm} {E : String} {k : ClassId} (hW : s.WarmedH vm₁) (h : (T.setVm vm₁).vm.findClass E = some k) : s.vm.findClass E = some k := by
  have h1 : vm₁.findClass E = some k := h
  rw [hW.alike.findClass] at h1
  exact h1
/-- the method's frame g, with q thrown over it -/
def vx_W (p : Program) (l : Launch) (e : Env) (R : Room) (s : State) (m : MethodId) (args : Array Value) (below : List Frame) (meth : Method) (c : Code) (H : Heap) (locs : List Loc) (cells slots : Nat) (Q : State → Prop) (g : JFrame) (q : Addr) : Prop :=
  ∀ T : State, T.heap = H → Stand p l e R s m args below meth c T locs cells slots → ∃ t, Steps p.tables e below ((T.setTop g).pushFrame (.throwing q)) t ∧ Q t
def vx_Run (p : Program) (l : Launch) (e : Env) (R : Room) (s : State) (m : MethodId) (args : Array Value) (below : List Frame) (meth : Method) (c : Code) (H : Heap) (locs : List Loc) (cells slots mc ms : Nat) (g : JFrame) (rest : List Value) (Qa : State → Outcome → State → Prop) (XC : String → State → State → Prop) (free : Addr → Prop) : Prop :=
  ∀ T : State, T.heap = H → Stand p l e R s m args below meth c T locs cells slots →
    (∃ (v : Option Value) (st₀ t T' : State) (L : List Loc), st₀.heap = H ∧ Stand p l e R s m args below meth c T' (locs ++ L) (cells + mc) (slots + ms) ∧ (∀ q ∈ L, free q.base) ∧ T'.heap = t.heap ∧ T'.vm = t.vm ∧ Qa st₀ (.returned v) t ∧
      Goes p e below T g T' { g with pc := g.pc + 3, stack := v.toList ++ rest }) ∨
    (∃ (q : Addr) (st₀ t T' : State) (L : List Loc) (E : String) (ce : Cell), st₀.heap = H ∧ Stand p l e R s m args below meth c T' (locs ++ L) (cells + mc) (slots + ms) ∧ (∀ z ∈ L, free z.base) ∧ T'.heap = t.heap ∧ T'.vm = t.vm ∧ XC E st₀ t ∧ t.heap[q]? = some ce ∧ ce.vm = .none ∧ s.vm.findClass E = some ce.cls ∧
      Steps p.tables e below (T.setTop g) ((T'.setTop { g with stack := rest }).pushFrame (.throwing q)))
def vx_X {S : Type} (px : S → Prop) (B : String → S → State → Prop) (A : Nat → Prop) : String → State → State → Prop := fun E st t => ∃ u : S, px u ∧ B E u t ∧ va_F A st t
section Runs
variable {p : Program} {l : Launch} {e : Env} {R : Room} {s : State} {m : MethodId} {args : Array Value} {below : List Frame} {meth : Method} {c : Code} {H : Heap} {locs : List Loc} {cells slots : Nat}
variable {y : MethodName} {bytes cc : ByteArray} {maxL nL mc ms n index : Nat} {ret : Option FieldType} {ws : List Cond} {rm : Room} {Pc : Array Value → State → Prop} {Qc : Array Value → State → Outcome → State → Prop} {XC : String → State → State → Prop} {free : Addr → Prop} {Ts : List Cond} {own C : String} {b : Addr} {As rest : List Value} {g : JFrame}
theorem vx_callBack (cb : CallB R s args own index y bytes maxL ret ws rm mc ms n) (hM : vx_Met l y ws rm Pc Qc XC mc ms free) (hbl : FrameBlind Pc) : vx_Back l R p e below s args y 3 8 (PreOf R mc ms Pc) (PostOf Qc mc ms free) (vx_Post XC mc ms free) := by
  obtain ⟨hrc, hrs, hfr, hlo, hws, hcw, -, hini, -⟩ := cb
  exact vx_back (bytes := bytes) (maxL := maxL) (ret := ret) hM hbl hrc hrs hfr hlo hws hcw (fun a' U hW => word_at hW (Or.inl (by first | rfl | simp [Cond.onTables, Cond.keeps, Cond.steady])) hini)
theorem vx_runV (S : CallFix p m c cc nL s args Ts own) (hM : vx_Met l y ws rm Pc Qc XC mc ms free) (cw : CallW R s args own C index y bytes maxL ret ws rm mc ms n) (hp : PreV s H C b Pc As)
    (hg : g.method = m) (hn : As.length = n) (hsize : g.locals.size = nL) (hstack : g.stack = As.reverse ++ .ref b :: rest) (hW : 2 * g.monitorRoom + (rest.map fun v => v.category).sum ≤ 8) (hdg : decode cc g.pc = .ok (.invokevirtual index, 3)) (hf : cells + mc ≤ R.cells ∧ slots + ms ≤ R.slots) :
    vx_Run p l e R s m args below meth c H locs cells slots mc ms g rest (Qc (Value.ref b :: As).toArray) XC free := by
  have hK : vx_Back l R p e below s args y 3 8 (PreOf R mc ms Pc) (PostOf Qc mc ms free) (vx_Post XC mc ms free) := vx_callBack cw.1 hM hp.1
  obtain ⟨⟨-, -, -, -, -, -, hcode, -, hy, hlen, hl⟩, hin, hse⟩ := cw
  obtain ⟨hx, hb, hml, ho, -⟩ := S
  obtain ⟨-, ⟨cellB, hcB, hoB, hclB⟩, hPc⟩ := hp
  intro T hT X
  rcases vx_callV X hx (C := C) (bytes := bytes) (maxL := maxL) (ret := ret) ho hl hin hse hcode hy hK (by rw [hT]; exact hcB) hoB hclB hg (hsize.trans hml.symm) (argsL := As) (rest := rest) (fun sig h => hn.trans (hlen sig h)) hstack hW (by rw [hb]; exact hdg)
    (fun vm₁ hW₁ => ⟨hf.1, hf.2, hPc (T.setVm vm₁) hT hW₁⟩) with ⟨v, vm₁, ⟨U', l2, c2, s2⟩, hW₁, X', ⟨g', mk, t, L, e1, e2, hq, h1, hL, h2, h3⟩, st⟩ | ⟨q, vm₁, ⟨U', l2, c2, s2⟩, hW₁, X', ⟨g', mk, t, L, E, ce, e1, e2, hq, hce, hcv, hcl, h1, hL, h2, h3⟩, st⟩
  · dsimp only [Pt.U, Pt.locs, Pt.cells, Pt.slots] at X' e1 e2 h1 h2 h3 st
    subst h1; subst h2; subst h3
    exact Or.inl ⟨v, (T.setVm vm₁).calling g' mk (Value.ref b :: As).toArray, t, U', L, hT, X', hL, e1, e2, hq, st⟩
  · dsimp only [Pt.U, Pt.locs, Pt.cells, Pt.slots] at X' e1 e2 h1 h2 h3 st hcl
    subst h1; subst h2; subst h3
    exact Or.inr ⟨q, (T.setVm vm₁).calling g' mk (Value.ref b :: As).toArray, t, U', L, E, ce, hT, X', hL, e1, e2, hq, hce, hcv, vx_cls hW₁ hcl, st⟩
theorem vx_runS (S : CallFix p m c cc nL s args Ts own) (hM : vx_Met l y ws rm Pc Qc XC mc ms free) (cw : CallB R s args own index y bytes maxL ret ws rm mc ms n ∧ (Cond.static y).before args s = true) (hp : PreS s H Pc As)
    (hg : g.method = m) (hn : As.length = n) (hsize : g.locals.size = nL) (hstack : g.stack = As.reverse ++ rest) (hW : 2 * g.monitorRoom + (rest.map fun v => v.category).sum ≤ 8) (hdg : decode cc g.pc = .ok (.invokestatic index, 3)) (hf : cells + mc ≤ R.cells ∧ slots + ms ≤ R.slots) :
    vx_Run p l e R s m args below meth c H locs cells slots mc ms g rest (Qc As.toArray) XC free := by
  have hK : vx_Back l R p e below s args y 3 8 (PreOf R mc ms Pc) (PostOf Qc mc ms free) (vx_Post XC mc ms free) := vx_callBack cw.1 hM hp.1
  obtain ⟨⟨-, -, -, -, -, -, hcode, hini, hy, hlen, hl⟩, hstt⟩ := cw
  obtain ⟨hx, hb, hml, ho, -⟩ := S
  intro T hT X
  rcases vx_callS X hx (bytes := bytes) (maxL := maxL) (ret := ret) ho hl hstt hini hcode hy hK hg (hsize.trans hml.symm) (argsL := As) (rest := rest) (fun sig h => hn.trans (hlen sig h)) hstack hW (by rw [hb]; exact hdg)
    (fun vm₁ hW₁ => ⟨hf.1, hf.2, hp.2 (T.setVm vm₁) hT hW₁⟩) with ⟨v, vm₁, ⟨U', l2, c2, s2⟩, hW₁, X', ⟨g', mk, t, L, e1, e2, hq, h1, hL, h2, h3⟩, st⟩ | ⟨q, vm₁, ⟨U', l2, c2, s2⟩, hW₁, X', ⟨g', mk, t, L, E, ce, e1, e2, hq, hce, hcv, hcl, h1, hL, h2, h3⟩, st⟩
  · dsimp only [Pt.U, Pt.locs, Pt.cells, Pt.slots] at X' e1 e2 h1 h2 h3 st
    subst h1; subst h2; subst h3
    exact Or.inl ⟨v, (T.setVm vm₁).calling g' mk As.toArray, t, U', L, hT, X', hL, e1, e2, hq, st⟩
  · dsimp only [Pt.U, Pt.locs, Pt.cells, Pt.slots] at X' e1 e2 h1 h2 h3 st hcl
    subst h1; subst h2; subst h3
    exact Or.inr ⟨q, (T.setVm vm₁).calling g' mk As.toArray, t, U', L, E, ce, hT, X', hL, e1, e2, hq, hce, hcv, vx_cls hW₁ hcl, st⟩
end Runs
section Rows
variable {p : Program} {l : Launch} {e : Env} {R : Room} {s : State} {m : MethodId} {args : Array Value} {below : List Frame} {meth : Method} {c : Code} {H : Heap} {locs : List Loc} {cells slots : Nat} {Q : State → Prop}
variable {mc ms : Nat} {free : Addr → Prop} {A0 A1 : Nat → Prop} {H0 : Heap} {a : Array Value} {pc : Nat} {ls : Array Slot} {st0 rest : List Value}
theorem vx_keep {st₀ t T' : State} {L : List Loc} (h0 : st₀.heap = H) (e1 : T'.heap = t.heap) (hS : va_S A0 H0 H locs) (hA : ∀ q, q < H.size → A1 q → A0 q) (hf : ∀ q, free q → A0 q) (hL : ∀ q ∈ L, free q.base) (hF : va_F A1 st₀ t) :
    H.size ≤ T'.heap.size ∧ (∀ q : Nat, q < H.size → ¬ A1 q → T'.heap[q]? = H[q]?) ∧ va_S A0 H0 T'.heap (locs ++ L) := by
  obtain ⟨hz, hk⟩ := hF
  rw [h0] at hz hk
  exact ⟨by rw [e1]; exact hz, fun q h1 h2 => by rw [e1]; exact hk q h1 h2,
    ⟨Nat.le_trans hS.1 (by rw [e1]; exact hz), fun q h1 h2 => by rw [e1, hk q (Nat.lt_of_lt_of_le h1 hS.1) (fun z => h2 (hA q (Nat.lt_of_lt_of_le h1 hS.1) z))]; exact hS.2.1 q h1 h2, fun q hq => by
      rcases List.mem_append.mp hq with h | h
      · exact hS.2.2 q h
      · exact hf _ (hL q h)⟩⟩
theorem vx_calli {S SX : Type} {post : Int32 → S → Prop} {px : SX → Prop} {B : S → State → Prop} {BX : String → SX → State → Prop} {AX : Nat → Prop} (hr : vx_Run p l e R s m args below meth c H locs cells slots mc ms (F0 m pc ls st0) rest (va_Qi post B A1 a) (vx_X px BX AX) free) (hS : va_S A0 H0 H locs) (hA : ∀ q, q < H.size → A1 q → A0 q) (hf : ∀ q, free q → A0 q) (hAX : ∀ q, q < H.size → AX q → A0 q)
    (kx : ∀ (E : String) (ce : Cell) (q9 : Addr) (u : SX) (t : State) (H1 : Heap) (locs1 : List Loc), t.heap = H1 → s.vm.Alike t.vm → px u → BX E u t → H.size ≤ H1.size → (∀ q : Nat, q < H.size → ¬ AX q → H1[q]? = H[q]?) → va_S A0 H0 H1 locs1 → H1[q9]? = some ce → ce.vm = .none → s.vm.findClass E = some ce.cls → vx_W p l e R s m args below meth c H1 locs1 (cells + mc) (slots + ms) Q (F0 m pc ls rest) q9)
    (kk : ∀ (r : Int32) (u : S) (t : State) (H1 : Heap) (locs1 : List Loc), t.heap = H1 → s.vm.Alike t.vm → post r u → B u t → H.size ≤ H1.size → (∀ q : Nat, q < H.size → ¬ A1 q → H1[q]? = H[q]?) → va_S A0 H0 H1 locs1 → W p l e R s m args below meth c H1 locs1 (cells + mc) (slots + ms) Q (F0 m (pc + 3) ls (.int r :: rest))) : W p l e R s m args below meth c H locs cells slots Q (F0 m pc ls st0) := by
  intro T hT X
  rcases hr T hT X with ⟨v, st₀, t, T', L, h0, X', hL, e1, e2, ⟨⟨r, u, hv, hp, hb⟩, hF⟩, st⟩ | ⟨q, st₀, t, T', L, E, ce, h0, X', hL, e1, e2, ⟨u, hp, hb, hF⟩, hce, hcv, hcl, st⟩
  · cases hv
    obtain ⟨k1, k2, k3⟩ := vx_keep h0 e1 hS hA hf hL hF
    obtain ⟨t2, a1, b1⟩ := kk r u t T'.heap (locs ++ L) e1.symm (by rw [← e2]; exact X'.warmed.alike) hp hb k1 k2 k3 T' rfl X'
    exact ⟨t2, st t2 a1, b1⟩
  · obtain ⟨k1, k2, k3⟩ := vx_keep h0 e1 hS hAX hf hL hF
    obtain ⟨t2, a1, b1⟩ := kx E ce q u t T'.heap (locs ++ L) e1.symm (by rw [← e2]; exact X'.warmed.alike) hp hb k1 k2 k3 (by rw [e1]; exact hce) hcv hcl T' rfl X'
    exact ⟨t2, st.trans a1, b1⟩
theorem vx_calll {S SX : Type} {post : Int64 → S → Prop} {px : SX → Prop} {B : S → State → Prop} {BX : String → SX → State → Prop} {AX : Nat → Prop} (hr : vx_Run p l e R s m args below meth c H locs cells slots mc ms (F0 m pc ls st0) rest (va_Ql post B A1 a) (vx_X px BX AX) free) (hS : va_S A0 H0 H locs) (hA : ∀ q, q < H.size → A1 q → A0 q) (hf : ∀ q, free q → A0 q) (hAX : ∀ q, q < H.size → AX q → A0 q)
    (kx : ∀ (E : String) (ce : Cell) (q9 : Addr) (u : SX) (t : State) (H1 : Heap) (locs1 : List Loc), t.heap = H1 → s.vm.Alike t.vm → px u → BX E u t → H.size ≤ H1.size → (∀ q : Nat, q < H.size → ¬ AX q → H1[q]? = H[q]?) → va_S A0 H0 H1 locs1 → H1[q9]? = some ce → ce.vm = .none → s.vm.findClass E = some ce.cls → vx_W p l e R s m args below meth c H1 locs1 (cells + mc) (slots + ms) Q (F0 m pc ls rest) q9)
    (kk : ∀ (r : Int64) (u : S) (t : State) (H1 : Heap) (locs1 : List Loc), t.heap = H1 → s.vm.Alike t.vm → post r u → B u t → H.size ≤ H1.size → (∀ q : Nat, q < H.size → ¬ A1 q → H1[q]? = H[q]?) → va_S A0 H0 H1 locs1 → W p l e R s m args below meth c H1 locs1 (cells + mc) (slots + ms) Q (F0 m (pc + 3) ls (.long r :: rest))) : W p l e R s m args below meth c H locs cells slots Q (F0 m pc ls st0) := by
  intro T hT X
  rcases hr T hT X with ⟨v, st₀, t, T', L, h0, X', hL, e1, e2, ⟨⟨r, u, hv, hp, hb⟩, hF⟩, st⟩ | ⟨q, st₀, t, T', L, E, ce, h0, X', hL, e1, e2, ⟨u, hp, hb, hF⟩, hce, hcv, hcl, st⟩
  · cases hv
    obtain ⟨k1, k2, k3⟩ := vx_keep h0 e1 hS hA hf hL hF
    obtain ⟨t2, a1, b1⟩ := kk r u t T'.heap (locs ++ L) e1.symm (by rw [← e2]; exact X'.warmed.alike) hp hb k1 k2 k3 T' rfl X'
    exact ⟨t2, st t2 a1, b1⟩
  · obtain ⟨k1, k2, k3⟩ := vx_keep h0 e1 hS hAX hf hL hF
    obtain ⟨t2, a1, b1⟩ := kx E ce q u t T'.heap (locs ++ L) e1.symm (by rw [← e2]; exact X'.warmed.alike) hp hb k1 k2 k3 (by rw [e1]; exact hce) hcv hcl T' rfl X'
    exact ⟨t2, st.trans a1, b1⟩
theorem vx_callf {S SX : Type} {post : UInt32 → S → Prop} {px : SX → Prop} {B : S → State → Prop} {BX : String → SX → State → Prop} {AX : Nat → Prop} (hr : vx_Run p l e R s m args below meth c H locs cells slots mc ms (F0 m pc ls st0) rest (va_Qf post B A1 a) (vx_X px BX AX) free) (hS : va_S A0 H0 H locs) (hA : ∀ q, q < H.size → A1 q → A0 q) (hf : ∀ q, free q → A0 q) (hAX : ∀ q, q < H.size → AX q → A0 q)
    (kx : ∀ (E : String) (ce : Cell) (q9 : Addr) (u : SX) (t : State) (H1 : Heap) (locs1 : List Loc), t.heap = H1 → s.vm.Alike t.vm → px u → BX E u t → H.size ≤ H1.size → (∀ q : Nat, q < H.size → ¬ AX q → H1[q]? = H[q]?) → va_S A0 H0 H1 locs1 → H1[q9]? = some ce → ce.vm = .none → s.vm.findClass E = some ce.cls → vx_W p l e R s m args below meth c H1 locs1 (cells + mc) (slots + ms) Q (F0 m pc ls rest) q9)
    (kk : ∀ (r : UInt32) (u : S) (t : State) (H1 : Heap) (locs1 : List Loc), t.heap = H1 → s.vm.Alike t.vm → post r u → B u t → H.size ≤ H1.size → (∀ q : Nat, q < H.size → ¬ A1 q → H1[q]? = H[q]?) → va_S A0 H0 H1 locs1 → W p l e R s m args below meth c H1 locs1 (cells + mc) (slots + ms) Q (F0 m (pc + 3) ls (.float r :: rest))) : W p l e R s m args below meth c H locs cells slots Q (F0 m pc ls st0) := by
  intro T hT X
  rcases hr T hT X with ⟨v, st₀, t, T', L, h0, X', hL, e1, e2, ⟨⟨r, u, hv, hp, hb⟩, hF⟩, st⟩ | ⟨q, st₀, t, T', L, E, ce, h0, X', hL, e1, e2, ⟨u, hp, hb, hF⟩, hce, hcv, hcl, st⟩
  · cases hv
    obtain ⟨k1, k2, k3⟩ := vx_keep h0 e1 hS hA hf hL hF
    obtain ⟨t2, a1, b1⟩ := kk r u t T'.heap (locs ++ L) e1.symm (by rw [← e2]; exact X'.warmed.alike) hp hb k1 k2 k3 T' rfl X'
    exact ⟨t2, st t2 a1, b1⟩
  · obtain ⟨k1, k2, k3⟩ := vx_keep h0 e1 hS hAX hf hL hF
    obtain ⟨t2, a1, b1⟩ := kx E ce q u t T'.heap (locs ++ L) e1.symm (by rw [← e2]; exact X'.warmed.alike) hp hb k1 k2 k3 (by rw [e1]; exact hce) hcv hcl T' rfl X'
    exact ⟨t2, st.trans a1, b1⟩
theorem vx_calld {S SX : Type} {post : UInt64 → S → Prop} {px : SX → Prop} {B : S → State → Prop} {BX : String → SX → State → Prop} {AX : Nat → Prop} (hr : vx_Run p l e R s m args below meth c H locs cells slots mc ms (F0 m pc ls st0) rest (va_Qd post B A1 a) (vx_X px BX AX) free) (hS : va_S A0 H0 H locs) (hA : ∀ q, q < H.size → A1 q → A0 q) (hf : ∀ q, free q → A0 q) (hAX : ∀ q, q < H.size → AX q → A0 q)
    (kx : ∀ (E : String) (ce : Cell) (q9 : Addr) (u : SX) (t : State) (H1 : Heap) (locs1 : List Loc), t.heap = H1 → s.vm.Alike t.vm → px u → BX E u t → H.size ≤ H1.size → (∀ q : Nat, q < H.size → ¬ AX q → H1[q]? = H[q]?) → va_S A0 H0 H1 locs1 → H1[q9]? = some ce → ce.vm = .none → s.vm.findClass E = some ce.cls → vx_W p l e R s m args below meth c H1 locs1 (cells + mc) (slots + ms) Q (F0 m pc ls rest) q9)
    (kk : ∀ (r : UInt64) (u : S) (t : State) (H1 : Heap) (locs1 : List Loc), t.heap = H1 → s.vm.Alike t.vm → post r u → B u t → H.size ≤ H1.size → (∀ q : Nat, q < H.size → ¬ A1 q → H1[q]? = H[q]?) → va_S A0 H0 H1 locs1 → W p l e R s m args below meth c H1 locs1 (cells + mc) (slots + ms) Q (F0 m (pc + 3) ls (.double r :: rest))) : W p l e R s m args below meth c H locs cells slots Q (F0 m pc ls st0) := by
  intro T hT X
  rcases hr T hT X with ⟨v, st₀, t, T', L, h0, X', hL, e1, e2, ⟨⟨r, u, hv, hp, hb⟩, hF⟩, st⟩ | ⟨q, st₀, t, T', L, E, ce, h0, X', hL, e1, e2, ⟨u, hp, hb, hF⟩, hce, hcv, hcl, st⟩
  · cases hv
    obtain ⟨k1, k2, k3⟩ := vx_keep h0 e1 hS hA hf hL hF
    obtain ⟨t2, a1, b1⟩ := kk r u t T'.heap (locs ++ L) e1.symm (by rw [← e2]; exact X'.warmed.alike) hp hb k1 k2 k3 T' rfl X'
    exact ⟨t2, st t2 a1, b1⟩
  · obtain ⟨k1, k2, k3⟩ := vx_keep h0 e1 hS hAX hf hL hF
    obtain ⟨t2, a1, b1⟩ := kx E ce q u t T'.heap (locs ++ L) e1.symm (by rw [← e2]; exact X'.warmed.alike) hp hb k1 k2 k3 (by rw [e1]; exact hce) hcv hcl T' rfl X'
    exact ⟨t2, st.trans a1, b1⟩
theorem vx_callv {S SX : Type} {post : S → Prop} {px : SX → Prop} {B : S → State → Prop} {BX : String → SX → State → Prop} {AX : Nat → Prop} (hr : vx_Run p l e R s m args below meth c H locs cells slots mc ms (F0 m pc ls st0) rest (va_Qv post B A1 a) (vx_X px BX AX) free) (hS : va_S A0 H0 H locs) (hA : ∀ q, q < H.size → A1 q → A0 q) (hf : ∀ q, free q → A0 q) (hAX : ∀ q, q < H.size → AX q → A0 q)
    (kx : ∀ (E : String) (ce : Cell) (q9 : Addr) (u : SX) (t : State) (H1 : Heap) (locs1 : List Loc), t.heap = H1 → s.vm.Alike t.vm → px u → BX E u t → H.size ≤ H1.size → (∀ q : Nat, q < H.size → ¬ AX q → H1[q]? = H[q]?) → va_S A0 H0 H1 locs1 → H1[q9]? = some ce → ce.vm = .none → s.vm.findClass E = some ce.cls → vx_W p l e R s m args below meth c H1 locs1 (cells + mc) (slots + ms) Q (F0 m pc ls rest) q9)
    (kk : ∀ (u : S) (t : State) (H1 : Heap) (locs1 : List Loc), t.heap = H1 → s.vm.Alike t.vm → post u → B u t → H.size ≤ H1.size → (∀ q : Nat, q < H.size → ¬ A1 q → H1[q]? = H[q]?) → va_S A0 H0 H1 locs1 → W p l e R s m args below meth c H1 locs1 (cells + mc) (slots + ms) Q (F0 m (pc + 3) ls (rest))) : W p l e R s m args below meth c H locs cells slots Q (F0 m pc ls st0) := by
  intro T hT X
  rcases hr T hT X with ⟨v, st₀, t, T', L, h0, X', hL, e1, e2, ⟨⟨u, hv, hp, hb⟩, hF⟩, st⟩ | ⟨q, st₀, t, T', L, E, ce, h0, X', hL, e1, e2, ⟨u, hp, hb, hF⟩, hce, hcv, hcl, st⟩
  · cases hv
    obtain ⟨k1, k2, k3⟩ := vx_keep h0 e1 hS hA hf hL hF
    obtain ⟨t2, a1, b1⟩ := kk u t T'.heap (locs ++ L) e1.symm (by rw [← e2]; exact X'.warmed.alike) hp hb k1 k2 k3 T' rfl X'
    exact ⟨t2, st t2 a1, b1⟩
  · obtain ⟨k1, k2, k3⟩ := vx_keep h0 e1 hS hAX hf hL hF
    obtain ⟨t2, a1, b1⟩ := kx E ce q u t T'.heap (locs ++ L) e1.symm (by rw [← e2]; exact X'.warmed.alike) hp hb k1 k2 k3 (by rw [e1]; exact hce) hcv hcl T' rfl X'
    exact ⟨t2, st.trans a1, b1⟩
/-- caught by the row x of this method's table; the rows ahead don't take it -/
theorem vx_catch {own name : String} {E : String} {ce : Cell} {q : Addr} (hown : s.vm.findClass own = some m.cls) (pre : List ExceptionTableEntry) (x : ExceptionTableEntry) (suf : List ExceptionTableEntry) (hsplit : c.exceptionTable.toList = pre ++ x :: suf)
    (hpass : ∀ z ∈ pre, covers z pc = false ∨ (z.catchType ≠ 0 ∧ ∃ nm : String, (Cond.classLink own z.catchType nm).before args s = true ∧ va_Nc E nm s)) (hx : covers x pc = true) (h0 : x.catchType ≠ 0)
    (hlink : (Cond.classLink own x.catchType name).before args s = true) (hcast : (Cond.castable E name).before args s = true) (hcell : H[q]? = some ce) (hv : ce.vm = .none) (hcl : s.vm.findClass E = some ce.cls)
    (kk : W p l e R s m args below meth c H locs cells slots Q (F0 m x.handlerPc ls [.ref q])) : vx_W p l e R s m args below meth c H locs cells slots Q (F0 m pc ls rest) q := by
  sorry
end Rows
section Ends
variable {p : Program} {l : Launch} {e : Env} {R : Room} {s : State} {m : MethodId} {args : Array Value} {below : List Frame} {meth : Method} {c : Code} {H : Heap} {locs : List Loc} {cells slots : Nat} {Q : State → Prop}
variable {mc ms : Nat} {free : Addr → Prop} {A0 A1 : Nat → Prop} {H0 : Heap} {a : Array Value} {ls : Array Slot} {st0 rest : List Value}
variable {Qc : Array Value → State → Outcome → State → Prop} {XC : String → State → State → Prop}
/-- what a body that may throw owes at its end -/
def vx_MQ (below : List Frame) (Qc : Array Value → State → Outcome → State → Prop) (XC : String → State → State → Prop) (a : Array Value) (s : State) (mc ms : Nat) (free : Addr → Prop) : State → Prop := fun t =>
  ∃ o, t.status = .running ∧ Ended t below o ∧ vx_Q Qc XC mc ms free a s o t
theorem vx_ret {g : JFrame} {mc ms : Nat} (k : W p l e R s m args below meth c H locs cells slots (MQ below Qc args s mc ms free) g) : W p l e R s m args below meth c H locs cells slots (vx_MQ below Qc XC args s mc ms free) g := by
  intro T hT X
  obtain ⟨t, a1, o, b1, b2, b3, b4⟩ := k T hT X
  exact ⟨t, a1, o, b1, b2, Or.inl ⟨b3, b4⟩⟩
/-- not caught here: it goes on to the caller -/
theorem vx_widen {g : JFrame} {q : Addr} {k n : Nat} (h1 : cells ≤ k) (h2 : slots ≤ n) (kk : vx_W p l e R s m args below meth c H locs k n Q g q) : vx_W p l e R s m args below meth c H locs cells slots Q g q := fun T hT X => kk T hT (stand_widen X h1 h2)
theorem vx_out {pc : Nat} {E : String} {ce : Cell} {q : Addr} {mc ms : Nat} (hout : ∀ x ∈ c.exceptionTable.toList, covers x pc = false) (hlocks : meth.locks = false) (hcell : H[q]? = some ce) (hv : ce.vm = .none) (hcl : s.vm.findClass E = some ce.cls)
    (hx : ∀ t : State, t.heap = H → s.vm.Alike t.vm → XC E s t) (hf : ∀ z ∈ locs, free z.base) (hc : cells ≤ mc) (hs : slots ≤ ms) :
    vx_W p l e R s m args below meth c H locs cells slots (vx_MQ below Qc XC args s mc ms free) (F0 m pc ls rest) q := by
  intro T hT X
  obtain ⟨st1, hrun, hend, hW, hsm⟩ := X.leaveThrown q (g := F0 m pc ls rest) rfl rfl rfl hout hlocks
  have hcell9 : (T.setFrames (.throwing q :: below)).heap[q]? = some ce := by
    show T.heap[q]? = some ce
    rw [hT]; exact hcell
  exact ⟨_, st1, .threw q, hrun, hend, Or.inr ⟨q, rfl, E, ce, locs, hx _ hT hW.alike, hcell9, hv, hcl, hW, hsm.mono hc hs, hf⟩⟩
theorem vx_frame {U : State} {k n : Nat} (h : s.sameButNew ({ U with vm := s.vm } : State) locs k n) : s.heap.size ≤ U.heap.size ∧ ∀ q : Nat, q < s.heap.size → (∀ z ∈ locs, z.base ≠ q) → U.heap[q]? = s.heap[q]? := by
  obtain ⟨-, h2, -, -, -, h6⟩ := h
  refine ⟨h2, fun q hq hz => ?_⟩
  obtain ⟨c9, e1, e2, e3, e4⟩ := h6 q _ (Array.getElem?_eq_getElem hq)
  have hs : c9.slots = (s.heap[q]).slots := Array.ext_getElem? fun i => e4 i fun hm => hz _ hm rfl
  have h9 : c9 = s.heap[q] := by
    rw [hs] at e2
    exact e2
  have e5 : U.heap[q]? = some c9 := e1
  rw [e5, h9, Array.getElem?_eq_getElem hq]
/-- the words of a throw but the four that speak of the heap -/
def vx_no (w : Cond) : Bool := decide (w ≠ .isRef (.static Bundle.tN "UNASSIGNED_STACK" Bundle.steD)) && decide (w ≠ .isRef (.static Bundle.tN "SUPPRESSED_SENTINEL" Bundle.listD)) && decide (w ≠ .laysStatic Bundle.tN "UNASSIGNED_STACK" Bundle.steD) && decide (w ≠ .laysStatic Bundle.tN "SUPPRESSED_SENTINEL" Bundle.listD)
def vx_at0 (own : String) (ic : Nat) (X : String) (names : List String) : List Cond := (Bundle.ownAtoms0 own ic X names).filter vx_no
def vx_atS (own : String) (ic : Nat) (X : String) (names : List String) : List Cond := (Bundle.ownAtoms own ic X names).filter vx_no
/-- a word that the tables alone decide, or a good one -/
def vx_ot (w : Cond) : Bool := w.onTables || goodWord w
theorem vx_ot_at {args a' : Array Value} {s U : State} {w : Cond} (hW : s.WarmedH U.vm) (hvm : s.vm = U.vm) (hg : vx_ot w = true) (h : w.before args s = true) : w.before a' U = true := by
  simp only [vx_ot, Bool.or_eq_true] at hg
  rcases hg with hg | hg
  · exact va_tabs hg hvm h
  · exact word_at hW (good_of_word hg) h
/-- a list's words: the good ones out of the method's own list, the others by premises of their own -/
theorem vx_hat {args : Array Value} {s : State} {L B : List Cond} (h1 : ∀ w ∈ L.filter goodWord, w.before args s = true) (h2 : ∀ w ∈ L.filter (fun w => !goodWord w), w ∈ B) (h3 : ∀ w ∈ B, w.before args s = true) : ∀ w ∈ L, w.before args s = true := by
  intro w hw
  by_cases g : goodWord w = true
  · exact h1 w (List.mem_filter.mpr ⟨hw, g⟩)
  · refine h3 w (h2 w (List.mem_filter.mpr ⟨hw, ?_⟩))
    show (!goodWord w) = true
    cases hgw : goodWord w
    · rfl
    · exact absurd hgw g
theorem vx_c {args : Array Value} {s : State} {w : Cond} {B : List Cond} (h : w.before args s = true) (t : ∀ w ∈ B, w.before args s = true) : ∀ w' ∈ w :: B, w'.before args s = true := fun w' h' => (List.mem_cons.mp h').elim (fun e => by rw [e]; exact h) (t w')
theorem vx_n {args : Array Value} {s : State} : ∀ w ∈ ([] : List Cond), w.before args s = true := fun _ h => nomatch h
theorem vx_own {args : Array Value} {s : State} {L : List Cond} (h1 : ∀ w ∈ L.filter vx_no, w.before args s = true)
    (hU : (Cond.isRef (.static Bundle.tN "UNASSIGNED_STACK" Bundle.steD)).before args s = true) (hN : (Cond.isRef (.static Bundle.tN "SUPPRESSED_SENTINEL" Bundle.listD)).before args s = true)
    (lU : (Cond.laysStatic Bundle.tN "UNASSIGNED_STACK" Bundle.steD).before args s = true) (lN : (Cond.laysStatic Bundle.tN "SUPPRESSED_SENTINEL" Bundle.listD).before args s = true) : ∀ w ∈ L, w.before args s = true := by
  intro w hw
  by_cases e1 : w = .isRef (.static Bundle.tN "UNASSIGNED_STACK" Bundle.steD)
  · rw [e1]; exact hU
  · by_cases e2 : w = .isRef (.static Bundle.tN "SUPPRESSED_SENTINEL" Bundle.listD)
    · rw [e2]; exact hN
    · by_cases e3 : w = .laysStatic Bundle.tN "UNASSIGNED_STACK" Bundle.steD
      · rw [e3]; exact lU
      · by_cases e4 : w = .laysStatic Bundle.tN "SUPPRESSED_SENTINEL" Bundle.listD
        · rw [e4]; exact lN
        · exact h1 w (List.mem_filter.mpr ⟨hw, by unfold vx_no; rw [decide_eq_true e1, decide_eq_true e2, decide_eq_true e3, decide_eq_true e4]; rfl⟩)
/-- where a static field lies, its class's statics cell in H -/
def vx_L (C n d : String) (A : Nat → Prop) (U : State) (H : Heap) : Prop := ∃ (c : ClassId) (k : Class) (i : Nat) (f : Field) (a : Nat) (cell : Cell), U.vm.findClass C = some c ∧ U.fieldFound? C n d = some (c, k, i, f) ∧ f.isStatic = true ∧ k.statics = some a ∧ H[a]? = some cell ∧ cell.vm.isStatics = true ∧ cell.cls = c ∧ f.slot < cell.slots.size ∧ k.staticTypes[f.slot]? = some f.type ∧ ¬ A a
theorem vx_L.moved {C n d : String} {A : Nat → Prop} {u U : State} {H : Heap} (hvm : u.vm.Alike U.vm) (h : vx_L C n d A u H) : vx_L C n d A U H := by
  obtain ⟨c, k, i, f, a, cell, h1, h2, h3, h4, h5, h6, h7, h8, h9, h10⟩ := h
  obtain ⟨k', hi', he⟩ := State.fieldFound?_setVm hvm h2
  exact ⟨c, k', i, f, a, cell, by rw [hvm.findClass]; exact h1, hi', h3, by rw [he]; exact h4, h5, h6, h7, h8, by rw [he]; exact h9, h10⟩
theorem vx_L.kept {C n d : String} {A : Nat → Prop} {U : State} {H H1 : Heap} (h : vx_L C n d A U H) (hq : ∀ a : Nat, a < H.size → ¬ A a → H1[a]? = H[a]?) : vx_L C n d A U H1 := by
  obtain ⟨c, k, i, f, a, cell, h1, h2, h3, h4, h5, h6, h7, h8, h9, h10⟩ := h
  exact ⟨c, k, i, f, a, cell, h1, h2, h3, h4, by rw [hq a (Array.getElem?_eq_some_iff.mp h5).1 h10]; exact h5, h6, h7, h8, h9, h10⟩
theorem vx_L.narrow {C n d : String} {A B : Nat → Prop} {U : State} {H : Heap} (h : vx_L C n d A U H) (hAB : ∀ q, B q → A q) : vx_L C n d B U H := by
  obtain ⟨c, k, i, f, a, cell, h1, h2, h3, h4, h5, h6, h7, h8, h9, h10⟩ := h
  exact ⟨c, k, i, f, a, cell, h1, h2, h3, h4, h5, h6, h7, h8, h9, fun z => h10 (hAB _ z)⟩
theorem vx_L.word {C n d : String} {A : Nat → Prop} {s : State} {args : Array Value} (h : vx_L C n d A s s.heap) : (Cond.laysStatic C n d).before args s = true := by
  obtain ⟨c, k, i, f, a, cell, h1, h2, h3, h4, h5, h6, h7, h8, h9, -⟩ := h
  show (Cond.laysStatic C n d).holds args s none s [] = true
  exact Cond.laysStatic_of h1 h2 h3 h4 h5 h6 h7 h8 h9
/-- .. and what it holds: null or some reference -/
def vx_Zq (C n d : String) (A : Nat → Prop) (U : State) (H : Heap) : Prop := va_Zq C n d A U H ∧ vx_L C n d A U H
theorem vx_Zq.moved {C n d : String} {A : Nat → Prop} {u U : State} {H : Heap} (hvm : u.vm.Alike U.vm) (h : vx_Zq C n d A u H) : vx_Zq C n d A U H := ⟨va_Zq.moved hvm h.1, vx_L.moved hvm h.2⟩
theorem vx_Zq.kept {C n d : String} {A : Nat → Prop} {U : State} {H H1 : Heap} (h : vx_Zq C n d A U H) (hq : ∀ a : Nat, a < H.size → ¬ A a → H1[a]? = H[a]?) : vx_Zq C n d A U H1 := ⟨va_Zq.kept h.1 hq, vx_L.kept h.2 hq⟩
theorem vx_Zq.narrow {C n d : String} {A B : Nat → Prop} {U : State} {H : Heap} (h : vx_Zq C n d A U H) (hAB : ∀ q, B q → A q) : vx_Zq C n d B U H := ⟨va_Zq.narrow h.1 hAB, vx_L.narrow h.2 hAB⟩
theorem vx_Zqof {args : Array Value} {s : State} {C n d : String} {A : Nat → Prop} (hl : (Cond.laysStatic C n d).before args s = true) (hini : (Cond.initialized C).before args s = true) (h : (Cond.isRef (.static C n d)).before args s = true) (hA : ∀ a : Nat, a < s.heap.size → ¬ A a) : vx_Zq C n d A s s.heap := by
  refine ⟨va_Zqof hl hini h hA, ?_⟩
  obtain ⟨c, k, i, f, a, cell, h1, h2, h3, h4, h5, h6, h7, h8, h9⟩ := Cond.laysStatic_spec hl
  exact ⟨c, k, i, f, a, cell, h1, h2, h3, h4, h5, h6, h7, h8, h9, hA a (Array.getElem?_eq_some_iff.mp h5).1⟩
theorem vx_isRef {C n d : String} {v : Value} {A : Nat → Prop} {s : State} {args : Array Value} (h : va_Z C n d v A s s.heap) (hv : v.isRef = true) : (Cond.isRef (.static C n d)).before args s = true := by
  obtain ⟨cf, kf, fi, f, a, cell, h1, h2, h3, h4, h5, h6, h7, -⟩ := h
  have he : (Term.static C n d).eval args s none [] s = some v := by
    simp [Term.eval, State.fieldNamed?, h1, h2, h4, h5, h6, h7]
  simp only [Cond.before, Cond.holds, Cond.value, he]
  cases v <;> simp_all [Value.isRef]
theorem vx_isRefq {C n d : String} {A : Nat → Prop} {s : State} {args : Array Value} (h : va_Zq C n d A s s.heap) : (Cond.isRef (.static C n d)).before args s = true := by
  rcases h with h | ⟨t, h⟩
  · exact vx_isRef h rfl
  · exact vx_isRef h rfl
/-- the same frame, seen from here: as if the method were called anew in this heap -/
theorem vx_rebase {T : State} (X : Stand p l e R s m args below meth c T locs cells slots) {R' : Room} (hf : R'.frames ≤ R.frames) (hl : R'.locals ≤ R.locals) (hc : cells + R'.cells ≤ R.cells) (hs : slots + R'.slots ≤ R.slots) :
    Stand p l e R' ((T.setVm s.vm).setFrames (.invoking m args :: below)) m args below meth c T [] 0 0 := by
  have htop : (T.setVm s.vm).topJava?.isSome := X.here.top
  have hF : ((T.setVm s.vm).setFrames (.invoking m args :: below)).frames = .invoking m args :: below := State.frames_setFrames _ (State.cur_lt_of_top htop)
  obtain ⟨g₀, hg0⟩ := Option.isSome_iff_exists.mp htop
  obtain ⟨r, hr⟩ := State.topJava?_eq_some.mp hg0
  have hl9 : e.platform.stackLimits (T.setVm s.vm).me = e.platform.stackLimits s.me := X.limits
  have hb9 : (T.setVm s.vm).me.stackBytes = s.me.stackBytes := X.bytes
  refine ⟨X.admits, X.cas, X.clock, hF, ?_, X.hears, X.method, X.code, X.here, X.tail, X.warmed, ?_, ?_, ?_⟩
  · have h := X.room
    have hU : ((T.setVm s.vm).setFrames (.invoking m args :: below)).localsInUse = s.localsInUse := by
      rw [State.localsInUse_invoking hF (meth := meth) (c := c) X.method X.code, State.localsInUse_invoking X.frames X.method X.code]
    simp only [State.hasRoom, Bool.and_eq_true, decide_eq_true_eq] at h ⊢
    obtain ⟨⟨⟨⟨h1, h2, h3, h4, h5, h6⟩, h7⟩, h8⟩, h9⟩ := h
    rw [X.frames, List.length_cons] at h2 h3
    have q1 := X.heapSize
    have q2 := X.used
    simp only [hF, hU, List.length_cons, State.stackLimits_setFrames, State.stackBytes_setFrames, hl9, hb9]
    refine ⟨⟨⟨⟨by omega, by omega, by omega, by omega, by omega, h6⟩, ?_⟩, ?_⟩, X.book⟩
    · show T.heap.size + R'.cells ≤ e.platform.maxCells
      omega
    · show T.slotsUsed + R'.slots ≤ e.platform.maxSlots
      omega
  · rw [State.stackLimits_setFrames]; rfl
  · rw [State.stackBytes_setFrames]; rfl
  · refine ⟨?_, Nat.le_refl _, Nat.le_refl _, ?_, ?_, fun a c9 h9 => ⟨c9, h9, rfl, rfl, fun _ _ => rfl⟩⟩
    · obtain ⟨t, ht, -⟩ := State.frames_cons hr
      show T.setVm s.vm = { ((T.setVm s.vm).setFrames (.invoking m args :: below)).setFrames (T.setVm s.vm).frames with heap := T.heap, slotsUsed := T.slotsUsed }
      rw [State.setFrames_setFrames, State.setFrames_self ht]
      rfl
    · show T.slotsUsed = T.slotsUsed + ((T.heap.toList.drop T.heap.size).map (·.slots.size)).sum
      rw [List.drop_eq_nil_of_le (Nat.le_of_eq Array.length_toList)]
      rfl
    · show ((T.heap.toList.drop T.heap.size).map (·.slots.size)).sum ≤ 0
      rw [List.drop_eq_nil_of_le (Nat.le_of_eq Array.length_toList)]
      exact Nat.le_refl _
/-- 'throw new E()': new; dup; invokespecial; athrow -/
theorem vx_throw0 {cc : ByteArray} {pc : Nat} (hexec : p.tables.exec = Jvm.exec) (hb : c.code = cc) (hl : l.stackTraces = false) {own cls : String} {names : List String} {ik ic mc ms : Nat} {A : Nat → Prop}
    (hown : s.vm.findClass own = some m.cls) (hcls : Bundle.fit cls = true) (hnames : ∀ n ∈ names, Bundle.fit n = true)
    (hk : (Cond.classLink own ik cls).before args s = true) (hini : (Cond.initialized cls).before args s = true) (hat : ∀ w ∈ vx_at0 own ic cls names, w.before args s = true)
    (hgood : ∀ w ∈ Cond.classLink own ik cls :: Cond.initialized cls :: vx_at0 own ic cls names, vx_ot w = true)
    (hU : vx_Zq Bundle.tN "UNASSIGNED_STACK" Bundle.steD A s s.heap) (hN : vx_Zq Bundle.tN "SUPPRESSED_SENTINEL" Bundle.listD A s s.heap) (hS : va_S A s.heap H locs) (hsize : ls.size = c.maxLocals)
    (d0 : decode cc pc = .ok (.new ik, 3)) (d3 : decode cc (pc + 3) = .ok (.dup, 1)) (d4 : decode cc (pc + 4) = .ok (.invokespecial ic, 3)) (d7 : decode cc (pc + 7) = .ok (.athrow, 1))
    (hout : ∀ x ∈ c.exceptionTable.toList, covers x (pc + 7) = false)
    (hRframes : names.length + 3 < R.frames) (hRlocals : (rest.map fun v => v.category).sum + (13 * (names.length + 1) + 42) ≤ R.locals) (hRcells : cells + 1 ≤ R.cells) (hRslots : slots + 6 ≤ R.slots) (hlocks : meth.locks = false)
    (hx : ∀ t : State, s.vm.Alike t.vm → H.size ≤ t.heap.size → (∀ q : Nat, q < H.size → t.heap[q]? = H[q]?) → XC cls s t)
    (hf : ∀ z ∈ locs, free z.base) (hc : cells + 1 ≤ mc) (hs : slots + 6 ≤ ms) :
    W p l e R s m args below meth c H locs cells slots (vx_MQ below Qc XC args s mc ms free) (F0 m pc ls rest) := by
  intro T hT X
  have htr : e.platform.stackTraces = false := (show e.platform.stackTraces = l.stackTraces by rw [X.admits.platform]).trans hl
  have Y := vx_rebase X (R' := { frames := R.frames, locals := R.locals, cells := 1, slots := 6 }) (Nat.le_refl _) (Nat.le_refl _) hRcells hRslots
  obtain ⟨s', hA⟩ : ∃ z, z = (T.setVm s.vm).setFrames (.invoking m args :: below) := ⟨_, rfl⟩
  rw [← hA] at Y
  have hvm : s'.vm = s.vm := by rw [hA]; rfl
  have hhp : s'.heap = H := by rw [hA]; exact hT
  have hW0 : s.WarmedH s'.vm := by rw [hvm]; exact State.WarmedH.refl s
  have hat' : ∀ w ∈ vx_at0 own ic cls names, w.before args s' = true := fun w hw => vx_ot_at hW0 hvm.symm (hgood w (List.mem_cons_of_mem _ (List.mem_cons_of_mem _ hw))) (hat w hw)
  have hk' : (Cond.classLink own ik cls).before args s' = true := vx_ot_at hW0 hvm.symm (hgood _ List.mem_cons_self) hk
  have hini' : (Cond.initialized cls).before args s' = true := vx_ot_at hW0 hvm.symm (hgood _ (List.mem_cons_of_mem _ List.mem_cons_self)) hini
  have hU' : vx_Zq Bundle.tN "UNASSIGNED_STACK" Bundle.steD A s' s'.heap := by rw [hhp]; exact vx_Zq.moved hW0.alike (hU.kept hS.2.1)
  have hN' : vx_Zq Bundle.tN "SUPPRESSED_SENTINEL" Bundle.listD A s' s'.heap := by rw [hhp]; exact vx_Zq.moved hW0.alike (hN.kept hS.2.1)
  have h : ∀ w ∈ Bundle.ownAtoms0 own ic cls names, w.before args s' = true := vx_own hat' (vx_isRefq hU'.1) (vx_isRefq hN'.1) hU'.2.word hN'.2.word
  have hown' : s'.vm.findClass own = some m.cls := by rw [hvm]; exact hown
  have hins : (Cond.instantiable cls 6).before args s' = true := h _ (by simp [Bundle.ownAtoms0])
  obtain ⟨vm₁, cX, kX, hfX, hkX, -, -, X₁, st1⟩ := Y.newCold hexec (own := own) (C := cls) (index := ik) (n := 6) hown' hk' hins hini'
    (g := F0 m pc ls rest) rfl (by rw [hb]; exact d0) (Nat.le_refl _) (Nat.le_refl _)
  generalize hT1 : (T.setVm vm₁).pushCell { cls := cX, slots := kX.instanceTypes.map defaultValue, vm := .none } = T1 at X₁ st1
  have hcat : (Value.ref T.heap.size).category = 1 := rfl
  have hcellA : T1.heap[T.heap.size]? = some (freshCell cX kX) := by rw [← hT1]; exact State.heap_pushCell_size _ _
  have d3' : decode c.code (pc + 3) = .ok (.dup, 1) := by rw [hb]; exact d3
  obtain ⟨U, hsteps, hrun, hend, hW, hsame, ce, hce, hO⟩ := X₁.ctorThrow0 hexec htr (own := own) (cls := cls) (names := names) (ic := ic) hown' hcls hnames h (fun x hx => nomatch hx) hfX hkX hcellA (by rw [hhp, hT]; exact Nat.le_refl _)
    (g := { method := m, pc := pc + 4, locals := ls, stack := .ref T.heap.size :: .ref T.heap.size :: rest, locked := none }) rfl hsize rfl rfl (rest := rest) rfl
    (by rw [hb]; exact d4) (by rw [hb]; exact d7) hout hRframes (by simp only [List.map_cons, List.sum_cons, hcat]; omega) hlocks
  obtain ⟨f1, f2⟩ := vx_frame hsame
  rw [hhp] at f1 f2
  have hWs : s.WarmedH U.vm := State.WarmedH.trans hW0 hW
  have hcl : s.vm.findClass cls = some ce.cls := by
    have h9 := hO.cls
    rw [hvm] at h9
    exact h9
  have hall : s.sameButNew ({ U with vm := s.vm } : State) locs mc ms := by
    subst hA
    obtain ⟨e1, e2⟩ := hsame
    rw [State.setFrames_setFrames] at e1
    have h2 : (T.setVm s.vm).sameButNew ({ U with vm := s.vm } : State) [] (0 + 1) (0 + 6) := ⟨e1, e2⟩
    have h3 := X.same.trans h2
    rw [List.append_nil] at h3
    exact h3.mono hc hs
  refine ⟨U, ?_, .threw T.heap.size, hrun, hend, Or.inr ⟨T.heap.size, rfl, cls, ce, locs, hx U hWs.alike f1 (fun q hq => f2 q hq (fun z hz => nomatch hz)), hce, hO.vm, hcl, hWs, hall, hf⟩⟩
  refine st1 _ ?_
  show Steps p.tables e below (T1.setTop { method := m, pc := pc + 3, locals := ls, stack := .ref T.heap.size :: rest, locked := none }) _
  jvm_step X₁.here [X₁.here.top, hexec, d3', Value.category]
  exact hsteps
/-- 'throw new E("text")': new; dup; ldc; invokespecial; athrow -/
theorem vx_throwS {cc : ByteArray} {pc : Nat} (hexec : p.tables.exec = Jvm.exec) (hb : c.code = cc) (hl : l.stackTraces = false) {own cls text : String} {names : List String} {ik is ic mc ms sa : Nat} {A : Nat → Prop}
    (hown : s.vm.findClass own = some m.cls) (hcls : Bundle.fit cls = true) (hnames : ∀ n ∈ names, Bundle.fit n = true)
    (hk : (Cond.classLink own ik cls).before args s = true) (hini : (Cond.initialized cls).before args s = true) (hstr : vk_R own is text sa s) (hat : ∀ w ∈ vx_atS own ic cls names, w.before args s = true)
    (hgood : ∀ w ∈ Cond.classLink own ik cls :: Cond.initialized cls :: vx_atS own ic cls names, vx_ot w = true)
    (hU : vx_Zq Bundle.tN "UNASSIGNED_STACK" Bundle.steD A s s.heap) (hN : vx_Zq Bundle.tN "SUPPRESSED_SENTINEL" Bundle.listD A s s.heap) (hS : va_S A s.heap H locs) (hsize : ls.size = c.maxLocals)
    (d0 : decode cc pc = .ok (.new ik, 3)) (d3 : decode cc (pc + 3) = .ok (.dup, 1)) (d4 : decode cc (pc + 4) = .ok (.ldc is, 2)) (d6 : decode cc (pc + 6) = .ok (.invokespecial ic, 3)) (d9 : decode cc (pc + 9) = .ok (.athrow, 1))
    (hout : ∀ x ∈ c.exceptionTable.toList, covers x (pc + 9) = false)
    (hRframes : names.length + 3 < R.frames) (hRlocals : (rest.map fun v => v.category).sum + (13 * (names.length + 1) + 43) ≤ R.locals) (hRcells : cells + 1 ≤ R.cells) (hRslots : slots + 6 ≤ R.slots) (hlocks : meth.locks = false)
    (hx : ∀ t : State, s.vm.Alike t.vm → H.size ≤ t.heap.size → (∀ q : Nat, q < H.size → t.heap[q]? = H[q]?) → XC cls s t)
    (hf : ∀ z ∈ locs, free z.base) (hc : cells + 1 ≤ mc) (hs : slots + 6 ≤ ms) :
    W p l e R s m args below meth c H locs cells slots (vx_MQ below Qc XC args s mc ms free) (F0 m pc ls rest) := by
  intro T hT X
  have htr : e.platform.stackTraces = false := (show e.platform.stackTraces = l.stackTraces by rw [X.admits.platform]).trans hl
  have Y := vx_rebase X (R' := { frames := R.frames, locals := R.locals, cells := 1, slots := 6 }) (Nat.le_refl _) (Nat.le_refl _) hRcells hRslots
  obtain ⟨s', hA⟩ : ∃ z, z = (T.setVm s.vm).setFrames (.invoking m args :: below) := ⟨_, rfl⟩
  rw [← hA] at Y
  have hvm : s'.vm = s.vm := by rw [hA]; rfl
  have hhp : s'.heap = H := by rw [hA]; exact hT
  have hW0 : s.WarmedH s'.vm := by rw [hvm]; exact State.WarmedH.refl s
  have hat' : ∀ w ∈ vx_atS own ic cls names, w.before args s' = true := fun w hw => vx_ot_at hW0 hvm.symm (hgood w (List.mem_cons_of_mem _ (List.mem_cons_of_mem _ hw))) (hat w hw)
  have hk' : (Cond.classLink own ik cls).before args s' = true := vx_ot_at hW0 hvm.symm (hgood _ List.mem_cons_self) hk
  have hini' : (Cond.initialized cls).before args s' = true := vx_ot_at hW0 hvm.symm (hgood _ (List.mem_cons_of_mem _ List.mem_cons_self)) hini
  have hU' : vx_Zq Bundle.tN "UNASSIGNED_STACK" Bundle.steD A s' s'.heap := by rw [hhp]; exact vx_Zq.moved hW0.alike (hU.kept hS.2.1)
  have hN' : vx_Zq Bundle.tN "SUPPRESSED_SENTINEL" Bundle.listD A s' s'.heap := by rw [hhp]; exact vx_Zq.moved hW0.alike (hN.kept hS.2.1)
  have h : ∀ w ∈ Bundle.ownAtoms own ic cls names, w.before args s' = true := vx_own hat' (vx_isRefq hU'.1) (vx_isRefq hN'.1) hU'.2.word hN'.2.word
  have hown' : s'.vm.findClass own = some m.cls := by rw [hvm]; exact hown
  have hins : (Cond.instantiable cls 6).before args s' = true := h _ (by simp [Bundle.ownAtoms])
  obtain ⟨vm₁, cX, kX, hfX, hkX, -, -, X₁, st1⟩ := Y.newCold hexec (own := own) (C := cls) (index := ik) (n := 6) hown' hk' hins hini'
    (g := F0 m pc ls rest) rfl (by rw [hb]; exact d0) (Nat.le_refl _) (Nat.le_refl _)
  generalize hT1 : (T.setVm vm₁).pushCell { cls := cX, slots := kX.instanceTypes.map defaultValue, vm := .none } = T1 at X₁ st1
  have hcat : (Value.ref T.heap.size).category = 1 := rfl
  have hcellA : T1.heap[T.heap.size]? = some (freshCell cX kX) := by rw [← hT1]; exact State.heap_pushCell_size _ _
  have d3' : decode c.code (pc + 3) = .ok (.dup, 1) := by rw [hb]; exact d3
  have d4' : decode c.code (pc + 4) = .ok (.ldc is, 2) := by rw [hb]; exact d4
  have hstr' : vk_R own is text sa s' := vk_R.warm hW0 hstr
  obtain ⟨U, hsteps, hrun, hend, hW, hsame, ce, hce, hO⟩ := X₁.ctorThrowS hexec htr (own := own) (cls := cls) (names := names) (ic := ic) hown' hcls hnames h (fun x hx => nomatch hx) hfX hkX hcellA (by rw [hhp, hT]; exact Nat.le_refl _) (msg := .ref sa) rfl
    (g := { method := m, pc := pc + 6, locals := ls, stack := .ref sa :: .ref T.heap.size :: .ref T.heap.size :: rest, locked := none }) rfl hsize rfl rfl (rest := rest) rfl
    (by rw [hb]; exact d6) (by rw [hb]; exact d9) hout hRframes (by simp only [List.map_cons, List.sum_cons, hcat]; omega) hlocks
  obtain ⟨f1, f2⟩ := vx_frame hsame
  rw [hhp] at f1 f2
  have hWs : s.WarmedH U.vm := State.WarmedH.trans hW0 hW
  have hcl : s.vm.findClass cls = some ce.cls := by
    have h9 := hO.cls
    rw [hvm] at h9
    exact h9
  have hall : s.sameButNew ({ U with vm := s.vm } : State) locs mc ms := by
    subst hA
    obtain ⟨e1, e2⟩ := hsame
    rw [State.setFrames_setFrames] at e1
    have h2 : (T.setVm s.vm).sameButNew ({ U with vm := s.vm } : State) [] (0 + 1) (0 + 6) := ⟨e1, e2⟩
    have h3 := X.same.trans h2
    rw [List.append_nil] at h3
    exact h3.mono hc hs
  refine ⟨U, ?_, .threw T.heap.size, hrun, hend, Or.inr ⟨T.heap.size, rfl, cls, ce, locs, hx U hWs.alike f1 (fun q hq => f2 q hq (fun z hz => nomatch hz)), hce, hO.vm, hcl, hWs, hall, hf⟩⟩
  refine st1 _ ?_
  show Steps p.tables e below (T1.setTop { method := m, pc := pc + 3, locals := ls, stack := .ref T.heap.size :: rest, locked := none }) _
  jvm_step X₁.here [X₁.here.top, hexec, d3', Value.category]
  exact X₁.ldcString hexec (own := own) (text := text) (index := is) (a := sa) hown' hstr'.1 hstr'.2
    (g := { method := m, pc := pc + 4, locals := ls, stack := .ref T.heap.size :: .ref T.heap.size :: rest, locked := none }) rfl d4' _ hsteps
/-- 'throw new E("text")', the text by a wide index -/
theorem vx_throwSW {cc : ByteArray} {pc : Nat} (hexec : p.tables.exec = Jvm.exec) (hb : c.code = cc) (hl : l.stackTraces = false) {own cls text : String} {names : List String} {ik is ic mc ms sa : Nat} {A : Nat → Prop}
    (hown : s.vm.findClass own = some m.cls) (hcls : Bundle.fit cls = true) (hnames : ∀ n ∈ names, Bundle.fit n = true)
    (hk : (Cond.classLink own ik cls).before args s = true) (hini : (Cond.initialized cls).before args s = true) (hstr : vk_R own is text sa s) (hat : ∀ w ∈ vx_atS own ic cls names, w.before args s = true)
    (hgood : ∀ w ∈ Cond.classLink own ik cls :: Cond.initialized cls :: vx_atS own ic cls names, vx_ot w = true)
    (hU : vx_Zq Bundle.tN "UNASSIGNED_STACK" Bundle.steD A s s.heap) (hN : vx_Zq Bundle.tN "SUPPRESSED_SENTINEL" Bundle.listD A s s.heap) (hS : va_S A s.heap H locs) (hsize : ls.size = c.maxLocals)
    (d0 : decode cc pc = .ok (.new ik, 3)) (d3 : decode cc (pc + 3) = .ok (.dup, 1)) (d4 : decode cc (pc + 4) = .ok (.ldc_w is, 3)) (d7 : decode cc (pc + 7) = .ok (.invokespecial ic, 3)) (d10 : decode cc (pc + 10) = .ok (.athrow, 1))
    (hout : ∀ x ∈ c.exceptionTable.toList, covers x (pc + 10) = false)
    (hRframes : names.length + 3 < R.frames) (hRlocals : (rest.map fun v => v.category).sum + (13 * (names.length + 1) + 43) ≤ R.locals) (hRcells : cells + 1 ≤ R.cells) (hRslots : slots + 6 ≤ R.slots) (hlocks : meth.locks = false)
    (hx : ∀ t : State, s.vm.Alike t.vm → H.size ≤ t.heap.size → (∀ q : Nat, q < H.size → t.heap[q]? = H[q]?) → XC cls s t)
    (hf : ∀ z ∈ locs, free z.base) (hc : cells + 1 ≤ mc) (hs : slots + 6 ≤ ms) :
    W p l e R s m args below meth c H locs cells slots (vx_MQ below Qc XC args s mc ms free) (F0 m pc ls rest) := by
  intro T hT X
  have htr : e.platform.stackTraces = false := (show e.platform.stackTraces = l.stackTraces by rw [X.admits.platform]).trans hl
  have Y := vx_rebase X (R' := { frames := R.frames, locals := R.locals, cells := 1, slots := 6 }) (Nat.le_refl _) (Nat.le_refl _) hRcells hRslots
  obtain ⟨s', hA⟩ : ∃ z, z = (T.setVm s.vm).setFrames (.invoking m args :: below) := ⟨_, rfl⟩
  rw [← hA] at Y
  have hvm : s'.vm = s.vm := by rw [hA]; rfl
  have hhp : s'.heap = H := by rw [hA]; exact hT
  have hW0 : s.WarmedH s'.vm := by rw [hvm]; exact State.WarmedH.refl s
  have hat' : ∀ w ∈ vx_atS own ic cls names, w.before args s' = true := fun w hw => vx_ot_at hW0 hvm.symm (hgood w (List.mem_cons_of_mem _ (List.mem_cons_of_mem _ hw))) (hat w hw)
  have hk' : (Cond.classLink own ik cls).before args s' = true := vx_ot_at hW0 hvm.symm (hgood _ List.mem_cons_self) hk
  have hini' : (Cond.initialized cls).before args s' = true := vx_ot_at hW0 hvm.symm (hgood _ (List.mem_cons_of_mem _ List.mem_cons_self)) hini
  have hU' : vx_Zq Bundle.tN "UNASSIGNED_STACK" Bundle.steD A s' s'.heap := by rw [hhp]; exact vx_Zq.moved hW0.alike (hU.kept hS.2.1)
  have hN' : vx_Zq Bundle.tN "SUPPRESSED_SENTINEL" Bundle.listD A s' s'.heap := by rw [hhp]; exact vx_Zq.moved hW0.alike (hN.kept hS.2.1)
  have h : ∀ w ∈ Bundle.ownAtoms own ic cls names, w.before args s' = true := vx_own hat' (vx_isRefq hU'.1) (vx_isRefq hN'.1) hU'.2.word hN'.2.word
  have hown' : s'.vm.findClass own = some m.cls := by rw [hvm]; exact hown
  have hins : (Cond.instantiable cls 6).before args s' = true := h _ (by simp [Bundle.ownAtoms])
  obtain ⟨vm₁, cX, kX, hfX, hkX, -, -, X₁, st1⟩ := Y.newCold hexec (own := own) (C := cls) (index := ik) (n := 6) hown' hk' hins hini'
    (g := F0 m pc ls rest) rfl (by rw [hb]; exact d0) (Nat.le_refl _) (Nat.le_refl _)
  generalize hT1 : (T.setVm vm₁).pushCell { cls := cX, slots := kX.instanceTypes.map defaultValue, vm := .none } = T1 at X₁ st1
  have hcat : (Value.ref T.heap.size).category = 1 := rfl
  have hcellA : T1.heap[T.heap.size]? = some (freshCell cX kX) := by rw [← hT1]; exact State.heap_pushCell_size _ _
  have d3' : decode c.code (pc + 3) = .ok (.dup, 1) := by rw [hb]; exact d3
  have d4' : decode c.code (pc + 4) = .ok (.ldc_w is, 3) := by rw [hb]; exact d4
  have hstr' : vk_R own is text sa s' := vk_R.warm hW0 hstr
  obtain ⟨U, hsteps, hrun, hend, hW, hsame, ce, hce, hO⟩ := X₁.ctorThrowS hexec htr (own := own) (cls := cls) (names := names) (ic := ic) hown' hcls hnames h (fun x hx => nomatch hx) hfX hkX hcellA (by rw [hhp, hT]; exact Nat.le_refl _) (msg := .ref sa) rfl
    (g := { method := m, pc := pc + 7, locals := ls, stack := .ref sa :: .ref T.heap.size :: .ref T.heap.size :: rest, locked := none }) rfl hsize rfl rfl (rest := rest) rfl
    (by rw [hb]; exact d7) (by rw [hb]; exact d10) hout hRframes (by simp only [List.map_cons, List.sum_cons, hcat]; omega) hlocks
  obtain ⟨f1, f2⟩ := vx_frame hsame
  rw [hhp] at f1 f2
  have hWs : s.WarmedH U.vm := State.WarmedH.trans hW0 hW
  have hcl : s.vm.findClass cls = some ce.cls := by
    have h9 := hO.cls
    rw [hvm] at h9
    exact h9
  have hall : s.sameButNew ({ U with vm := s.vm } : State) locs mc ms := by
    subst hA
    obtain ⟨e1, e2⟩ := hsame
    rw [State.setFrames_setFrames] at e1
    have h2 : (T.setVm s.vm).sameButNew ({ U with vm := s.vm } : State) [] (0 + 1) (0 + 6) := ⟨e1, e2⟩
    have h3 := X.same.trans h2
    rw [List.append_nil] at h3
    exact h3.mono hc hs
  refine ⟨U, ?_, .threw T.heap.size, hrun, hend, Or.inr ⟨T.heap.size, rfl, cls, ce, locs, hx U hWs.alike f1 (fun q hq => f2 q hq (fun z hz => nomatch hz)), hce, hO.vm, hcl, hWs, hall, hf⟩⟩
  refine st1 _ ?_
  show Steps p.tables e below (T1.setTop { method := m, pc := pc + 3, locals := ls, stack := .ref T.heap.size :: rest, locked := none }) _
  jvm_step X₁.here [X₁.here.top, hexec, d3', Value.category]
  exact X₁.ldcStringW hexec (own := own) (text := text) (index := is) (a := sa) hown' hstr'.1 hstr'.2
    (g := { method := m, pc := pc + 4, locals := ls, stack := .ref T.heap.size :: .ref T.heap.size :: rest, locked := none }) rfl d4' _ hsteps
end Ends
section Bodies
variable {l : Launch}
theorem vx_ofW {y : MethodName} {ws ws' : List Cond} {rm : Room} {Pc : Array Value → State → Prop} {Qc : Array Value → State → Outcome → State → Prop} {XC : String → State → State → Prop} {mc ms : Nat} {free : Addr → Prop} {cc : ByteArray} {maxL : Nat} {ret : Option FieldType}
    (hy : plainName y.cls = true) (hw : ws = Cond.code y cc maxL ret :: ws')
    (body : ∀ p e s m args below meth c s₁, BodyLoose p l y (headSpec ws rm) cc maxL ret e s m args below meth c s₁ → c.maxLocals = maxL → (∀ x ∈ c.exceptionTable.toList, False) → Pc args s →
      W p l e (headSpec ws rm).room s m args below meth c s.heap [] 0 0 (vx_MQ below Qc XC args s mc ms free) (entryFrame m args maxL)) : vx_Met l y ws rm Pc Qc XC mc ms free := by
  refine MetFree.of_bodyS (code := cc) (maxLocals := maxL) (ret := ret) hy ?_ ?_
  · intro args s m h hn
    obtain ⟨meth, c, h1, h2, h3, h4, h5, h6, -, -⟩ := Cond.code_spec hn (atoms_spec (ws := ws) h _ (by rw [hw]; exact List.mem_cons_self))
    exact ⟨meth, c, h1, h2, h3, h4, h5, h6⟩
  · intro p e s m args below meth c s₁ B hml hP _
    have hh0 : s₁.heap = s.heap := by rw [B.state]; rfl
    have ht : ∀ x ∈ c.exceptionTable.toList, False := by
      obtain ⟨meth9, c9, h1, h2, -, -, -, -, h7, -⟩ := Cond.code_spec B.named (atoms_spec (ws := ws) B.pre _ (by rw [hw]; exact List.mem_cons_self))
      cases Option.some.inj (h1.symm.trans B.method)
      cases Option.some.inj (h2.symm.trans (Stand.of_body B).code)
      intro x hx
      rw [Array.isEmpty_iff.mp h7] at hx
      cases hx
    obtain ⟨t, a1, o, b1, b2, b3⟩ := body p e s m args below meth c s₁ B hml ht hP s₁ hh0 (Stand.of_body B)
    exact ⟨t, o, a1, b1, b2, b3⟩
/-- the table of a body with handlers -/
theorem vx_table {p : Program} {x y : MethodName} {S : Spec} {cc bytes : ByteArray} {maxL maxL' : Nat} {ret ret' : Option FieldType} {e : Env} {s s₁ : State} {m : MethodId} {args : Array Value} {below : List Frame} {meth : Method} {c : Code} {hh : List (Nat × Nat × Nat × Nat)}
    (B : BodyLoose p l y S cc maxL ret e s m args below meth c s₁) (h : (Cond.codeWith y bytes maxL' ret' hh).before args s = true) : c.exceptionTable.toList = tableOf hh := by
  obtain ⟨m9, meth9, c9, hn9, h1, h2, -, -, h6, -⟩ := Cond.codeWith_spec h
  cases Option.some.inj (hn9.symm.trans B.named)
  cases Option.some.inj (h1.symm.trans B.method)
  cases Option.some.inj (h2.symm.trans (Stand.of_body B).code)
  rw [← h6, table_eq]
end Bodies
end VXA
/-! ===== END ===== -/
/-! ===== BEGIN a static call of a method with an exception table ===== -/
section VXS
variable {p : Program} {l : Launch} {e : Env} {R : Room} {s : State} {m : MethodId} {args : Array Value} {below : List Frame} {meth : Method} {c : Code} {T : State} {H : Heap} {locs : List Loc} {cells slots : Nat}
abbrev vx_CSW (R : Room) (s : State) (args : Array Value) (own : String) (index : Nat) (y : MethodName) (bytes : ByteArray) (maxL : Nat) (ret : Option FieldType) (hh : List (Nat × Nat × Nat × Nat)) (ws : List Cond) (rm : Room) (mc ms n : Nat) : Prop :=
  (rm.cells = mc ∧ rm.slots = ms ∧ rm.frames + 1 ≤ R.frames ∧ 8 + (maxL + 11) + rm.locals ≤ R.locals ∧ (∀ w ∈ ws, ∀ (a' : Array Value) (U : State), s.WarmedH U.vm → w.before a' U = true) ∧ Cond.codeWith y bytes maxL ret hh ∈ ws) ∧
  (Cond.codeWith y bytes maxL ret hh).before args s = true ∧ (Cond.initialized y.cls).before args s = true ∧ (y.cls ≠ "java/lang/invoke/MethodHandle" ∧ y.cls ≠ "java/lang/invoke/VarHandle") ∧
  (∀ sig, parseMethodDescriptor y.desc = some sig → n = sig.parameters.length) ∧ (Cond.methodLink own index y).before args s = true ∧ (Cond.static y).before args s = true
theorem vx_cwSW {own : String} {index maxL mc ms : Nat} {y : MethodName} {bytes : ByteArray} {ret : Option FieldType} {hh : List (Nat × Nat × Nat × Nat)} {Ts ws ws' : List Cond} {rm : Room} (n : Nat) (ht : ∀ w ∈ Ts, w.before args s = true) (hT : GoodIn Ts (va_wsS own index y ws)) (hw : ws = Cond.codeWith y bytes maxL ret hh :: ws') (hrc : rm.cells = mc) (hrs : rm.slots = ms)
    (hd : y.cls ≠ "java/lang/invoke/MethodHandle" ∧ y.cls ≠ "java/lang/invoke/VarHandle" ∧ (parseMethodDescriptor y.desc).map (fun d => d.parameters.length) = some n) (hR : rm.frames + 1 ≤ R.frames ∧ 8 + (maxL + 11) + rm.locals ≤ R.locals) :
    vx_CSW R s args own index y bytes maxL ret hh ws rm mc ms n := by
  have ok : ∀ w ∈ va_wsS own index y ws, w.before args s = true := fun w h => ht w (hT w h).1
  have hG : GoodIn Ts ws := fun w h => hT w (by unfold va_wsS; exact List.mem_append_right _ h)
  have hc : Cond.codeWith y bytes maxL ret hh ∈ ws := by rw [hw]; exact List.mem_cons_self
  refine ⟨⟨hrc, hrs, hR.1, hR.2, pay_in ht hG, hc⟩, ht _ (hG _ hc).1, ok _ (by simp [va_wsS]), ⟨hd.1, hd.2.1⟩, fun sig h => ?_, ok _ (by simp [va_wsS]), ok _ (by simp [va_wsS])⟩
  have h2 := hd.2.2
  rw [h] at h2
  exact (Option.some.inj h2).symm
theorem vx_callSW (X : Stand p l e R s m args below meth c T locs cells slots) (hexec : p.tables.exec = Jvm.exec) {own : String} {index : Nat} {y : MethodName} {bytes : ByteArray} {maxL : Nat} {ret : Option FieldType} {hh : List (Nat × Nat × Nat × Nat)}
    (hown : s.vm.findClass own = some m.cls) (hlink : (Cond.methodLink own index y).before args s = true) (hstat : (Cond.static y).before args s = true) (hinit : (Cond.initialized y.cls).before args s = true)
    (hcode : (Cond.codeWith y bytes maxL ret hh).before args s = true) (hy : y.cls ≠ "java/lang/invoke/MethodHandle" ∧ y.cls ≠ "java/lang/invoke/VarHandle")
    {W9 : Nat} {Pre : Pt → Array Value → Prop} {Post : Pt → Array Value → Option Value → Pt → Prop} (hK : Back l R p e below s args y 3 W9 Pre Post)
    {g : JFrame} (hg : g.method = m) (hsize : g.locals.size = c.maxLocals) {argsL rest : List Value} (hlen : ∀ sig, parseMethodDescriptor y.desc = some sig → argsL.length = sig.parameters.length)
    (hstack : g.stack = argsL.reverse ++ rest) (hW : 2 * g.monitorRoom + (rest.map fun v => v.category).sum ≤ W9) (hdg : decode c.code g.pc = .ok (.invokestatic index, 3))
    (hpre : ∀ vm₁, s.WarmedH vm₁ → Pre ⟨T.setVm vm₁, locs, cells, slots⟩ argsL.toArray) :
    ∃ (v : Option Value) (vm₁ : Vm) (B : Pt), s.WarmedH vm₁ ∧ Stand p l e R s m args below meth c B.U B.locs B.cells B.slots ∧ Post ⟨T.setVm vm₁, locs, cells, slots⟩ argsL.toArray v B ∧
      ∀ target, Steps p.tables e below (B.U.setTop { g with pc := g.pc + 3, stack := v.toList ++ rest }) target → Steps p.tables e below (T.setTop g) target := by
  obtain ⟨mk, methM, cM, hnamed, hmethM, -, -, -, -, -, -, hsigM⟩ := Cond.codeWith_spec hcode
  have hstatic : methM.isStatic = true := Cond.static_spec hnamed hmethM hstat
  obtain ⟨kP, hkP, -⟩ := className_of_methodNamed hnamed
  have hinitP : kP.init = .initialized := Cond.initialized_spec (findClass_of_methodNamed hnamed) hkP hinit
  obtain ⟨vm₁, X₁, hstep₁⟩ := X.invokestatic hexec hown hlink hnamed hmethM hstatic hkP hinitP hy (g := g) hg (argsL := argsL) (rest := rest) (hlen _ hsigM) hstack hdg
  obtain ⟨v, B, X', hpost, hsteps⟩ := hK m meth c ⟨T.setVm vm₁, locs, cells, slots⟩ { g with stack := rest } (.invokestatic index) mk argsL.toArray X₁ hg hsize hdg hW (X₁.named hnamed) (hpre vm₁ X₁.warmed)
  exact ⟨v, vm₁, B, X₁.warmed, X', hpost, fun target h => hstep₁ _ fun acts => by rw [doInvoke_state]; exact hsteps.trans h⟩
theorem vx_runSW {y : MethodName} {bytes cc : ByteArray} {maxL nL mc ms n index : Nat} {ret : Option FieldType} {hh : List (Nat × Nat × Nat × Nat)} {ws : List Cond} {rm : Room} {Pc : Array Value → State → Prop} {Qc : Array Value → State → Outcome → State → Prop} {free : Addr → Prop} {Ts : List Cond} {own : String} {As rest : List Value} {g : JFrame}
    (S : CallFix p m c cc nL s args Ts own) (hM : Met l y ws rm Pc Qc mc ms free) (cw : vx_CSW R s args own index y bytes maxL ret hh ws rm mc ms n) (hp : PreS s H Pc As)
    (hg : g.method = m) (hn : As.length = n) (hsize : g.locals.size = nL) (hstack : g.stack = As.reverse ++ rest) (hW : 2 * g.monitorRoom + (rest.map fun v => v.category).sum ≤ 8) (hdg : decode cc g.pc = .ok (.invokestatic index, 3)) (hf : cells + mc ≤ R.cells ∧ slots + ms ≤ R.slots) :
    va_Run p l e R s m args below meth c H locs cells slots mc ms g rest (Qc As.toArray) (free) := by
  obtain ⟨⟨hrc, hrs, hfr, hlo, hws, hcw⟩, hcode, hini, hy, hlen, hl, hstt⟩ := cw
  have hK : Back l R p e below s args y 3 8 (PreOf R mc ms Pc) (PostOf Qc mc ms free) := va_backW (hh := hh) (bytes := bytes) (maxL := maxL) (ret := ret) hM hp.1 hrc hrs hfr hlo hws hcw (fun a' U hW => word_at hW (Or.inl (by first | rfl | simp [Cond.onTables, Cond.keeps, Cond.steady])) hini)
  obtain ⟨hx, hb, hml, ho, -⟩ := S
  intro T hT X
  obtain ⟨v, vm₁, ⟨U', l2, c2, s2⟩, hW₁, X', ⟨g', mk, t, L, e1, e2, hq, h1, hL, h2, h3⟩, st⟩ := vx_callSW X hx (hh := hh) (bytes := bytes) (maxL := maxL) (ret := ret) ho hl hstt hini hcode hy hK hg (hsize.trans hml.symm) (argsL := As) (rest := rest) (fun sig h => hn.trans (hlen sig h)) hstack hW (by rw [hb]; exact hdg)
    (fun vm₁ hW₁ => ⟨hf.1, hf.2, hp.2 (T.setVm vm₁) hT hW₁⟩)
  dsimp only [Pt.U, Pt.locs, Pt.cells, Pt.slots] at X' e1 e2 h1 h2 h3 st
  subst h1; subst h2; subst h3
  exact ⟨v, (T.setVm vm₁).calling g' mk As.toArray, t, U', L, hT, X', hL, e1, e2, hq, st⟩
/-- a thing of a world lies in the heap -/
theorem vx_lt {D : va_G} {cl : List vw_C} {ws : va_W} {H1 : Heap} (h : va_P D cl ws H1) {k : Nat} {q : Nat × va_E} (hk : ws[k]? = some q) : q.1 < H1.size := (h k q hk).lt
end VXS
/-! ===== END ===== -/
/-! ===== BEGIN methods with a table of their own: called by a name, returning or throwing ===== -/
section VXH
/-! vx_backW, vx_callVX, vx_callSX, vx_callVW, vx_runVW, vx_runVX, vx_runSX, vx_ofWH follow the same proofs as their sisters above (Free/Laws.lean, Shelf42/LK1.lean); vx_outP calls Shelf42/NT130.lean (outThrough). -/
section
variable {l : Launch} {R : Room} {p : Program} {e : Env} {below : List Frame} {s : State} {sargs : Array Value} {y : MethodName} {len W9 : Nat}
theorem vx_backW {ws : List Cond} {rm : Room} {Pc : Array Value → State → Prop} {Qc : Array Value → State → Outcome → State → Prop} {XC : String → State → State → Prop} {mc ms : Nat} {free : Addr → Prop} {bytes : ByteArray} {maxL : Nat} {ret : Option FieldType} {hh : List (Nat × Nat × Nat × Nat)}
    (hM : vx_Met l y ws rm Pc Qc XC mc ms free) (hblind : FrameBlind Pc) (hrc : rm.cells = mc) (hrs : rm.slots = ms)
    (hframes : rm.frames + 1 ≤ R.frames) (hlocals : W9 + (maxL + 11) + rm.locals ≤ R.locals)
    (hws : ∀ w ∈ ws, ∀ a' U, s.WarmedH U.vm → w.before a' U = true) (hcode : Cond.codeWith y bytes maxL ret hh ∈ ws) (hinit : ∀ a' U, s.WarmedH U.vm → (Cond.initialized y.cls).before a' U = true) :
    vx_Back l R p e below s sargs y len W9 (PreOf R mc ms Pc) (PostOf Qc mc ms free) (vx_Post XC mc ms free) := by
  intro m meth c A g ig mk a X hg hsize hdg hW hn hp
  have h1 : (headSpec ws rm).pre.before a A.U = true := atoms_intro fun w hw => hws w hw _ _ X.warmed
  have h2 : (Cond.codeWith y bytes maxL ret hh).before a A.U = true := hws _ hcode _ _ X.warmed
  have h3 : (Cond.initialized y.cls).before a A.U = true := hinit _ _ X.warmed
  have h4 : A.cells + (headSpec ws rm).room.cells ≤ R.cells := by rw [show (headSpec ws rm).room.cells = mc from hrc]; exact hp.1
  have h5 : A.slots + (headSpec ws rm).room.slots ≤ R.slots := by rw [show (headSpec ws rm).room.slots = ms from hrs]; exact hp.2.1
  have hPc : Pc a (A.U.calling g mk a) := hblind _ _ _ _ hp.2.2
  obtain ⟨U, Ls, c0, s0⟩ := A
  dsimp only [Pt.U, Pt.locs, Pt.cells, Pt.slots] at h1 h2 h3 h4 h5 X hn hPc ⊢
  obtain ⟨m9, methY, cY, hn9, hmY, hcY, -, hlY, -⟩ := Cond.codeWith_spec h2
  cases Option.some.inj (hn9.symm.trans hn)
  obtain ⟨kY, hkY, -⟩ := className_of_methodNamed hn
  have hinitY : kY.init = .initialized := Cond.initialized_spec (findClass_of_methodNamed hn) hkY h3
  have h : At U g.method c below := by rw [hg]; exact X.here
  have hlocals9 : W9 + (maxL + 11) + (headSpec ws rm).room.locals ≤ R.locals := hlocals
  have happ : (headSpec ws rm).appliesLoose y e.platform (U.calling g mk a) = true :=
    Spec.appliesLoose_calling (g := g) h hdg hn hkY hinitY
      (X.room_calling (g := g) (R' := (headSpec ws rm).room) hsize hmY hcY hframes (by rw [hlY]; omega) h4 h5) h1
  obtain ⟨mid, hmid⟩ := h.above
  have hfr : (U.setTop g).frames = (.java g :: mid) ++ below := by rw [State.frames_setTop' g h.top, hmid]; rfl
  obtain ⟨o, s₂, hsteps, -, hend, hq⟩ := Steps.callFree hM p X.admits X.cas X.clock (acts := []) hfr happ hPc trivial
  have hq' : vx_Q Qc XC mc ms free a (U.calling g mk a) o s₂ := hq
  rw [State.frames_setTop' g h.top] at hend
  obtain ⟨g₀, hg0⟩ := Option.isSome_iff_exists.mp h.top
  obtain ⟨r, hr⟩ := State.topJava?_eq_some.mp hg0
  have hr' : (({ U with heap := s₂.heap, slotsUsed := s₂.slotsUsed } : State).setVm s₂.vm).frames = .java g₀ :: r := hr
  rcases hq' with ⟨hqc, L, hfe, hL⟩ | ⟨q, rfl, E, ce, L, hx, hce, hcv, hcl, hW₂, hsm, hL⟩
  · obtain ⟨⟨v, rfl⟩, hW₂, e2, q2, q3, q4, q5, q6⟩ := id hfe
    have e3 : s₂ = ({ (U.calling g mk a).setFrames s₂.frames with heap := s₂.heap, slotsUsed := s₂.slotsUsed } : State).setVm s₂.vm := by
      have : s₂ = ({ s₂ with vm := (U.calling g mk a).vm } : State).setVm s₂.vm := rfl
      rw [e2] at this
      exact this
    obtain ⟨c₂, i₂, len₂, hc₂, hd₂, hf₂⟩ := hend
    have hW' : U.WarmedH s₂.vm := hW₂
    have hcc : c₂ = c := by
      have h1 : s₂.code? g.method = U.code? g.method := by
        rw [State.code?_eq, State.code?_eq, hW'.alike.method?]
      exact Option.some.inj (hc₂.symm.trans (h1.trans h.code))
    subst hcc
    have hlen : len₂ = len := by rw [hdg] at hd₂; cases hd₂; rfl
    subst hlen
    have hs₂ : s₂ = (({ U with heap := s₂.heap, slotsUsed := s₂.slotsUsed } : State).setVm s₂.vm).setTop { g with pc := g.pc + len₂, stack := v.toList ++ g.stack } := by
      refine e3.trans ?_
      rw [hf₂, State.calling_eq h.top, State.setFrames_setFrames, State.setTop_of_frames _ hr', hr]
      rfl
    have hsame : U.sameButNew ({ U with heap := s₂.heap, slotsUsed := s₂.slotsUsed } : State) L mc ms := by
      refine ⟨?_, q2, q3, q4, q5, q6⟩
      obtain ⟨t, ht, -⟩ := State.frames_cons hr
      show ({ U with heap := s₂.heap, slotsUsed := s₂.slotsUsed } : State) = { U.setFrames U.frames with heap := s₂.heap, slotsUsed := s₂.slotsUsed }
      rw [State.setFrames_self ht]
    subst hg
    refine Or.inl ⟨v, ⟨(({ U with heap := s₂.heap, slotsUsed := s₂.slotsUsed } : State).setVm s₂.vm), Ls ++ L, c0 + mc, s0 + ms⟩,
      ⟨X.admits, X.cas, X.clock, X.frames, X.room, X.hears, X.method, X.code, (X.here.setHeapUsed s₂.heap s₂.slotsUsed).setVm hW'.alike, X.tail, State.WarmedH.trans X.warmed hW', X.limits, X.bytes, X.same.trans (hsame.setVm s.vm)⟩,
      ⟨g, mk, s₂, L, rfl, rfl, hqc, rfl, hL, rfl, rfl⟩, ?_⟩
    show Steps p.tables e below _ ((({ U with heap := s₂.heap, slotsUsed := s₂.slotsUsed } : State).setVm s₂.vm).setTop { g with pc := g.pc + len₂, stack := v.toList ++ g.stack })
    rw [← hs₂]
    exact hsteps
  · obtain ⟨e2, q2, q3, q4, q5, q6⟩ := id hsm
    have e3 : s₂ = ({ (U.calling g mk a).setFrames s₂.frames with heap := s₂.heap, slotsUsed := s₂.slotsUsed } : State).setVm s₂.vm := by
      have : s₂ = ({ s₂ with vm := (U.calling g mk a).vm } : State).setVm s₂.vm := rfl
      rw [e2] at this
      exact this
    have hf₂ : s₂.frames = .throwing q :: .java g :: U.frames.tail := hend
    have hW' : U.WarmedH s₂.vm := hW₂
    have hs₂ : s₂ = ((({ U with heap := s₂.heap, slotsUsed := s₂.slotsUsed } : State).setVm s₂.vm).setTop g).pushFrame (.throwing q) := by
      refine e3.trans ?_
      rw [hf₂, State.calling_eq h.top, State.setFrames_setFrames, State.pushFrame, State.frames_setTop _ hr', State.setTop_of_frames _ hr', State.setFrames_setFrames, hr]
      rfl
    have hsame : U.sameButNew ({ U with heap := s₂.heap, slotsUsed := s₂.slotsUsed } : State) L mc ms := by
      refine ⟨?_, q2, q3, q4, q5, q6⟩
      obtain ⟨t, ht, -⟩ := State.frames_cons hr
      show ({ U with heap := s₂.heap, slotsUsed := s₂.slotsUsed } : State) = { U.setFrames U.frames with heap := s₂.heap, slotsUsed := s₂.slotsUsed }
      rw [State.setFrames_self ht]
    subst hg
    refine Or.inr ⟨q, ⟨(({ U with heap := s₂.heap, slotsUsed := s₂.slotsUsed } : State).setVm s₂.vm), Ls ++ L, c0 + mc, s0 + ms⟩,
      ⟨X.admits, X.cas, X.clock, X.frames, X.room, X.hears, X.method, X.code, (X.here.setHeapUsed s₂.heap s₂.slotsUsed).setVm hW'.alike, X.tail, State.WarmedH.trans X.warmed hW', X.limits, X.bytes, X.same.trans (hsame.setVm s.vm)⟩,
      ⟨g, mk, s₂, L, E, ce, rfl, rfl, hx, hce, hcv, hcl, rfl, hL, rfl, rfl⟩, ?_⟩
    show Steps p.tables e below _ (((({ U with heap := s₂.heap, slotsUsed := s₂.slotsUsed } : State).setVm s₂.vm).setTop g).pushFrame (.throwing q))
    rw [← hs₂]
    exact hsteps
end
variable {p : Program} {l : Launch} {e : Env} {R : Room} {s : State} {m : MethodId} {args : Array Value} {below : List Frame} {meth : Method} {c : Code} {T : State} {H : Heap} {locs : List Loc} {cells slots : Nat}
theorem vx_callVX (X : Stand p l e R s m args below meth c T locs cells slots) (hexec : p.tables.exec = Jvm.exec) {own C : String} {index : Nat} {y : MethodName} {bytes : ByteArray} {maxL : Nat} {ret : Option FieldType} {hh : List (Nat × Nat × Nat × Nat)}
    (hown : s.vm.findClass own = some m.cls) (hlink : (Cond.methodLink own index y).before args s = true) (hinst : (Cond.instanceMethod y).before args s = true) (hsel : (Cond.selects C y y).before args s = true)
    (hcode : (Cond.codeWith y bytes maxL ret hh).before args s = true) (hy : y.cls ≠ "java/lang/invoke/MethodHandle" ∧ y.cls ≠ "java/lang/invoke/VarHandle")
    {W9 : Nat} {Pre : Pt → Array Value → Prop} {Post : Pt → Array Value → Option Value → Pt → Prop} {PostX : Pt → Array Value → Addr → Pt → Prop} (hK : vx_Back l R p e below s args y 3 W9 Pre Post PostX)
    {b : Addr} {cellB : Cell} (hcell : T.heap[b]? = some cellB) (hobj : cellB.vm.isStatics = false) (hcls : s.vm.findClass C = some cellB.cls)
    {g : JFrame} (hg : g.method = m) (hsize : g.locals.size = c.maxLocals) {argsL rest : List Value} (hlen : ∀ sig, parseMethodDescriptor y.desc = some sig → argsL.length = sig.parameters.length)
    (hstack : g.stack = argsL.reverse ++ .ref b :: rest) (hW : 2 * g.monitorRoom + (rest.map fun v => v.category).sum ≤ W9) (hdg : decode c.code g.pc = .ok (.invokevirtual index, 3))
    (hpre : ∀ vm₁, s.WarmedH vm₁ → Pre ⟨T.setVm vm₁, locs, cells, slots⟩ (Value.ref b :: argsL).toArray) :
    (∃ (v : Option Value) (vm₁ : Vm) (B : Pt), s.WarmedH vm₁ ∧ Stand p l e R s m args below meth c B.U B.locs B.cells B.slots ∧ Post ⟨T.setVm vm₁, locs, cells, slots⟩ (Value.ref b :: argsL).toArray v B ∧
      ∀ target, Steps p.tables e below (B.U.setTop { g with pc := g.pc + 3, stack := v.toList ++ rest }) target → Steps p.tables e below (T.setTop g) target) ∨
    (∃ (q : Addr) (vm₁ : Vm) (B : Pt), s.WarmedH vm₁ ∧ Stand p l e R s m args below meth c B.U B.locs B.cells B.slots ∧ PostX ⟨T.setVm vm₁, locs, cells, slots⟩ (Value.ref b :: argsL).toArray q B ∧
      Steps p.tables e below (T.setTop g) ((B.U.setTop { g with stack := rest }).pushFrame (.throwing q))) := by
  obtain ⟨mk, methM, hnamed, hmethM, hstM, habM⟩ := Cond.instanceMethod_spec hinst
  obtain ⟨m8, methM', cM, hn8, hmethM', -, -, -, -, -, -, hsigM⟩ := Cond.codeWith_spec hcode
  cases Option.some.inj (hn8.symm.trans hnamed)
  cases hmethM.symm.trans hmethM'
  obtain ⟨c2, r2, m2, q1, q2, q3, q4, kP, hkP, hkPi⟩ := Cond.selects_spec hsel
  cases hcls.symm.trans q1
  cases (State.methodFound?_of_named hnamed hy).symm.trans q2
  cases hnamed.symm.trans q3
  have hselP : selectMethod e.platform s.vm cellB.cls mk = .method mk := by rw [Launch.admits_selectMethod X.admits]; exact q4
  obtain ⟨vm₁, X₁, hstep₁⟩ := X.invokevirtual hexec hown hlink hnamed hmethM hstM hkP hkPi hy (a := b) (cell := cellB) hcell
    (fun z h => by rw [h] at hobj; cases hobj) hselP hmethM habM hkP hkPi (g := g) hg (argsL := argsL) (rest := rest) (hlen _ hsigM) hstack hdg
  rcases hK m meth c ⟨T.setVm vm₁, locs, cells, slots⟩ { g with stack := rest } (.invokevirtual index) mk (Value.ref b :: argsL).toArray X₁ hg hsize hdg hW (X₁.named hnamed) (hpre vm₁ X₁.warmed) with ⟨v, B, X', hpost, hsteps⟩ | ⟨q, B, X', hpost, hsteps⟩
  · exact Or.inl ⟨v, vm₁, B, X₁.warmed, X', hpost, fun target h => hstep₁ _ fun acts => by rw [doInvoke_state]; exact hsteps.trans h⟩
  · exact Or.inr ⟨q, vm₁, B, X₁.warmed, X', hpost, hstep₁ _ fun acts => by rw [doInvoke_state]; exact hsteps⟩
theorem vx_callSX (X : Stand p l e R s m args below meth c T locs cells slots) (hexec : p.tables.exec = Jvm.exec) {own : String} {index : Nat} {y : MethodName} {bytes : ByteArray} {maxL : Nat} {ret : Option FieldType} {hh : List (Nat × Nat × Nat × Nat)}
    (hown : s.vm.findClass own = some m.cls) (hlink : (Cond.methodLink own index y).before args s = true) (hstat : (Cond.static y).before args s = true) (hinit : (Cond.initialized y.cls).before args s = true)
    (hcode : (Cond.codeWith y bytes maxL ret hh).before args s = true) (hy : y.cls ≠ "java/lang/invoke/MethodHandle" ∧ y.cls ≠ "java/lang/invoke/VarHandle")
    {W9 : Nat} {Pre : Pt → Array Value → Prop} {Post : Pt → Array Value → Option Value → Pt → Prop} {PostX : Pt → Array Value → Addr → Pt → Prop} (hK : vx_Back l R p e below s args y 3 W9 Pre Post PostX)
    {g : JFrame} (hg : g.method = m) (hsize : g.locals.size = c.maxLocals) {argsL rest : List Value} (hlen : ∀ sig, parseMethodDescriptor y.desc = some sig → argsL.length = sig.parameters.length)
    (hstack : g.stack = argsL.reverse ++ rest) (hW : 2 * g.monitorRoom + (rest.map fun v => v.category).sum ≤ W9) (hdg : decode c.code g.pc = .ok (.invokestatic index, 3))
    (hpre : ∀ vm₁, s.WarmedH vm₁ → Pre ⟨T.setVm vm₁, locs, cells, slots⟩ argsL.toArray) :
    (∃ (v : Option Value) (vm₁ : Vm) (B : Pt), s.WarmedH vm₁ ∧ Stand p l e R s m args below meth c B.U B.locs B.cells B.slots ∧ Post ⟨T.setVm vm₁, locs, cells, slots⟩ argsL.toArray v B ∧
      ∀ target, Steps p.tables e below (B.U.setTop { g with pc := g.pc + 3, stack := v.toList ++ rest }) target → Steps p.tables e below (T.setTop g) target) ∨
    (∃ (q : Addr) (vm₁ : Vm) (B : Pt), s.WarmedH vm₁ ∧ Stand p l e R s m args below meth c B.U B.locs B.cells B.slots ∧ PostX ⟨T.setVm vm₁, locs, cells, slots⟩ argsL.toArray q B ∧
      Steps p.tables e below (T.setTop g) ((B.U.setTop { g with stack := rest }).pushFrame (.throwing q))) := by
  obtain ⟨mk, methM, cM, hnamed, hmethM, -, -, -, -, -, -, hsigM⟩ := Cond.codeWith_spec hcode
  have hstatic : methM.isStatic = true := Cond.static_spec hnamed hmethM hstat
  obtain ⟨kP, hkP, -⟩ := className_of_methodNamed hnamed
  have hinitP : kP.init = .initialized := Cond.initialized_spec (findClass_of_methodNamed hnamed) hkP hinit
  obtain ⟨vm₁, X₁, hstep₁⟩ := X.invokestatic hexec hown hlink hnamed hmethM hstatic hkP hinitP hy (g := g) hg (argsL := argsL) (rest := rest) (hlen _ hsigM) hstack hdg
  rcases hK m meth c ⟨T.setVm vm₁, locs, cells, slots⟩ { g with stack := rest } (.invokestatic index) mk argsL.toArray X₁ hg hsize hdg hW (X₁.named hnamed) (hpre vm₁ X₁.warmed) with ⟨v, B, X', hpost, hsteps⟩ | ⟨q, B, X', hpost, hsteps⟩
  · exact Or.inl ⟨v, vm₁, B, X₁.warmed, X', hpost, fun target h => hstep₁ _ fun acts => by rw [doInvoke_state]; exact hsteps.trans h⟩
  · exact Or.inr ⟨q, vm₁, B, X₁.warmed, X', hpost, hstep₁ _ fun acts => by rw [doInvoke_state]; exact hsteps⟩
theorem vx_callVW (X : Stand p l e R s m args below meth c T locs cells slots) (hexec : p.tables.exec = Jvm.exec) {own C : String} {index : Nat} {y : MethodName} {bytes : ByteArray} {maxL : Nat} {ret : Option FieldType} {hh : List (Nat × Nat × Nat × Nat)}
    (hown : s.vm.findClass own = some m.cls) (hlink : (Cond.methodLink own index y).before args s = true) (hinst : (Cond.instanceMethod y).before args s = true) (hsel : (Cond.selects C y y).before args s = true)
    (hcode : (Cond.codeWith y bytes maxL ret hh).before args s = true) (hy : y.cls ≠ "java/lang/invoke/MethodHandle" ∧ y.cls ≠ "java/lang/invoke/VarHandle")
    {W9 : Nat} {Pre : Pt → Array Value → Prop} {Post : Pt → Array Value → Option Value → Pt → Prop} (hK : Back l R p e below s args y 3 W9 Pre Post)
    {b : Addr} {cellB : Cell} (hcell : T.heap[b]? = some cellB) (hobj : cellB.vm.isStatics = false) (hcls : s.vm.findClass C = some cellB.cls)
    {g : JFrame} (hg : g.method = m) (hsize : g.locals.size = c.maxLocals) {argsL rest : List Value} (hlen : ∀ sig, parseMethodDescriptor y.desc = some sig → argsL.length = sig.parameters.length)
    (hstack : g.stack = argsL.reverse ++ .ref b :: rest) (hW : 2 * g.monitorRoom + (rest.map fun v => v.category).sum ≤ W9) (hdg : decode c.code g.pc = .ok (.invokevirtual index, 3))
    (hpre : ∀ vm₁, s.WarmedH vm₁ → Pre ⟨T.setVm vm₁, locs, cells, slots⟩ (Value.ref b :: argsL).toArray) :
    ∃ (v : Option Value) (vm₁ : Vm) (B : Pt), s.WarmedH vm₁ ∧ Stand p l e R s m args below meth c B.U B.locs B.cells B.slots ∧ Post ⟨T.setVm vm₁, locs, cells, slots⟩ (Value.ref b :: argsL).toArray v B ∧
      ∀ target, Steps p.tables e below (B.U.setTop { g with pc := g.pc + 3, stack := v.toList ++ rest }) target → Steps p.tables e below (T.setTop g) target := by
  obtain ⟨mk, methM, hnamed, hmethM, hstM, habM⟩ := Cond.instanceMethod_spec hinst
  obtain ⟨m8, methM', cM, hn8, hmethM', -, -, -, -, -, -, hsigM⟩ := Cond.codeWith_spec hcode
  cases Option.some.inj (hn8.symm.trans hnamed)
  cases hmethM.symm.trans hmethM'
  obtain ⟨c2, r2, m2, q1, q2, q3, q4, kP, hkP, hkPi⟩ := Cond.selects_spec hsel
  cases hcls.symm.trans q1
  cases (State.methodFound?_of_named hnamed hy).symm.trans q2
  cases hnamed.symm.trans q3
  have hselP : selectMethod e.platform s.vm cellB.cls mk = .method mk := by rw [Launch.admits_selectMethod X.admits]; exact q4
  obtain ⟨vm₁, X₁, hstep₁⟩ := X.invokevirtual hexec hown hlink hnamed hmethM hstM hkP hkPi hy (a := b) (cell := cellB) hcell
    (fun z h => by rw [h] at hobj; cases hobj) hselP hmethM habM hkP hkPi (g := g) hg (argsL := argsL) (rest := rest) (hlen _ hsigM) hstack hdg
  obtain ⟨v, B, X', hpost, hsteps⟩ := hK m meth c ⟨T.setVm vm₁, locs, cells, slots⟩ { g with stack := rest } (.invokevirtual index) mk (Value.ref b :: argsL).toArray X₁ hg hsize hdg hW (X₁.named hnamed) (hpre vm₁ X₁.warmed)
  exact ⟨v, vm₁, B, X₁.warmed, X', hpost, fun target h => hstep₁ _ fun acts => by rw [doInvoke_state]; exact hsteps.trans h⟩
abbrev vx_CVW (R : Room) (s : State) (args : Array Value) (own C : String) (index : Nat) (y : MethodName) (bytes : ByteArray) (maxL : Nat) (ret : Option FieldType) (hh : List (Nat × Nat × Nat × Nat)) (ws : List Cond) (rm : Room) (mc ms n : Nat) : Prop :=
  (rm.cells = mc ∧ rm.slots = ms ∧ rm.frames + 1 ≤ R.frames ∧ 8 + (maxL + 11) + rm.locals ≤ R.locals ∧ (∀ w ∈ ws, ∀ (a' : Array Value) (U : State), s.WarmedH U.vm → w.before a' U = true) ∧ Cond.codeWith y bytes maxL ret hh ∈ ws) ∧
  (Cond.codeWith y bytes maxL ret hh).before args s = true ∧ (Cond.initialized y.cls).before args s = true ∧ (y.cls ≠ "java/lang/invoke/MethodHandle" ∧ y.cls ≠ "java/lang/invoke/VarHandle") ∧
  (∀ sig, parseMethodDescriptor y.desc = some sig → n = sig.parameters.length) ∧ (Cond.methodLink own index y).before args s = true ∧ (Cond.instanceMethod y).before args s = true ∧ (Cond.selects C y y).before args s = true
theorem vx_cwVW {own C : String} {index maxL mc ms : Nat} {y : MethodName} {bytes : ByteArray} {ret : Option FieldType} {hh : List (Nat × Nat × Nat × Nat)} {Ts ws ws' : List Cond} {rm : Room} (n : Nat) (ht : ∀ w ∈ Ts, w.before args s = true) (hT : GoodIn Ts (wsV own index C y ws)) (hw : ws = Cond.codeWith y bytes maxL ret hh :: ws') (hrc : rm.cells = mc) (hrs : rm.slots = ms)
    (hd : y.cls = C ∧ y.cls ≠ "java/lang/invoke/MethodHandle" ∧ y.cls ≠ "java/lang/invoke/VarHandle" ∧ (parseMethodDescriptor y.desc).map (fun d => d.parameters.length) = some n) (hR : rm.frames + 1 ≤ R.frames ∧ 8 + (maxL + 11) + rm.locals ≤ R.locals) :
    vx_CVW R s args own C index y bytes maxL ret hh ws rm mc ms n := by
  obtain ⟨hC, hd⟩ := hd
  subst hC
  have ok : ∀ w ∈ wsV own index y.cls y ws, w.before args s = true := fun w h => ht w (hT w h).1
  have hG : GoodIn Ts ws := fun w h => hT w (by unfold wsV; exact List.mem_append_right _ h)
  have hc : Cond.codeWith y bytes maxL ret hh ∈ ws := by rw [hw]; exact List.mem_cons_self
  refine ⟨⟨hrc, hrs, hR.1, hR.2, pay_in ht hG, hc⟩, ht _ (hG _ hc).1, ok _ (by simp [wsV]), ⟨hd.1, hd.2.1⟩, fun sig h => ?_, ok _ (by simp [wsV]), ok _ (by simp [wsV]), ok _ (by simp [wsV])⟩
  have h2 := hd.2.2
  rw [h] at h2
  exact (Option.some.inj h2).symm
theorem vx_runVW {y : MethodName} {bytes cc : ByteArray} {maxL nL mc ms n index : Nat} {ret : Option FieldType} {hh : List (Nat × Nat × Nat × Nat)} {ws : List Cond} {rm : Room} {Pc : Array Value → State → Prop} {Qc : Array Value → State → Outcome → State → Prop} {free : Addr → Prop} {Ts : List Cond} {own C : String} {b : Addr} {As rest : List Value} {g : JFrame}
    (S : CallFix p m c cc nL s args Ts own) (hM : Met l y ws rm Pc Qc mc ms free) (cw : vx_CVW R s args own C index y bytes maxL ret hh ws rm mc ms n) (hp : PreV s H C b Pc As)
    (hg : g.method = m) (hn : As.length = n) (hsize : g.locals.size = nL) (hstack : g.stack = As.reverse ++ .ref b :: rest) (hW : 2 * g.monitorRoom + (rest.map fun v => v.category).sum ≤ 8) (hdg : decode cc g.pc = .ok (.invokevirtual index, 3)) (hf : cells + mc ≤ R.cells ∧ slots + ms ≤ R.slots) :
    va_Run p l e R s m args below meth c H locs cells slots mc ms g rest (Qc (Value.ref b :: As).toArray) free := by
  obtain ⟨⟨hrc, hrs, hfr, hlo, hws, hcw⟩, hcode, hini, hy, hlen, hl, hin, hse⟩ := cw
  have hK : Back l R p e below s args y 3 8 (PreOf R mc ms Pc) (PostOf Qc mc ms free) := va_backW (hh := hh) (bytes := bytes) (maxL := maxL) (ret := ret) hM hp.1 hrc hrs hfr hlo hws hcw (fun a' U hW => word_at hW (Or.inl (by first | rfl | simp [Cond.onTables, Cond.keeps, Cond.steady])) hini)
  obtain ⟨hx, hb, hml, ho, -⟩ := S
  obtain ⟨-, ⟨cellB, hcB, hoB, hclB⟩, hPc⟩ := hp
  intro T hT X
  obtain ⟨v, vm₁, ⟨U', l2, c2, s2⟩, hW₁, X', ⟨g', mk, t, L, e1, e2, hq, h1, hL, h2, h3⟩, st⟩ := vx_callVW X hx (C := C) (hh := hh) (bytes := bytes) (maxL := maxL) (ret := ret) ho hl hin hse hcode hy hK (by rw [hT]; exact hcB) hoB hclB hg (hsize.trans hml.symm) (argsL := As) (rest := rest) (fun sig h => hn.trans (hlen sig h)) hstack hW (by rw [hb]; exact hdg)
    (fun vm₁ hW₁ => ⟨hf.1, hf.2, hPc (T.setVm vm₁) hT hW₁⟩)
  dsimp only [Pt.U, Pt.locs, Pt.cells, Pt.slots] at X' e1 e2 h1 h2 h3 st
  subst h1; subst h2; subst h3
  exact ⟨v, (T.setVm vm₁).calling g' mk (Value.ref b :: As).toArray, t, U', L, hT, X', hL, e1, e2, hq, st⟩
section
variable {y : MethodName} {bytes cc : ByteArray} {maxL nL mc ms n index : Nat} {ret : Option FieldType} {ws : List Cond} {rm : Room} {Pc : Array Value → State → Prop} {Qc : Array Value → State → Outcome → State → Prop} {XC : String → State → State → Prop} {free : Addr → Prop} {Ts : List Cond} {own C : String} {b : Addr} {As rest : List Value} {g : JFrame}
theorem vx_runVX {hh : List (Nat × Nat × Nat × Nat)} (S : CallFix p m c cc nL s args Ts own) (hM : vx_Met l y ws rm Pc Qc XC mc ms free) (cw : vx_CVW R s args own C index y bytes maxL ret hh ws rm mc ms n) (hp : PreV s H C b Pc As)
    (hg : g.method = m) (hn : As.length = n) (hsize : g.locals.size = nL) (hstack : g.stack = As.reverse ++ .ref b :: rest) (hW : 2 * g.monitorRoom + (rest.map fun v => v.category).sum ≤ 8) (hdg : decode cc g.pc = .ok (.invokevirtual index, 3)) (hf : cells + mc ≤ R.cells ∧ slots + ms ≤ R.slots) :
    vx_Run p l e R s m args below meth c H locs cells slots mc ms g rest (Qc (Value.ref b :: As).toArray) XC free := by
  obtain ⟨⟨hrc, hrs, hfr, hlo, hws, hcw⟩, hcode, hini, hy, hlen, hl, hin, hse⟩ := cw
  have hK : vx_Back l R p e below s args y 3 8 (PreOf R mc ms Pc) (PostOf Qc mc ms free) (vx_Post XC mc ms free) := vx_backW (hh := hh) (bytes := bytes) (maxL := maxL) (ret := ret) hM hp.1 hrc hrs hfr hlo hws hcw (fun a' U hW => word_at hW (Or.inl (by first | rfl | simp [Cond.onTables, Cond.keeps, Cond.steady])) hini)
  obtain ⟨hx, hb, hml, ho, -⟩ := S
  obtain ⟨-, ⟨cellB, hcB, hoB, hclB⟩, hPc⟩ := hp
  intro T hT X
  rcases vx_callVX X hx (C := C) (hh := hh) (bytes := bytes) (maxL := maxL) (ret := ret) ho hl hin hse hcode hy hK (by rw [hT]; exact hcB) hoB hclB hg (hsize.trans hml.symm) (argsL := As) (rest := rest) (fun sig h => hn.trans (hlen sig h)) hstack hW (by rw [hb]; exact hdg)
    (fun vm₁ hW₁ => ⟨hf.1, hf.2, hPc (T.setVm vm₁) hT hW₁⟩) with ⟨v, vm₁, ⟨U', l2, c2, s2⟩, hW₁, X', ⟨g', mk, t, L, e1, e2, hq, h1, hL, h2, h3⟩, st⟩ | ⟨q, vm₁, ⟨U', l2, c2, s2⟩, hW₁, X', ⟨g', mk, t, L, E, ce, e1, e2, hq, hce, hcv, hcl, h1, hL, h2, h3⟩, st⟩
  · dsimp only [Pt.U, Pt.locs, Pt.cells, Pt.slots] at X' e1 e2 h1 h2 h3 st
    subst h1; subst h2; subst h3
    exact Or.inl ⟨v, (T.setVm vm₁).calling g' mk (Value.ref b :: As).toArray, t, U', L, hT, X', hL, e1, e2, hq, st⟩
  · dsimp only [Pt.U, Pt.locs, Pt.cells, Pt.slots] at X' e1 e2 h1 h2 h3 st hcl
    subst h1; subst h2; subst h3
    exact Or.inr ⟨q, (T.setVm vm₁).calling g' mk (Value.ref b :: As).toArray, t, U', L, E, ce, hT, X', hL, e1, e2, hq, hce, hcv, vx_cls hW₁ hcl, st⟩
theorem vx_runSX {hh : List (Nat × Nat × Nat × Nat)} (S : CallFix p m c cc nL s args Ts own) (hM : vx_Met l y ws rm Pc Qc XC mc ms free) (cw : vx_CSW R s args own index y bytes maxL ret hh ws rm mc ms n) (hp : PreS s H Pc As)
    (hg : g.method = m) (hn : As.length = n) (hsize : g.locals.size = nL) (hstack : g.stack = As.reverse ++ rest) (hW : 2 * g.monitorRoom + (rest.map fun v => v.category).sum ≤ 8) (hdg : decode cc g.pc = .ok (.invokestatic index, 3)) (hf : cells + mc ≤ R.cells ∧ slots + ms ≤ R.slots) :
    vx_Run p l e R s m args below meth c H locs cells slots mc ms g rest (Qc As.toArray) XC free := by
  obtain ⟨⟨hrc, hrs, hfr, hlo, hws, hcw⟩, hcode, hini, hy, hlen, hl, hstt⟩ := cw
  have hK : vx_Back l R p e below s args y 3 8 (PreOf R mc ms Pc) (PostOf Qc mc ms free) (vx_Post XC mc ms free) := vx_backW (hh := hh) (bytes := bytes) (maxL := maxL) (ret := ret) hM hp.1 hrc hrs hfr hlo hws hcw (fun a' U hW => word_at hW (Or.inl (by first | rfl | simp [Cond.onTables, Cond.keeps, Cond.steady])) hini)
  obtain ⟨hx, hb, hml, ho, -⟩ := S
  intro T hT X
  rcases vx_callSX X hx (hh := hh) (bytes := bytes) (maxL := maxL) (ret := ret) ho hl hstt hini hcode hy hK hg (hsize.trans hml.symm) (argsL := As) (rest := rest) (fun sig h => hn.trans (hlen sig h)) hstack hW (by rw [hb]; exact hdg)
    (fun vm₁ hW₁ => ⟨hf.1, hf.2, hp.2 (T.setVm vm₁) hT hW₁⟩) with ⟨v, vm₁, ⟨U', l2, c2, s2⟩, hW₁, X', ⟨g', mk, t, L, e1, e2, hq, h1, hL, h2, h3⟩, st⟩ | ⟨q, vm₁, ⟨U', l2, c2, s2⟩, hW₁, X', ⟨g', mk, t, L, E, ce, e1, e2, hq, hce, hcv, hcl, h1, hL, h2, h3⟩, st⟩
  · dsimp only [Pt.U, Pt.locs, Pt.cells, Pt.slots] at X' e1 e2 h1 h2 h3 st
    subst h1; subst h2; subst h3
    exact Or.inl ⟨v, (T.setVm vm₁).calling g' mk As.toArray, t, U', L, hT, X', hL, e1, e2, hq, st⟩
  · dsimp only [Pt.U, Pt.locs, Pt.cells, Pt.slots] at X' e1 e2 h1 h2 h3 st hcl
    subst h1; subst h2; subst h3
    exact Or.inr ⟨q, (T.setVm vm₁).calling g' mk As.toArray, t, U', L, E, ce, hT, X', hL, e1, e2, hq, hce, hcv, vx_cls hW₁ hcl, st⟩
end
end VXH
theorem vx_ofWH {l : Launch} {y : MethodName} {ws ws' : List Cond} {rm : Room} {Pc : Array Value → State → Prop} {Qc : Array Value → State → Outcome → State → Prop} {XC : String → State → State → Prop} {mc ms : Nat} {free : Addr → Prop} {cc : ByteArray} {maxL : Nat} {ret : Option FieldType} {hh : List (Nat × Nat × Nat × Nat)}
    (hy : plainName y.cls = true) (hw : ws = Cond.codeWith y cc maxL ret hh :: ws')
    (body : ∀ p e s m args below meth c s₁, BodyLoose p l y (headSpec ws rm) cc maxL ret e s m args below meth c s₁ → c.maxLocals = maxL → Pc args s →
      W p l e (headSpec ws rm).room s m args below meth c s.heap [] 0 0 (vx_MQ below Qc XC args s mc ms free) (entryFrame m args maxL)) : vx_Met l y ws rm Pc Qc XC mc ms free := by
  refine MetFree.of_bodyS (code := cc) (maxLocals := maxL) (ret := ret) hy ?_ ?_
  · intro args s m h hn
    obtain ⟨m9, meth, c, hn9, h1, h2, h3, h4, -, h5, h6, -⟩ := Cond.codeWith_spec (atoms_spec (ws := ws) h _ (by rw [hw]; exact List.mem_cons_self))
    cases hn.symm.trans hn9
    exact ⟨meth, c, h1, h2, h3, h4, h5, h6⟩
  · intro p e s m args below meth c s₁ B hml hP _
    have hh0 : s₁.heap = s.heap := by rw [B.state]; rfl
    obtain ⟨t, a1, o, b1, b2, b3⟩ := body p e s m args below meth c s₁ B hml hP s₁ hh0 (Stand.of_body B)
    exact ⟨t, o, a1, b1, b2, b3⟩
/-! ===== END ===== -/
end
section
/-! ===== BEGIN printed: names, fields, word lists, decode rows ===== -/
def RX0 : String := "DarkDesk$Night"
def TX0 : u_T := fun k => match k with
  | 0 => ("DarkDesk$Night", "works", "LDarkDesk$Works;", true)
  | 1 => ("DarkDesk$Night", "toGo", "[I", true)
  | 2 => ("DarkDesk$Night", "there", "Z", false)
  | 3 => ("DarkDesk$Night", "hands", "I", false)
  | 4 => ("DarkDesk$Night", "clock", "I", false)
  | 5 => ("DarkDesk$Night", "away", "I", false)
  | 6 => ("DarkDesk$Night", "up", "I", false)
  | 7 => ("DarkDesk$Night", "beginning", "I", false)
  | _ => ("DarkDesk$Night", "thinly", "I", false)
def tyX0 : Nat → FieldType := fun k => match k with
  | 0 => .object "DarkDesk$Works"
  | 1 => .array .int
  | 2 => .boolean
  | 3 => .int
  | 4 => .int
  | 5 => .int
  | 6 => .int
  | 7 => .int
  | _ => .int
abbrev wsX00 : List Cond := u_ws RX0 TX0 9
theorem nmX0 : ∀ a, a < 9 → ∀ b, b < 9 → a ≠ b → (TX0 a).2.1 ≠ (TX0 b).2.1 := by decide +kernel
theorem tyX0_ok : ∀ k, k < 9 → parseFieldDescriptor (TX0 k).2.2.1 = some (tyX0 k) := by decide +kernel
abbrev cX0_init : ByteArray := prog_2_method_1_code
def yX0_init : MethodName := ⟨RX0, "<init>", "(LDarkDesk$Works;)V"⟩
abbrev cX0_fall : ByteArray := prog_2_method_2_code
def yX0_fall : MethodName := ⟨RX0, "fall", "(I)V"⟩
abbrev cX0_stage : ByteArray := prog_2_method_3_code
def yX0_stage : MethodName := ⟨RX0, "stage", "(I)I"⟩
abbrev cX0_freeHands : ByteArray := prog_2_method_4_code
def yX0_freeHands : MethodName := ⟨RX0, "freeHands", "()I"⟩
abbrev cX0_launch : ByteArray := prog_2_method_5_code
def yX0_launch : MethodName := ⟨RX0, "launch", "(IZ)Z"⟩
abbrev cX0_pass : ByteArray := prog_2_method_6_code
def yX0_pass : MethodName := ⟨RX0, "pass", "(I)I"⟩
abbrev cX0_passOne : ByteArray := prog_2_method_7_code
def yX0_passOne : MethodName := ⟨RX0, "passOne", "()V"⟩
abbrev cX0_stumble : ByteArray := prog_2_method_8_code
def yX0_stumble : MethodName := ⟨RX0, "stumble", "(I)Z"⟩
abbrev cX0_strike : ByteArray := prog_2_method_9_code
def yX0_strike : MethodName := ⟨RX0, "strike", "(I)I"⟩
abbrev cX0_thoseThatStand : ByteArray := prog_2_method_10_code
def yX0_thoseThatStand : MethodName := ⟨RX0, "thoseThatStand", "(I)I"⟩
abbrev cX0_stopThose : ByteArray := prog_2_method_11_code
def yX0_stopThose : MethodName := ⟨RX0, "stopThose", "(I)V"⟩
def RX1 : String := "DarkDesk$Planner"
def TX1 : u_T := fun k => match k with
  | 0 => ("DarkDesk$Planner", "works", "LDarkDesk$Works;", true)
  | 1 => ("DarkDesk$Planner", "needs", "[I", true)
  | 2 => ("DarkDesk$Planner", "byNeed", "[I", true)
  | 3 => ("DarkDesk$Planner", "byWorth", "[I", true)
  | 4 => ("DarkDesk$Planner", "used", "[I", true)
  | 5 => ("DarkDesk$Planner", "start", "[I", true)
  | 6 => ("DarkDesk$Planner", "early", "[I", true)
  | 7 => ("DarkDesk$Planner", "seenAway", "[I", true)
  | 8 => ("DarkDesk$Planner", "seenKey", "[J", true)
  | 9 => ("DarkDesk$Planner", "best", "[I", true)
  | 10 => ("DarkDesk$Planner", "there", "Z", false)
  | 11 => ("DarkDesk$Planner", "hands", "I", false)
  | 12 => ("DarkDesk$Planner", "bestAway", "I", false)
  | 13 => ("DarkDesk$Planner", "bestKey", "J", false)
  | 14 => ("DarkDesk$Planner", "hopeAway", "I", false)
  | 15 => ("DarkDesk$Planner", "hopeKey", "J", false)
  | 16 => ("DarkDesk$Planner", "soonest", "I", false)
  | _ => ("DarkDesk$Planner", "firstUp", "I", false)
def tyX1 : Nat → FieldType := fun k => match k with
  | 0 => .object "DarkDesk$Works"
  | 1 => .array .int
  | 2 => .array .int
  | 3 => .array .int
  | 4 => .array .int
  | 5 => .array .int
  | 6 => .array .int
  | 7 => .array .int
  | 8 => .array .long
  | 9 => .array .int
  | 10 => .boolean
  | 11 => .int
  | 12 => .int
  | 13 => .long
  | 14 => .int
  | 15 => .long
  | 16 => .int
  | _ => .int
abbrev wsX10 : List Cond := u_ws RX1 TX1 18
theorem nmX1 : ∀ a, a < 18 → ∀ b, b < 18 → a ≠ b → (TX1 a).2.1 ≠ (TX1 b).2.1 := by decide +kernel
theorem tyX1_ok : ∀ k, k < 18 → parseFieldDescriptor (TX1 k).2.2.1 = some (tyX1 k) := by decide +kernel
abbrev cX1_init : ByteArray := prog_3_method_1_code
def yX1_init : MethodName := ⟨RX1, "<init>", "(LDarkDesk$Works;)V"⟩
abbrev cX1_makePlan : ByteArray := prog_3_method_2_code
def yX1_makePlan : MethodName := ⟨RX1, "makePlan", "(II)I"⟩
abbrev cX1_fitsHands : ByteArray := prog_3_method_3_code
def yX1_fitsHands : MethodName := ⟨RX1, "fitsHands", "()Z"⟩
abbrev cX1_sortByNeed : ByteArray := prog_3_method_4_code
def yX1_sortByNeed : MethodName := ⟨RX1, "sortByNeed", "(I)V"⟩
abbrev cX1_sortByWorth : ByteArray := prog_3_method_5_code
def yX1_sortByWorth : MethodName := ⟨RX1, "sortByWorth", "()V"⟩
abbrev cX1_isWorthMore : ByteArray := prog_3_method_6_code
def yX1_isWorthMore : MethodName := ⟨RX1, "isWorthMore", "(II)Z"⟩
abbrev cX1_explore : ByteArray := prog_3_method_7_code
def yX1_explore : MethodName := ⟨RX1, "explore", "(IIIIJ)V"⟩
abbrev cX1_hope : ByteArray := prog_3_method_8_code
def yX1_hope : MethodName := ⟨RX1, "hope", "(IIIIJ)V"⟩
abbrev cX1_earliest : ByteArray := prog_3_method_9_code
def yX1_earliest : MethodName := ⟨RX1, "earliest", "(III)I"⟩
abbrev cX1_isOutdone : ByteArray := prog_3_method_10_code
def yX1_isOutdone : MethodName := ⟨RX1, "isOutdone", "(IIJ)Z"⟩
abbrev cX1_occupy : ByteArray := prog_3_method_11_code
def yX1_occupy : MethodName := ⟨RX1, "occupy", "(II)V"⟩
abbrev cX1_awayBy : ByteArray := prog_3_method_12_code
def yX1_awayBy : MethodName := ⟨RX1, "awayBy", "(II)I"⟩
abbrev cX1_keyOf : ByteArray := prog_3_method_13_code
def yX1_keyOf : MethodName := ⟨RX1, "keyOf", "(II)J"⟩
abbrev cX1_shiftOf : ByteArray := prog_3_method_14_code
def yX1_shiftOf : MethodName := ⟨RX1, "shiftOf", "(I)I"⟩
abbrev cX1_isLess : ByteArray := prog_3_method_15_code
def yX1_isLess : MethodName := ⟨RX1, "isLess", "(IJIJ)Z"⟩
def RX2 : String := "DarkDesk$Stores"
def TX2 : u_T := fun k => match k with
  | 0 => ("DarkDesk$Stores", "copies", "[I", true)
  | 1 => ("DarkDesk$Stores", "age", "[I", true)
  | 2 => ("DarkDesk$Stores", "log", "[I", true)
  | 3 => ("DarkDesk$Stores", "isTorn", "[Z", true)
  | 4 => ("DarkDesk$Stores", "from", "[I", true)
  | 5 => ("DarkDesk$Stores", "sent", "[I", true)
  | 6 => ("DarkDesk$Stores", "to", "[I", true)
  | 7 => ("DarkDesk$Stores", "got", "[I", true)
  | 8 => ("DarkDesk$Stores", "changed", "[I", true)
  | 9 => ("DarkDesk$Stores", "changedAt", "[I", true)
  | 10 => ("DarkDesk$Stores", "chosen", "[I", true)
  | 11 => ("DarkDesk$Stores", "size", "I", false)
  | 12 => ("DarkDesk$Stores", "letters", "I", false)
  | _ => ("DarkDesk$Stores", "changes", "I", false)
def tyX2 : Nat → FieldType := fun k => match k with
  | 0 => .array .int
  | 1 => .array .int
  | 2 => .array .int
  | 3 => .array .boolean
  | 4 => .array .int
  | 5 => .array .int
  | 6 => .array .int
  | 7 => .array .int
  | 8 => .array .int
  | 9 => .array .int
  | 10 => .array .int
  | 11 => .int
  | 12 => .int
  | _ => .int
abbrev wsX20 : List Cond := u_ws RX2 TX2 14
theorem nmX2 : ∀ a, a < 14 → ∀ b, b < 14 → a ≠ b → (TX2 a).2.1 ≠ (TX2 b).2.1 := by decide +kernel
theorem tyX2_ok : ∀ k, k < 14 → parseFieldDescriptor (TX2 k).2.2.1 = some (tyX2 k) := by decide +kernel
abbrev cX2_init : ByteArray := prog_4_method_1_code
def yX2_init : MethodName := ⟨RX2, "<init>", "()V"⟩
abbrev cX2_addStore : ByteArray := prog_4_method_2_code
def yX2_addStore : MethodName := ⟨RX2, "addStore", "()I"⟩
abbrev cX2_addCopy : ByteArray := prog_4_method_3_code
def yX2_addCopy : MethodName := ⟨RX2, "addCopy", "(III)I"⟩
abbrev cX2_setTorn : ByteArray := prog_4_method_4_code
def yX2_setTorn : MethodName := ⟨RX2, "setTorn", "(IIZ)Z"⟩
abbrev cX2_addLetter : ByteArray := prog_4_method_5_code
def yX2_addLetter : MethodName := ⟨RX2, "addLetter", "(IIII)I"⟩
abbrev cX2_addChange : ByteArray := prog_4_method_6_code
def yX2_addChange : MethodName := ⟨RX2, "addChange", "(II)I"⟩
abbrev cX2_greatestUpTo : ByteArray := prog_4_method_7_code
def yX2_greatestUpTo : MethodName := ⟨RX2, "greatestUpTo", "(II)I"⟩
abbrev cX2_choose : ByteArray := prog_4_method_8_code
def yX2_choose : MethodName := ⟨RX2, "choose", "()Z"⟩
abbrev cX2_isGotButNotSent : ByteArray := prog_4_method_9_code
def yX2_isGotButNotSent : MethodName := ⟨RX2, "isGotButNotSent", "(I)Z"⟩
abbrev cX2_changesBehind : ByteArray := prog_4_method_10_code
def yX2_changesBehind : MethodName := ⟨RX2, "changesBehind", "(II)I"⟩
def RX3 : String := "DarkDesk$Works"
def TX3 : u_T := fun k => match k with
  | 0 => ("DarkDesk$Works", "ticks", "[I", true)
  | 1 => ("DarkDesk$Works", "hands", "[I", true)
  | 2 => ("DarkDesk$Works", "weight", "[I", true)
  | 3 => ("DarkDesk$Works", "cost", "[I", true)
  | 4 => ("DarkDesk$Works", "needed", "[I", true)
  | 5 => ("DarkDesk$Works", "neededEvenThin", "[I", true)
  | 6 => ("DarkDesk$Works", "size", "I", false)
  | _ => ("DarkDesk$Works", "needs", "I", false)
def tyX3 : Nat → FieldType := fun k => match k with
  | 0 => .array .int
  | 1 => .array .int
  | 2 => .array .int
  | 3 => .array .int
  | 4 => .array .int
  | 5 => .array .int
  | 6 => .int
  | _ => .int
abbrev wsX30 : List Cond := u_ws RX3 TX3 8
theorem nmX3 : ∀ a, a < 8 → ∀ b, b < 8 → a ≠ b → (TX3 a).2.1 ≠ (TX3 b).2.1 := by decide +kernel
theorem tyX3_ok : ∀ k, k < 8 → parseFieldDescriptor (TX3 k).2.2.1 = some (tyX3 k) := by decide +kernel
abbrev cX3_init : ByteArray := prog_5_method_1_code
def yX3_init : MethodName := ⟨RX3, "<init>", "()V"⟩
abbrev cX3_addWork : ByteArray := prog_5_method_2_code
def yX3_addWork : MethodName := ⟨RX3, "addWork", "(IIII)I"⟩
abbrev cX3_addNeed : ByteArray := prog_5_method_3_code
def yX3_addNeed : MethodName := ⟨RX3, "addNeed", "(IIZ)I"⟩
abbrev cX3_everyWork : ByteArray := prog_5_method_4_code
def yX3_everyWork : MethodName := ⟨RX3, "everyWork", "()I"⟩
abbrev cX3_canBeThin : ByteArray := prog_5_method_5_code
def yX3_canBeThin : MethodName := ⟨RX3, "canBeThin", "(I)Z"⟩
abbrev cX3_thoseThatCan : ByteArray := prog_5_method_6_code
def yX3_thoseThatCan : MethodName := ⟨RX3, "thoseThatCan", "(I)I"⟩
abbrev cX3_needsOf : ByteArray := prog_5_method_7_code
def yX3_needsOf : MethodName := ⟨RX3, "needsOf", "(II)I"⟩
abbrev cX3_needsOfAll : ByteArray := prog_5_method_8_code
def yX3_needsOfAll : MethodName := ⟨RX3, "needsOfAll", "(II)I"⟩
abbrev cX3_reachOf : ByteArray := prog_5_method_9_code
def yX3_reachOf : MethodName := ⟨RX3, "reachOf", "(II)I"⟩
abbrev cX3_leastSteps : ByteArray := prog_5_method_10_code
def yX3_leastSteps : MethodName := ⟨RX3, "leastSteps", "(II)I"⟩
abbrev cX3_inRings : ByteArray := prog_5_method_11_code
def yX3_inRings : MethodName := ⟨RX3, "inRings", "(I)I"⟩
abbrev cX3_hasRing : ByteArray := prog_5_method_12_code
def yX3_hasRing : MethodName := ⟨RX3, "hasRing", "(I)Z"⟩
abbrev cX3_cheapestCut : ByteArray := prog_5_method_13_code
def yX3_cheapestCut : MethodName := ⟨RX3, "cheapestCut", "()I"⟩
abbrev cX3_costOf : ByteArray := prog_5_method_14_code
def yX3_costOf : MethodName := ⟨RX3, "costOf", "(I)I"⟩
def RX4 : String := "DarkDesk"
def TX4 : u_T := fun k => match k with
  | 0 => ("DarkDesk", "works", "LDarkDesk$Works;", true)
  | 1 => ("DarkDesk", "stores", "LDarkDesk$Stores;", true)
  | 2 => ("DarkDesk", "planner", "LDarkDesk$Planner;", true)
  | _ => ("DarkDesk", "darkness", "LDarkDesk$Night;", true)
def tyX4 : Nat → FieldType := fun k => match k with
  | 0 => .object "DarkDesk$Works"
  | 1 => .object "DarkDesk$Stores"
  | 2 => .object "DarkDesk$Planner"
  | _ => .object "DarkDesk$Night"
abbrev wsX40 : List Cond := u_ws RX4 TX4 4
theorem nmX4 : ∀ a, a < 4 → ∀ b, b < 4 → a ≠ b → (TX4 a).2.1 ≠ (TX4 b).2.1 := by decide +kernel
theorem tyX4_ok : ∀ k, k < 4 → parseFieldDescriptor (TX4 k).2.2.1 = some (tyX4 k) := by decide +kernel
abbrev cX4_init : ByteArray := prog_1_method_1_code
def yX4_init : MethodName := ⟨RX4, "<init>", "()V"⟩
abbrev cX4_work : ByteArray := prog_1_method_2_code
def yX4_work : MethodName := ⟨RX4, "work", "(IIII)I"⟩
abbrev cX4_need : ByteArray := prog_1_method_3_code
def yX4_need : MethodName := ⟨RX4, "need", "(IIZ)I"⟩
abbrev cX4_hangs : ByteArray := prog_1_method_4_code
def yX4_hangs : MethodName := ⟨RX4, "hangs", "(I)I"⟩
abbrev cX4_steps : ByteArray := prog_1_method_5_code
def yX4_steps : MethodName := ⟨RX4, "steps", "(II)I"⟩
abbrev cX4_rings : ByteArray := prog_1_method_6_code
def yX4_rings : MethodName := ⟨RX4, "rings", "(I)I"⟩
abbrev cX4_cut : ByteArray := prog_1_method_7_code
def yX4_cut : MethodName := ⟨RX4, "cut", "()I"⟩
abbrev cX4_store : ByteArray := prog_1_method_8_code
def yX4_store : MethodName := ⟨RX4, "store", "()I"⟩
abbrev cX4_copy : ByteArray := prog_1_method_9_code
def yX4_copy : MethodName := ⟨RX4, "copy", "(III)I"⟩
abbrev cX4_torn : ByteArray := prog_1_method_10_code
def yX4_torn : MethodName := ⟨RX4, "torn", "(IIZ)Z"⟩
abbrev cX4_letter : ByteArray := prog_1_method_11_code
def yX4_letter : MethodName := ⟨RX4, "letter", "(IIII)I"⟩
abbrev cX4_change : ByteArray := prog_1_method_12_code
def yX4_change : MethodName := ⟨RX4, "change", "(II)I"⟩
abbrev cX4_together : ByteArray := prog_1_method_13_code
def yX4_together : MethodName := ⟨RX4, "together", "()Z"⟩
abbrev cX4_state : ByteArray := prog_1_method_14_code
def yX4_state : MethodName := ⟨RX4, "state", "(I)I"⟩
abbrev cX4_lost : ByteArray := prog_1_method_15_code
def yX4_lost : MethodName := ⟨RX4, "lost", "(I)I"⟩
abbrev cX4_plan : ByteArray := prog_1_method_16_code
def yX4_plan : MethodName := ⟨RX4, "plan", "(II)I"⟩
abbrev cX4_begins : ByteArray := prog_1_method_17_code
def yX4_begins : MethodName := ⟨RX4, "begins", "(I)I"⟩
abbrev cX4_night : ByteArray := prog_1_method_18_code
def yX4_night : MethodName := ⟨RX4, "night", "(I)V"⟩
abbrev cX4_begin : ByteArray := prog_1_method_19_code
def yX4_begin : MethodName := ⟨RX4, "begin", "(IZ)Z"⟩
abbrev cX4_tick : ByteArray := prog_1_method_20_code
def yX4_tick : MethodName := ⟨RX4, "tick", "(I)I"⟩
abbrev cX4_fail : ByteArray := prog_1_method_21_code
def yX4_fail : MethodName := ⟨RX4, "fail", "(I)Z"⟩
abbrev cX4_blow : ByteArray := prog_1_method_22_code
def yX4_blow : MethodName := ⟨RX4, "blow", "(I)I"⟩
abbrev cX4_look : ByteArray := prog_1_method_23_code
def yX4_look : MethodName := ⟨RX4, "look", "(II)I"⟩
abbrev cX4_now : ByteArray := prog_1_method_24_code
def yX4_now : MethodName := ⟨RX4, "now", "(I)I"⟩
abbrev cX4_count : ByteArray := prog_1_method_25_code
def yX4_count : MethodName := ⟨RX4, "count", "(I)I"⟩
abbrev cX4_endPlanAndNight : ByteArray := prog_1_method_26_code
def yX4_endPlanAndNight : MethodName := ⟨RX4, "endPlanAndNight", "()V"⟩
abbrev cX4_isWithin : ByteArray := prog_1_method_27_code
def yX4_isWithin : MethodName := ⟨RX4, "isWithin", "(III)Z"⟩
abbrev cX4_requireWork : ByteArray := prog_1_method_28_code
def yX4_requireWork : MethodName := ⟨RX4, "requireWork", "(I)V"⟩
abbrev cX4_requireStore : ByteArray := prog_1_method_29_code
def yX4_requireStore : MethodName := ⟨RX4, "requireStore", "(I)V"⟩
abbrev cX4_requireTick : ByteArray := prog_1_method_30_code
def yX4_requireTick : MethodName := ⟨RX4, "requireTick", "(I)V"⟩
abbrev cX4_requireHands : ByteArray := prog_1_method_31_code
def yX4_requireHands : MethodName := ⟨RX4, "requireHands", "(I)V"⟩
abbrev cX4_requireNight : ByteArray := prog_1_method_32_code
def yX4_requireNight : MethodName := ⟨RX4, "requireNight", "()V"⟩
def RX5 : String := "DarkDeskModel"
def TX5 : u_T := fun k => match k with
  | 0 => ("DarkDeskModel", "thrown", "I", false)
  | 1 => ("DarkDeskModel", "ticks", "[I", true)
  | 2 => ("DarkDeskModel", "hands", "[I", true)
  | 3 => ("DarkDeskModel", "weight", "[I", true)
  | 4 => ("DarkDeskModel", "cost", "[I", true)
  | 5 => ("DarkDeskModel", "works", "I", false)
  | 6 => ("DarkDeskModel", "needer", "[I", true)
  | 7 => ("DarkDeskModel", "needed", "[I", true)
  | 8 => ("DarkDeskModel", "isSoft", "[Z", true)
  | 9 => ("DarkDeskModel", "needs", "I", false)
  | 10 => ("DarkDeskModel", "far", "[I", true)
  | 11 => ("DarkDeskModel", "age", "[I", true)
  | 12 => ("DarkDeskModel", "log", "[I", true)
  | 13 => ("DarkDeskModel", "isTorn", "[Z", true)
  | 14 => ("DarkDeskModel", "copies", "[I", true)
  | 15 => ("DarkDeskModel", "stores", "I", false)
  | 16 => ("DarkDeskModel", "from", "[I", true)
  | 17 => ("DarkDeskModel", "sent", "[I", true)
  | 18 => ("DarkDeskModel", "to", "[I", true)
  | 19 => ("DarkDeskModel", "got", "[I", true)
  | 20 => ("DarkDeskModel", "letters", "I", false)
  | 21 => ("DarkDeskModel", "changed", "[I", true)
  | 22 => ("DarkDeskModel", "changedAt", "[I", true)
  | 23 => ("DarkDeskModel", "changes", "I", false)
  | 24 => ("DarkDeskModel", "state", "[I", true)
  | 25 => ("DarkDeskModel", "hasPlan", "Z", false)
  | 26 => ("DarkDeskModel", "begin", "[I", true)
  | 27 => ("DarkDeskModel", "tried", "[I", true)
  | 28 => ("DarkDeskModel", "taken", "[I", true)
  | 29 => ("DarkDeskModel", "planHands", "I", false)
  | 30 => ("DarkDeskModel", "planThin", "I", false)
  | 31 => ("DarkDeskModel", "least", "I", false)
  | 32 => ("DarkDeskModel", "hasNight", "Z", false)
  | 33 => ("DarkDeskModel", "nightHands", "I", false)
  | 34 => ("DarkDeskModel", "tick", "I", false)
  | 35 => ("DarkDeskModel", "away", "I", false)
  | 36 => ("DarkDeskModel", "is", "[I", true)
  | 37 => ("DarkDeskModel", "toGo", "[I", true)
  | _ => ("DarkDeskModel", "isThin", "[Z", true)
def tyX5 : Nat → FieldType := fun k => match k with
  | 0 => .int
  | 1 => .array .int
  | 2 => .array .int
  | 3 => .array .int
  | 4 => .array .int
  | 5 => .int
  | 6 => .array .int
  | 7 => .array .int
  | 8 => .array .boolean
  | 9 => .int
  | 10 => .array .int
  | 11 => .array .int
  | 12 => .array .int
  | 13 => .array .boolean
  | 14 => .array .int
  | 15 => .int
  | 16 => .array .int
  | 17 => .array .int
  | 18 => .array .int
  | 19 => .array .int
  | 20 => .int
  | 21 => .array .int
  | 22 => .array .int
  | 23 => .int
  | 24 => .array .int
  | 25 => .boolean
  | 26 => .array .int
  | 27 => .array .int
  | 28 => .array .int
  | 29 => .int
  | 30 => .int
  | 31 => .int
  | 32 => .boolean
  | 33 => .int
  | 34 => .int
  | 35 => .int
  | 36 => .array .int
  | 37 => .array .int
  | _ => .array .boolean
abbrev wsX50 : List Cond := u_ws RX5 TX5 39
theorem nmX5 : ∀ a, a < 39 → ∀ b, b < 39 → a ≠ b → (TX5 a).2.1 ≠ (TX5 b).2.1 := by decide +kernel
theorem tyX5_ok : ∀ k, k < 39 → parseFieldDescriptor (TX5 k).2.2.1 = some (tyX5 k) := by decide +kernel
abbrev cX5_init : ByteArray := prog_7_method_1_code
def yX5_init : MethodName := ⟨RX5, "<init>", "()V"⟩
abbrev cX5_thrown : ByteArray := prog_7_method_2_code
def yX5_thrown : MethodName := ⟨RX5, "thrown", "()I"⟩
abbrev cX5_throwsIf : ByteArray := prog_7_method_3_code
def yX5_throwsIf : MethodName := ⟨RX5, "throwsIf", "(ZI)Z"⟩
abbrev cX5_in : ByteArray := prog_7_method_4_code
def yX5_in : MethodName := ⟨RX5, "in", "(III)Z"⟩
abbrev cX5_noWork : ByteArray := prog_7_method_5_code
def yX5_noWork : MethodName := ⟨RX5, "noWork", "(I)Z"⟩
abbrev cX5_ends : ByteArray := prog_7_method_6_code
def yX5_ends : MethodName := ⟨RX5, "ends", "()V"⟩
abbrev cX5_work : ByteArray := prog_7_method_7_code
def yX5_work : MethodName := ⟨RX5, "work", "(IIII)I"⟩
abbrev cX5_need : ByteArray := prog_7_method_8_code
def yX5_need : MethodName := ⟨RX5, "need", "(IIZ)I"⟩
abbrev cX5_canBeThin : ByteArray := prog_7_method_9_code
def yX5_canBeThin : MethodName := ⟨RX5, "canBeThin", "(I)Z"⟩
abbrev cX5_counts : ByteArray := prog_7_method_10_code
def yX5_counts : MethodName := ⟨RX5, "counts", "(II)Z"⟩
abbrev cX5_measures : ByteArray := prog_7_method_11_code
def yX5_measures : MethodName := ⟨RX5, "measures", "(I)V"⟩
abbrev cX5_hangs : ByteArray := prog_7_method_12_code
def yX5_hangs : MethodName := ⟨RX5, "hangs", "(I)I"⟩
abbrev cX5_steps : ByteArray := prog_7_method_13_code
def yX5_steps : MethodName := ⟨RX5, "steps", "(II)I"⟩
abbrev cX5_ringsOf : ByteArray := prog_7_method_14_code
def yX5_ringsOf : MethodName := ⟨RX5, "ringsOf", "(I)I"⟩
abbrev cX5_rings : ByteArray := prog_7_method_15_code
def yX5_rings : MethodName := ⟨RX5, "rings", "(I)I"⟩
abbrev cX5_cut : ByteArray := prog_7_method_16_code
def yX5_cut : MethodName := ⟨RX5, "cut", "()I"⟩
abbrev cX5_noStore : ByteArray := prog_7_method_17_code
def yX5_noStore : MethodName := ⟨RX5, "noStore", "(I)Z"⟩
abbrev cX5_isTick : ByteArray := prog_7_method_18_code
def yX5_isTick : MethodName := ⟨RX5, "isTick", "(I)Z"⟩
abbrev cX5_store : ByteArray := prog_7_method_19_code
def yX5_store : MethodName := ⟨RX5, "store", "()I"⟩
abbrev cX5_copy : ByteArray := prog_7_method_20_code
def yX5_copy : MethodName := ⟨RX5, "copy", "(III)I"⟩
abbrev cX5_torn : ByteArray := prog_7_method_21_code
def yX5_torn : MethodName := ⟨RX5, "torn", "(IIZ)Z"⟩
abbrev cX5_letter : ByteArray := prog_7_method_22_code
def yX5_letter : MethodName := ⟨RX5, "letter", "(IIII)I"⟩
abbrev cX5_change : ByteArray := prog_7_method_23_code
def yX5_change : MethodName := ⟨RX5, "change", "(II)I"⟩
abbrev cX5_upTo : ByteArray := prog_7_method_24_code
def yX5_upTo : MethodName := ⟨RX5, "upTo", "(II)I"⟩
abbrev cX5_chooses : ByteArray := prog_7_method_25_code
def yX5_chooses : MethodName := ⟨RX5, "chooses", "()Z"⟩
abbrev cX5_together : ByteArray := prog_7_method_26_code
def yX5_together : MethodName := ⟨RX5, "together", "()Z"⟩
abbrev cX5_state : ByteArray := prog_7_method_27_code
def yX5_state : MethodName := ⟨RX5, "state", "(I)I"⟩
abbrev cX5_lost : ByteArray := prog_7_method_28_code
def yX5_lost : MethodName := ⟨RX5, "lost", "(I)I"⟩
abbrev cX5_earliest : ByteArray := prog_7_method_29_code
def yX5_earliest : MethodName := ⟨RX5, "earliest", "(I)I"⟩
abbrev cX5_firstFree : ByteArray := prog_7_method_30_code
def yX5_firstFree : MethodName := ⟨RX5, "firstFree", "(II)I"⟩
abbrev cX5_isReady : ByteArray := prog_7_method_31_code
def yX5_isReady : MethodName := ⟨RX5, "isReady", "(II)Z"⟩
abbrev cX5_isBetter : ByteArray := prog_7_method_32_code
def yX5_isBetter : MethodName := ⟨RX5, "isBetter", "(I)Z"⟩
abbrev cX5_seeks : ByteArray := prog_7_method_33_code
def yX5_seeks : MethodName := ⟨RX5, "seeks", "(II)V"⟩
abbrev cX5_plan : ByteArray := prog_7_method_34_code
def yX5_plan : MethodName := ⟨RX5, "plan", "(II)I"⟩
abbrev cX5_begins : ByteArray := prog_7_method_35_code
def yX5_begins : MethodName := ⟨RX5, "begins", "(I)I"⟩
abbrev cX5_night : ByteArray := prog_7_method_36_code
def yX5_night : MethodName := ⟨RX5, "night", "(I)V"⟩
abbrev cX5_free : ByteArray := prog_7_method_37_code
def yX5_free : MethodName := ⟨RX5, "free", "()I"⟩
abbrev cX5_stands : ByteArray := prog_7_method_38_code
def yX5_stands : MethodName := ⟨RX5, "stands", "(IZI)Z"⟩
abbrev cX5_begin : ByteArray := prog_7_method_39_code
def yX5_begin : MethodName := ⟨RX5, "begin", "(IZ)Z"⟩
abbrev cX5_tick : ByteArray := prog_7_method_40_code
def yX5_tick : MethodName := ⟨RX5, "tick", "(I)I"⟩
abbrev cX5_fail : ByteArray := prog_7_method_41_code
def yX5_fail : MethodName := ⟨RX5, "fail", "(I)Z"⟩
abbrev cX5_falls : ByteArray := prog_7_method_42_code
def yX5_falls : MethodName := ⟨RX5, "falls", "(I)V"⟩
abbrev cX5_blow : ByteArray := prog_7_method_43_code
def yX5_blow : MethodName := ⟨RX5, "blow", "(I)I"⟩
abbrev cX5_look : ByteArray := prog_7_method_44_code
def yX5_look : MethodName := ⟨RX5, "look", "(II)I"⟩
abbrev cX5_now : ByteArray := prog_7_method_45_code
def yX5_now : MethodName := ⟨RX5, "now", "(I)I"⟩
abbrev cX5_count : ByteArray := prog_7_method_46_code
def yX5_count : MethodName := ⟨RX5, "count", "(I)I"⟩
def RJ9 : String := "java/lang/Math"
def TJ9 : u_T := fun k => match k with
  | _ => ("", "", "", false)
def tyJ9 : Nat → FieldType := fun k => match k with
  | _ => .int
abbrev wsJ90 : List Cond := u_ws RJ9 TJ9 0
theorem nmJ9 : ∀ a, a < 0 → ∀ b, b < 0 → a ≠ b → (TJ9 a).2.1 ≠ (TJ9 b).2.1 := by decide +kernel
theorem tyJ9_ok : ∀ k, k < 0 → parseFieldDescriptor (TJ9 k).2.2.1 = some (tyJ9 k) := by decide +kernel
abbrev cJ9_max_7cf53 : ByteArray := prog_12_method_65_code
def yJ9_max_7cf53 : MethodName := ⟨RJ9, "max", "(II)I"⟩
abbrev cJ9_min_7cf53 : ByteArray := prog_12_method_69_code
def yJ9_min_7cf53 : MethodName := ⟨RJ9, "min", "(II)I"⟩
def RJ0 : String := "java/lang/String"
def TJ0 : u_T := fun k => match k with
  | _ => ("", "", "", false)
def tyJ0 : Nat → FieldType := fun k => match k with
  | _ => .int
abbrev wsJ00 : List Cond := u_ws RJ0 TJ0 0
theorem nmJ0 : ∀ a, a < 0 → ∀ b, b < 0 → a ≠ b → (TJ0 a).2.1 ≠ (TJ0 b).2.1 := by decide +kernel
theorem tyJ0_ok : ∀ k, k < 0 → parseFieldDescriptor (TJ0 k).2.2.1 = some (tyJ0 k) := by decide +kernel
def RJ10 : String := "java/lang/System"
def TJ10 : u_T := fun k => match k with
  | _ => ("", "", "", false)
def tyJ10 : Nat → FieldType := fun k => match k with
  | _ => .int
abbrev wsJ100 : List Cond := u_ws RJ10 TJ10 0
theorem nmJ10 : ∀ a, a < 0 → ∀ b, b < 0 → a ≠ b → (TJ10 a).2.1 ≠ (TJ10 b).2.1 := by decide +kernel
theorem tyJ10_ok : ∀ k, k < 0 → parseFieldDescriptor (TJ10 k).2.2.1 = some (tyJ10 k) := by decide +kernel
def RJ7 : String := "java/util/Arrays"
def TJ7 : u_T := fun k => match k with
  | _ => ("", "", "", false)
def tyJ7 : Nat → FieldType := fun k => match k with
  | _ => .int
abbrev wsJ70 : List Cond := u_ws RJ7 TJ7 0
theorem nmJ7 : ∀ a, a < 0 → ∀ b, b < 0 → a ≠ b → (TJ7 a).2.1 ≠ (TJ7 b).2.1 := by decide +kernel
theorem tyJ7_ok : ∀ k, k < 0 → parseFieldDescriptor (TJ7 k).2.2.1 = some (tyJ7 k) := by decide +kernel
abbrev cJ7_fill_53178 : ByteArray := prog_18_method_103_code
def yJ7_fill_53178 : MethodName := ⟨RJ7, "fill", "([II)V"⟩
def RL : String := "DarkDeskLaw"
abbrev cL_work : ByteArray := method_3_code
def yL_work : MethodName := ⟨RL, "work", "(LDarkDesk;IIII[J)I"⟩
abbrev cL_need : ByteArray := method_4_code
def yL_need : MethodName := ⟨RL, "need", "(LDarkDesk;IIZ[J)I"⟩
abbrev cL_hangs : ByteArray := method_5_code
def yL_hangs : MethodName := ⟨RL, "hangs", "(LDarkDesk;I[J)I"⟩
abbrev cL_steps : ByteArray := method_6_code
def yL_steps : MethodName := ⟨RL, "steps", "(LDarkDesk;II[J)I"⟩
abbrev cL_store : ByteArray := method_7_code
def yL_store : MethodName := ⟨RL, "store", "(LDarkDesk;[J)I"⟩
abbrev cL_copy : ByteArray := method_8_code
def yL_copy : MethodName := ⟨RL, "copy", "(LDarkDesk;III[J)I"⟩
abbrev cL_torn : ByteArray := method_9_code
def yL_torn : MethodName := ⟨RL, "torn", "(LDarkDesk;IIZ[J)I"⟩
abbrev cL_letter : ByteArray := method_10_code
def yL_letter : MethodName := ⟨RL, "letter", "(LDarkDesk;IIII[J)I"⟩
abbrev cL_change : ByteArray := method_11_code
def yL_change : MethodName := ⟨RL, "change", "(LDarkDesk;II[J)I"⟩
abbrev cL_state : ByteArray := method_12_code
def yL_state : MethodName := ⟨RL, "state", "(LDarkDesk;I[J)I"⟩
abbrev cL_lost : ByteArray := method_13_code
def yL_lost : MethodName := ⟨RL, "lost", "(LDarkDesk;I[J)I"⟩
abbrev cL_plan : ByteArray := method_14_code
def yL_plan : MethodName := ⟨RL, "plan", "(LDarkDesk;II[J)I"⟩
abbrev cL_begins : ByteArray := method_15_code
def yL_begins : MethodName := ⟨RL, "begins", "(LDarkDesk;I[J)I"⟩
abbrev cL_night : ByteArray := method_16_code
def yL_night : MethodName := ⟨RL, "night", "(LDarkDesk;I)I"⟩
abbrev cL_begin : ByteArray := method_17_code
def yL_begin : MethodName := ⟨RL, "begin", "(LDarkDesk;IZ[J)I"⟩
abbrev cL_tick : ByteArray := method_18_code
def yL_tick : MethodName := ⟨RL, "tick", "(LDarkDesk;I[J)I"⟩
abbrev cL_fail : ByteArray := method_19_code
def yL_fail : MethodName := ⟨RL, "fail", "(LDarkDesk;I[J)I"⟩
abbrev cL_blow : ByteArray := method_20_code
def yL_blow : MethodName := ⟨RL, "blow", "(LDarkDesk;I[J)I"⟩
abbrev cL_look : ByteArray := method_21_code
def yL_look : MethodName := ⟨RL, "look", "(LDarkDesk;II[J)I"⟩
abbrev cL_now : ByteArray := method_22_code
def yL_now : MethodName := ⟨RL, "now", "(LDarkDesk;I[J)I"⟩
abbrev cL_law : ByteArray := code
def yL_law : MethodName := ⟨RL, "law", "([I)Z"⟩
end
section
/-! ===== the pure machine: its tables (printed by wip/whole/tables.py) ===== -/
abbrev ex_L : Type := (Nat × Nat × Nat) ⊕ (Nat × List (Nat × Nat))
def ex_lay : List ex_L := [.inr (0, [(2, 3), (2, 6), (0, 2), (0, 3), (0, 4), (0, 5), (0, 6), (0, 7), (0, 8)]), .inr (1, [(2, 3), (2, 7), (2, 8), (2, 9), (2, 10), (2, 11), (2, 12), (2, 13), (2, 14), (2, 15), (0, 110), (0, 111), (0, 112), (1, 113), (0, 114), (1, 115), (0, 116), (0, 117)]), .inr (2, [(2, 16), (2, 17), (2, 18), (2, 19), (2, 20), (2, 21), (2, 22), (2, 23), (2, 24), (2, 25), (2, 26), (0, 211), (0, 212), (0, 213)]), .inr (3, [(2, 27), (2, 28), (2, 29), (2, 30), (2, 31), (2, 32), (0, 306), (0, 307)]), .inr (4, [(2, 3), (2, 2), (2, 1), (2, 0)]), .inr (5, [(0, 500), (2, 33), (2, 34), (2, 35), (2, 36), (0, 505), (2, 37), (2, 38), (2, 39), (0, 509), (2, 40), (2, 41), (2, 42), (2, 43), (2, 44), (0, 515), (2, 45), (2, 46), (2, 47), (2, 48), (0, 520), (2, 49), (2, 50), (0, 523), (2, 51), (0, 525), (2, 52), (2, 53), (2, 54), (0, 529), (0, 530), (0, 531), (0, 532), (0, 533), (0, 534), (0, 535), (2, 55), (2, 56), (2, 57)]), .inl (0, 8, 6), .inl (0, 8, 7), .inl (0, 8, 8), .inl (0, 8, 9), .inl (0, 97, 10), .inl (0, 8, 11), .inl (0, 72, 12), .inl (0, 256, 13), .inl (2, 256, 14), .inl (0, 8, 15), .inl (0, 6, 16), .inl (0, 24, 17), .inl (0, 24, 18), .inl (1, 24, 19), .inl (0, 30, 20), .inl (0, 30, 21), .inl (0, 30, 22), .inl (0, 30, 23), .inl (0, 80, 24), .inl (0, 80, 25), .inl (0, 6, 26), .inl (0, 8, 27), .inl (0, 8, 28), .inl (0, 8, 29), .inl (0, 8, 30), .inl (0, 8, 31), .inl (0, 8, 32), .inl (0, 8, 33), .inl (0, 8, 34), .inl (0, 8, 35), .inl (0, 8, 36), .inl (0, 40, 37), .inl (0, 40, 38), .inl (1, 40, 39), .inl (0, 64, 40), .inl (0, 24, 41), .inl (0, 24, 42), .inl (1, 24, 43), .inl (0, 6, 44), .inl (0, 30, 45), .inl (0, 30, 46), .inl (0, 30, 47), .inl (0, 30, 48), .inl (0, 80, 49), .inl (0, 80, 50), .inl (0, 6, 51), .inl (0, 8, 52), .inl (0, 8, 53), .inl (0, 200, 54), .inl (0, 8, 55), .inl (0, 8, 56), .inl (1, 8, 57), .inl (2, 1, 58)]
abbrev ex_cl : List vw_C := [(RX0, TX0, 9), (RX1, TX1, 18), (RX2, TX2, 14), (RX3, TX3, 8), (RX4, TX4, 4), (RX5, TX5, 39)]
def ex_own : Nat → String
  | 0 => RX0
  | 1 => RX1
  | 2 => RX2
  | 3 => RX3
  | 4 => RX4
  | 5 => RX5
  | 6 => RL
  | _ => RJ7
def ex_fld : Nat → List (Nat × Nat × Nat × Bool)
  | 0 => [(9, 0, 1, false), (15, 0, 0, false), (19, 0, 2, false), (23, 0, 3, false), (27, 0, 4, false), (30, 0, 5, false), (33, 0, 6, false), (36, 0, 7, false), (39, 0, 8, false), (48, 3, 6, true), (53, 3, 1, true), (67, 3, 0, true), (70, 3, 3, true), (76, 3, 2, true)]
  | 1 => [(9, 1, 1, false), (15, 1, 2, false), (18, 1, 3, false), (21, 1, 4, false), (24, 1, 5, false), (27, 1, 6, false), (30, 1, 7, false), (33, 1, 8, false), (37, 1, 9, false), (40, 1, 0, false), (44, 1, 10, false), (48, 1, 11, false), (76, 1, 12, false), (79, 1, 13, false), (91, 3, 6, true), (94, 3, 1, true), (104, 3, 2, true), (107, 3, 0, true), (113, 1, 14, false), (116, 1, 15, false), (137, 1, 17, false), (151, 1, 16, false)]
  | 2 => [(9, 2, 0, false), (15, 2, 1, false), (18, 2, 2, false), (21, 2, 3, false), (25, 2, 4, false), (28, 2, 5, false), (31, 2, 6, false), (34, 2, 7, false), (37, 2, 8, false), (40, 2, 9, false), (43, 2, 10, false), (46, 2, 11, false), (50, 2, 12, false), (53, 2, 13, false)]
  | 3 => [(9, 3, 0, false), (15, 3, 1, false), (18, 3, 2, false), (21, 3, 3, false), (24, 3, 4, false), (27, 3, 5, false), (30, 3, 6, false), (34, 3, 7, false)]
  | 4 => [(10, 4, 0, false), (19, 4, 1, false), (28, 4, 2, false), (35, 4, 3, false), (50, 3, 6, true), (72, 3, 7, true), (99, 2, 11, true), (113, 2, 0, true), (134, 2, 12, true), (142, 2, 13, true), (154, 2, 10, true), (166, 1, 10, true), (170, 1, 9, true), (198, 0, 1, true), (201, 0, 8, true), (209, 0, 4, true), (215, 0, 5, true), (218, 0, 6, true), (223, 0, 2, true)]
  | 5 => [(9, 5, 1, false), (13, 5, 2, false), (16, 5, 3, false), (19, 5, 4, false), (22, 5, 6, false), (25, 5, 7, false), (28, 5, 8, false), (32, 5, 10, false), (35, 5, 11, false), (38, 5, 12, false), (41, 5, 13, false), (44, 5, 14, false), (47, 5, 16, false), (50, 5, 17, false), (53, 5, 18, false), (56, 5, 19, false), (59, 5, 21, false), (62, 5, 22, false), (65, 5, 24, false), (68, 5, 26, false), (71, 5, 27, false), (74, 5, 28, false), (77, 5, 36, false), (80, 5, 37, false), (83, 5, 38, false), (86, 5, 0, false), (90, 5, 5, false), (97, 5, 32, false), (101, 5, 25, false), (115, 5, 9, false), (134, 5, 15, false), (144, 5, 20, false), (147, 5, 23, false), (166, 5, 30, false), (172, 5, 29, false), (175, 5, 31, false), (191, 5, 33, false), (194, 5, 34, false), (197, 5, 35, false)]
  | _ => []
def ex_cal : Nat → List (Nat × Nat)
  | 0 => [(42, 143), (55, 36), (59, 38), (63, 2), (73, 5), (79, 8), (83, 9)]
  | 1 => [(52, 11), (56, 43), (62, 12), (66, 13), (69, 143), (83, 15), (87, 45), (96, 38), (100, 14), (110, 16), (119, 23), (123, 35), (133, 18), (140, 19), (144, 20), (147, 21), (159, 17), (166, 22)]
  | 2 => [(66, 29), (69, 31)]
  | 3 => [(37, 36), (41, 38), (45, 39), (48, 40), (51, 35), (55, 37), (59, 45), (62, 43)]
  | 4 => [(39, 71), (59, 70), (62, 33), (66, 72), (77, 34), (81, 40), (85, 41), (88, 37), (92, 42), (95, 44), (102, 24), (105, 73), (108, 74), (119, 25), (128, 26), (139, 27), (147, 28), (150, 30), (157, 32), (160, 75), (163, 10), (173, 0), (176, 76), (179, 3), (185, 4), (188, 6), (192, 7), (195, 1), (212, 2)]
  | 5 => [(93, 79), (104, 78), (108, 81), (111, 80), (118, 84), (122, 85), (126, 86), (130, 89), (138, 92), (141, 93), (159, 99), (162, 100), (169, 105), (178, 107), (181, 106), (184, 104), (187, 108), (200, 112), (204, 113), (208, 117)]
  | 6 => [(7, 46), (17, 47), (23, 48), (27, 49), (31, 52), (35, 53), (39, 54), (43, 55), (46, 56), (49, 58), (52, 59), (55, 60), (58, 61), (61, 62), (65, 63), (71, 64), (74, 65), (78, 66), (81, 67), (86, 68), (93, 122), (98, 82), (99, 77), (102, 123), (105, 83), (106, 124), (109, 87), (110, 125), (113, 88), (114, 50), (117, 90), (118, 51), (121, 91), (122, 126), (125, 94), (126, 127), (129, 95), (130, 128), (132, 96), (133, 129), (135, 97), (136, 130), (138, 98), (139, 57), (143, 101), (144, 131), (146, 102), (147, 132), (149, 103), (150, 133), (152, 109), (153, 134), (155, 110), (156, 135), (159, 111), (160, 136), (163, 114), (164, 137), (166, 115), (167, 138), (169, 116), (170, 139), (172, 118), (173, 140), (175, 119), (176, 141), (178, 120), (179, 69), (182, 121)]
  | _ => []
def ex_nat : Nat → List (Nat × Nat)
  | 1 => [(127, 1), (154, 2), (163, 3)]
  | 2 => [(56, 3), (62, 2)]
  | 5 => [(150, 3), (156, 2)]
  | _ => []
def ex_cst : Nat → List (Nat × Int32)
  | 1 => [(75, 1000000)]
  | 2 => [(65, 100000)]
  | 4 => [(228, 100000)]
  | 5 => [(121, 1000000), (137, 100000)]
  | _ => []
def ex_thr : Nat → List (Nat × Nat × Nat × String × String)
  | 4 => [(43, 45, 47, "java/lang/IllegalArgumentException", "a number of a work is none"), (54, 56, 58, "java/lang/UnsupportedOperationException", "there are 8 works"), (43, 70, 47, "java/lang/IllegalArgumentException", "the works are one"), (54, 75, 58, "java/lang/UnsupportedOperationException", "there are 40 needs"), (54, 100, 58, "java/lang/UnsupportedOperationException", "there are 6 stores"), (43, 111, 47, "java/lang/IllegalArgumentException", "the log is ahead of the age"), (54, 117, 58, "java/lang/UnsupportedOperationException", "the store has 4 copies"), (123, 125, 127, "java/lang/IndexOutOfBoundsException", "there is no such copy"), (43, 132, 47, "java/lang/IllegalArgumentException", "the stores are one, or it was got ahead of being sent"), (54, 137, 58, "java/lang/UnsupportedOperationException", "there are 30 letters"), (54, 145, 58, "java/lang/UnsupportedOperationException", "there are 80 changes"), (43, 183, 47, "java/lang/IllegalArgumentException", "not 0 to 100 ticks"), (204, 206, 208, "java/util/NoSuchElementException", "there is no such thing of a work"), (204, 221, 208, "java/util/NoSuchElementException", "there is no such thing of the night"), (123, 224, 127, "java/lang/IndexOutOfBoundsException", "there is no such work"), (123, 226, 127, "java/lang/IndexOutOfBoundsException", "there is no such store"), (43, 229, 47, "java/lang/IllegalArgumentException", "the tick is none"), (43, 231, 47, "java/lang/IllegalArgumentException", "so many hands are none"), (233, 235, 237, "java/lang/IllegalStateException", "there is no night")]
  | _ => []
def ex_cat : Nat → List (Nat × String)
  | 6 => [(13, "java/lang/IllegalArgumentException"), (15, "java/lang/UnsupportedOperationException"), (21, "java/lang/IndexOutOfBoundsException"), (69, "java/lang/IllegalStateException"), (84, "java/util/NoSuchElementException")]
  | _ => []
/-- name, bytes, locals, answer, class, table of catches, cells, instance (1) or static (0), parameters, places of second halves, instructions -/
abbrev ex_MD : Type := MethodName × ByteArray × Nat × Option FieldType × Nat × Option (List (Nat × Nat × Nat × Nat)) × Nat × Nat × Nat × List Nat × List (Nat × Instr × Nat)
def ex_p_X0_fall : List (Nat × Instr × Nat) := [(0, .aload_n 0, 1), (1, .iconst 1, 1), (2, .putfield 19, 3), (5, .aload_n 0, 1), (6, .iload_n 1, 1), (7, .putfield 23, 3), (10, .aload_n 0, 1), (11, .iconst 0, 1), (12, .putfield 27, 3), (15, .aload_n 0, 1), (16, .iconst 0, 1), (17, .putfield 30, 3), (20, .aload_n 0, 1), (21, .iconst 0, 1), (22, .putfield 33, 3), (25, .aload_n 0, 1), (26, .iconst 0, 1), (27, .putfield 36, 3), (30, .aload_n 0, 1), (31, .iconst 0, 1), (32, .putfield 39, 3), (35, .aload_n 0, 1), (36, .getfield 9, 3), (39, .iconst 0, 1), (40, .invokestatic 42, 3), (43, .return_, 1)]
def ex_m_X0_fall : ex_MD := (yX0_fall, cX0_fall, 2, none, 0, none, 0, 1, 1, [], ex_p_X0_fall)
def ex_p_X0_stage : List (Nat × Instr × Nat) := [(0, .aload_n 0, 1), (1, .getfield 33, 3), (4, .iload_n 1, 1), (5, .ishr, 1), (6, .iconst 1, 1), (7, .iand, 1), (8, .ifCond .eq 5, 3), (11, .iconst 2, 1), (12, .ireturn, 1), (13, .aload_n 0, 1), (14, .getfield 36, 3), (17, .iload_n 1, 1), (18, .ishr, 1), (19, .iconst 1, 1), (20, .iand, 1), (21, .ireturn, 1)]
def ex_m_X0_stage : ex_MD := (yX0_stage, cX0_stage, 2, (some .int), 0, none, 0, 1, 1, [], ex_p_X0_stage)
def ex_p_X0_freeHands : List (Nat × Instr × Nat) := [(0, .aload_n 0, 1), (1, .getfield 23, 3), (4, .istore_n 1, 1), (5, .iconst 0, 1), (6, .istore_n 2, 1), (7, .iload_n 2, 1), (8, .aload_n 0, 1), (9, .getfield 15, 3), (12, .getfield 48, 3), (15, .if_icmp .ge 32, 3), (18, .aload_n 0, 1), (19, .getfield 36, 3), (22, .iload_n 2, 1), (23, .ishr, 1), (24, .iconst 1, 1), (25, .iand, 1), (26, .ifCond .eq 15, 3), (29, .iload_n 1, 1), (30, .aload_n 0, 1), (31, .getfield 15, 3), (34, .getfield 53, 3), (37, .iload_n 2, 1), (38, .iaload, 1), (39, .isub, 1), (40, .istore_n 1, 1), (41, .iinc 2 1, 3), (44, .goto (-37), 3), (47, .iload_n 1, 1), (48, .ireturn, 1)]
def ex_m_X0_freeHands : ex_MD := (yX0_freeHands, cX0_freeHands, 3, (some .int), 0, none, 0, 1, 0, [], ex_p_X0_freeHands)
def ex_p_X0_launch : List (Nat × Instr × Nat) := [(0, .iconst 1, 1), (1, .iload_n 1, 1), (2, .ishl, 1), (3, .istore_n 3, 1), (4, .aload_n 0, 1), (5, .getfield 33, 3), (8, .aload_n 0, 1), (9, .getfield 36, 3), (12, .ior, 1), (13, .iload_n 3, 1), (14, .iand, 1), (15, .ifCond .ne 18, 3), (18, .iload_n 2, 1), (19, .ifCond .eq 16, 3), (22, .aload_n 0, 1), (23, .getfield 15, 3), (26, .iload_n 1, 1), (27, .invokevirtual 55, 3), (30, .ifCond .ne 5, 3), (33, .iconst 0, 1), (34, .ireturn, 1), (35, .aload_n 0, 1), (36, .getfield 15, 3), (39, .iload_n 1, 1), (40, .iload_n 2, 1), (41, .ifCond .eq 7, 3), (44, .iload_n 3, 1), (45, .goto 4, 3), (48, .iconst 0, 1), (49, .invokevirtual 59, 3), (52, .istore 4, 2), (54, .iload 4, 2), (56, .aload_n 0, 1), (57, .getfield 33, 3), (60, .iconst (-1), 1), (61, .ixor, 1), (62, .iand, 1), (63, .ifCond .ne 19, 3), (66, .aload_n 0, 1), (67, .getfield 15, 3), (70, .getfield 53, 3), (73, .iload_n 1, 1), (74, .iaload, 1), (75, .aload_n 0, 1), (76, .invokevirtual 63, 3), (79, .if_icmp .le 5, 3), (82, .iconst 0, 1), (83, .ireturn, 1), (84, .aload_n 0, 1), (85, .dup, 1), (86, .getfield 36, 3), (89, .iload_n 3, 1), (90, .ior, 1), (91, .putfield 36, 3), (94, .aload_n 0, 1), (95, .getfield 9, 3), (98, .iload_n 1, 1), (99, .aload_n 0, 1), (100, .getfield 15, 3), (103, .getfield 67, 3), (106, .iload_n 1, 1), (107, .iaload, 1), (108, .iastore, 1), (109, .iload_n 2, 1), (110, .ifCond .eq 31, 3), (113, .aload_n 0, 1), (114, .dup, 1), (115, .getfield 39, 3), (118, .iload_n 3, 1), (119, .ior, 1), (120, .putfield 39, 3), (123, .aload_n 0, 1), (124, .dup, 1), (125, .getfield 30, 3), (128, .aload_n 0, 1), (129, .getfield 15, 3), (132, .getfield 70, 3), (135, .iload_n 1, 1), (136, .iaload, 1), (137, .iadd, 1), (138, .putfield 30, 3), (141, .iconst 1, 1), (142, .ireturn, 1)]
def ex_m_X0_launch : ex_MD := (yX0_launch, cX0_launch, 5, (some .boolean), 0, none, 0, 1, 2, [], ex_p_X0_launch)
def ex_p_X0_pass : List (Nat × Instr × Nat) := [(0, .iconst 0, 1), (1, .istore_n 2, 1), (2, .iload_n 2, 1), (3, .iload_n 1, 1), (4, .if_icmp .ge 13, 3), (7, .aload_n 0, 1), (8, .invokevirtual 73, 3), (11, .iinc 2 1, 3), (14, .goto (-12), 3), (17, .aload_n 0, 1), (18, .getfield 27, 3), (21, .ireturn, 1)]
def ex_m_X0_pass : ex_MD := (yX0_pass, cX0_pass, 3, (some .int), 0, none, 0, 1, 1, [], ex_p_X0_pass)
def ex_p_X0_passOne : List (Nat × Instr × Nat) := [(0, .aload_n 0, 1), (1, .dup, 1), (2, .getfield 27, 3), (5, .iconst 1, 1), (6, .iadd, 1), (7, .putfield 27, 3), (10, .iconst 0, 1), (11, .istore_n 1, 1), (12, .iload_n 1, 1), (13, .aload_n 0, 1), (14, .getfield 15, 3), (17, .getfield 48, 3), (20, .if_icmp .ge 90, 3), (23, .iconst 1, 1), (24, .iload_n 1, 1), (25, .ishl, 1), (26, .istore_n 2, 1), (27, .aload_n 0, 1), (28, .getfield 33, 3), (31, .iload_n 2, 1), (32, .iand, 1), (33, .ifCond .ne 21, 3), (36, .aload_n 0, 1), (37, .dup, 1), (38, .getfield 30, 3), (41, .aload_n 0, 1), (42, .getfield 15, 3), (45, .getfield 76, 3), (48, .iload_n 1, 1), (49, .iaload, 1), (50, .iadd, 1), (51, .putfield 30, 3), (54, .aload_n 0, 1), (55, .getfield 36, 3), (58, .iload_n 2, 1), (59, .iand, 1), (60, .ifCond .eq 44, 3), (63, .aload_n 0, 1), (64, .getfield 9, 3), (67, .iload_n 1, 1), (68, .dup2, 1), (69, .iaload, 1), (70, .iconst 1, 1), (71, .isub, 1), (72, .iastore, 1), (73, .aload_n 0, 1), (74, .getfield 9, 3), (77, .iload_n 1, 1), (78, .iaload, 1), (79, .ifCond .ne 25, 3), (82, .aload_n 0, 1), (83, .dup, 1), (84, .getfield 36, 3), (87, .iload_n 2, 1), (88, .iconst (-1), 1), (89, .ixor, 1), (90, .iand, 1), (91, .putfield 36, 3), (94, .aload_n 0, 1), (95, .dup, 1), (96, .getfield 33, 3), (99, .iload_n 2, 1), (100, .ior, 1), (101, .putfield 33, 3), (104, .iinc 1 1, 3), (107, .goto (-95), 3), (110, .return_, 1)]
def ex_m_X0_passOne : ex_MD := (yX0_passOne, cX0_passOne, 3, none, 0, none, 0, 1, 0, [], ex_p_X0_passOne)
def ex_p_X0_stumble : List (Nat × Instr × Nat) := [(0, .aload_n 0, 1), (1, .getfield 36, 3), (4, .iload_n 1, 1), (5, .ishr, 1), (6, .iconst 1, 1), (7, .iand, 1), (8, .ifCond .ne 5, 3), (11, .iconst 0, 1), (12, .ireturn, 1), (13, .aload_n 0, 1), (14, .getfield 9, 3), (17, .iload_n 1, 1), (18, .aload_n 0, 1), (19, .getfield 15, 3), (22, .getfield 67, 3), (25, .iload_n 1, 1), (26, .iaload, 1), (27, .iastore, 1), (28, .iconst 1, 1), (29, .ireturn, 1)]
def ex_m_X0_stumble : ex_MD := (yX0_stumble, cX0_stumble, 2, (some .boolean), 0, none, 0, 1, 1, [], ex_p_X0_stumble)
def ex_p_X0_strike : List (Nat × Instr × Nat) := [(0, .aload_n 0, 1), (1, .getfield 33, 3), (4, .aload_n 0, 1), (5, .getfield 36, 3), (8, .ior, 1), (9, .istore_n 2, 1), (10, .iload_n 2, 1), (11, .iload_n 1, 1), (12, .ishr, 1), (13, .iconst 1, 1), (14, .iand, 1), (15, .ifCond .ne 5, 3), (18, .iconst 0, 1), (19, .ireturn, 1), (20, .iload_n 2, 1), (21, .iconst 1, 1), (22, .iload_n 1, 1), (23, .ishl, 1), (24, .iconst (-1), 1), (25, .ixor, 1), (26, .iand, 1), (27, .istore_n 3, 1), (28, .iconst 0, 1), (29, .istore 4, 2), (31, .iload 4, 2), (33, .aload_n 0, 1), (34, .getfield 15, 3), (37, .getfield 48, 3), (40, .if_icmp .ge 28, 3), (43, .aload_n 0, 1), (44, .iload_n 3, 1), (45, .invokevirtual 79, 3), (48, .istore 5, 2), (50, .iload 5, 2), (52, .iload_n 3, 1), (53, .if_icmp .ne 6, 3), (56, .goto 12, 3), (59, .iload 5, 2), (61, .istore_n 3, 1), (62, .iinc 4 1, 3), (65, .goto (-34), 3), (68, .aload_n 0, 1), (69, .dup, 1), (70, .getfield 33, 3), (73, .iload_n 3, 1), (74, .iand, 1), (75, .putfield 33, 3), (78, .aload_n 0, 1), (79, .dup, 1), (80, .getfield 36, 3), (83, .iload_n 3, 1), (84, .iand, 1), (85, .putfield 36, 3), (88, .aload_n 0, 1), (89, .dup, 1), (90, .getfield 39, 3), (93, .iload_n 3, 1), (94, .iand, 1), (95, .putfield 39, 3), (98, .iload_n 2, 1), (99, .iload_n 3, 1), (100, .iconst (-1), 1), (101, .ixor, 1), (102, .iand, 1), (103, .istore 4, 2), (105, .aload_n 0, 1), (106, .iload 4, 2), (108, .invokevirtual 83, 3), (111, .iload 4, 2), (113, .ireturn, 1)]
def ex_m_X0_strike : ex_MD := (yX0_strike, cX0_strike, 6, (some .int), 0, none, 0, 1, 1, [], ex_p_X0_strike)
def ex_p_X0_thoseThatStand : List (Nat × Instr × Nat) := [(0, .iconst 0, 1), (1, .istore_n 2, 1), (2, .iconst 0, 1), (3, .istore_n 3, 1), (4, .iload_n 3, 1), (5, .aload_n 0, 1), (6, .getfield 15, 3), (9, .getfield 48, 3), (12, .if_icmp .ge 42, 3), (15, .iload_n 1, 1), (16, .iload_n 3, 1), (17, .ishr, 1), (18, .iconst 1, 1), (19, .iand, 1), (20, .ifCond .eq 28, 3), (23, .aload_n 0, 1), (24, .getfield 15, 3), (27, .iload_n 3, 1), (28, .aload_n 0, 1), (29, .getfield 39, 3), (32, .invokevirtual 59, 3), (35, .iload_n 1, 1), (36, .iconst (-1), 1), (37, .ixor, 1), (38, .iand, 1), (39, .ifCond .ne 9, 3), (42, .iload_n 2, 1), (43, .iconst 1, 1), (44, .iload_n 3, 1), (45, .ishl, 1), (46, .ior, 1), (47, .istore_n 2, 1), (48, .iinc 3 1, 3), (51, .goto (-47), 3), (54, .iload_n 2, 1), (55, .ireturn, 1)]
def ex_m_X0_thoseThatStand : ex_MD := (yX0_thoseThatStand, cX0_thoseThatStand, 4, (some .int), 0, none, 0, 1, 1, [], ex_p_X0_thoseThatStand)
def ex_p_X0_stopThose : List (Nat × Instr × Nat) := [(0, .iconst 0, 1), (1, .istore_n 2, 1), (2, .iload_n 2, 1), (3, .aload_n 0, 1), (4, .getfield 15, 3), (7, .getfield 48, 3), (10, .if_icmp .ge 24, 3), (13, .iload_n 1, 1), (14, .iload_n 2, 1), (15, .ishr, 1), (16, .iconst 1, 1), (17, .iand, 1), (18, .ifCond .eq 10, 3), (21, .aload_n 0, 1), (22, .getfield 9, 3), (25, .iload_n 2, 1), (26, .iconst 0, 1), (27, .iastore, 1), (28, .iinc 2 1, 3), (31, .goto (-29), 3), (34, .return_, 1)]
def ex_m_X0_stopThose : ex_MD := (yX0_stopThose, cX0_stopThose, 3, none, 0, none, 0, 1, 1, [], ex_p_X0_stopThose)
def ex_p_X1_makePlan : List (Nat × Instr × Nat) := [(0, .aload_n 0, 1), (1, .iconst 0, 1), (2, .putfield 44, 3), (5, .aload_n 0, 1), (6, .iload_n 1, 1), (7, .putfield 48, 3), (10, .aload_n 0, 1), (11, .invokevirtual 52, 3), (14, .ifCond .eq 14, 3), (17, .aload_n 0, 1), (18, .getfield 40, 3), (21, .iload_n 2, 1), (22, .invokevirtual 56, 3), (25, .ifCond .eq 5, 3), (28, .iconst (-1), 1), (29, .ireturn, 1), (30, .aload_n 0, 1), (31, .iload_n 2, 1), (32, .invokevirtual 62, 3), (35, .aload_n 0, 1), (36, .invokevirtual 66, 3), (39, .aload_n 0, 1), (40, .getfield 21, 3), (43, .iconst 0, 1), (44, .invokestatic 69, 3), (47, .aload_n 0, 1), (48, .getfield 27, 3), (51, .iconst 0, 1), (52, .invokestatic 69, 3), (55, .aload_n 0, 1), (56, .getfield 30, 3), (59, .ldc 75, 2), (61, .invokestatic 69, 3), (64, .aload_n 0, 1), (65, .ldc 75, 2), (67, .putfield 76, 3), (70, .aload_n 0, 1), (71, .lconst 0, 1), (72, .putfield 79, 3), (75, .aload_n 0, 1), (76, .iconst 0, 1), (77, .iconst 0, 1), (78, .iconst (-1), 1), (79, .iconst 0, 1), (80, .lconst 0, 1), (81, .invokevirtual 83, 3), (84, .aload_n 0, 1), (85, .iconst 1, 1), (86, .putfield 44, 3), (89, .aload_n 0, 1), (90, .getfield 76, 3), (93, .aload_n 0, 1), (94, .getfield 40, 3), (97, .iload_n 2, 1), (98, .invokevirtual 87, 3), (101, .iadd, 1), (102, .ireturn, 1)]
def ex_m_X1_makePlan : ex_MD := (yX1_makePlan, cX1_makePlan, 3, (some .int), 1, none, 0, 1, 2, [], ex_p_X1_makePlan)
def ex_p_X1_fitsHands : List (Nat × Instr × Nat) := [(0, .iconst 0, 1), (1, .istore_n 1, 1), (2, .iload_n 1, 1), (3, .aload_n 0, 1), (4, .getfield 40, 3), (7, .getfield 91, 3), (10, .if_icmp .ge 27, 3), (13, .aload_n 0, 1), (14, .getfield 40, 3), (17, .getfield 94, 3), (20, .iload_n 1, 1), (21, .iaload, 1), (22, .aload_n 0, 1), (23, .getfield 48, 3), (26, .if_icmp .le 5, 3), (29, .iconst 0, 1), (30, .ireturn, 1), (31, .iinc 1 1, 3), (34, .goto (-32), 3), (37, .iconst 1, 1), (38, .ireturn, 1)]
def ex_m_X1_fitsHands : ex_MD := (yX1_fitsHands, cX1_fitsHands, 2, (some .boolean), 1, none, 0, 1, 0, [], ex_p_X1_fitsHands)
def ex_p_X1_sortByNeed : List (Nat × Instr × Nat) := [(0, .iconst 0, 1), (1, .istore_n 2, 1), (2, .iconst 0, 1), (3, .istore_n 3, 1), (4, .iconst 0, 1), (5, .istore 4, 2), (7, .iload 4, 2), (9, .aload_n 0, 1), (10, .getfield 40, 3), (13, .getfield 91, 3), (16, .if_icmp .ge 94, 3), (19, .iconst 0, 1), (20, .istore 5, 2), (22, .iload 5, 2), (24, .aload_n 0, 1), (25, .getfield 40, 3), (28, .getfield 91, 3), (31, .if_icmp .ge 73, 3), (34, .aload_n 0, 1), (35, .getfield 9, 3), (38, .iload 5, 2), (40, .aload_n 0, 1), (41, .getfield 40, 3), (44, .iload 5, 2), (46, .iload_n 1, 1), (47, .invokevirtual 96, 3), (50, .iastore, 1), (51, .iload_n 3, 1), (52, .iload 5, 2), (54, .ishr, 1), (55, .iconst 1, 1), (56, .iand, 1), (57, .ifCond .ne 41, 3), (60, .aload_n 0, 1), (61, .getfield 9, 3), (64, .iload 5, 2), (66, .iaload, 1), (67, .iload_n 3, 1), (68, .iconst (-1), 1), (69, .ixor, 1), (70, .iand, 1), (71, .ifCond .ne 27, 3), (74, .iload_n 2, 1), (75, .bipush 8, 2), (77, .if_icmp .ge 21, 3), (80, .aload_n 0, 1), (81, .getfield 15, 3), (84, .iload_n 2, 1), (85, .iload 5, 2), (87, .iastore, 1), (88, .iinc 2 1, 3), (91, .iload_n 3, 1), (92, .iconst 1, 1), (93, .iload 5, 2), (95, .ishl, 1), (96, .ior, 1), (97, .istore_n 3, 1), (98, .iinc 5 1, 3), (101, .goto (-79), 3), (104, .iinc 4 1, 3), (107, .goto (-100), 3), (110, .return_, 1)]
def ex_m_X1_sortByNeed : ex_MD := (yX1_sortByNeed, cX1_sortByNeed, 6, none, 1, none, 0, 1, 1, [], ex_p_X1_sortByNeed)
def ex_p_X1_sortByWorth : List (Nat × Instr × Nat) := [(0, .iconst 0, 1), (1, .istore_n 1, 1), (2, .iload_n 1, 1), (3, .aload_n 0, 1), (4, .getfield 40, 3), (7, .getfield 91, 3), (10, .if_icmp .ge 58, 3), (13, .iload_n 1, 1), (14, .istore_n 2, 1), (15, .iload_n 2, 1), (16, .ifCond .le 39, 3), (19, .aload_n 0, 1), (20, .iload_n 1, 1), (21, .aload_n 0, 1), (22, .getfield 18, 3), (25, .iload_n 2, 1), (26, .iconst 1, 1), (27, .isub, 1), (28, .iaload, 1), (29, .invokevirtual 100, 3), (32, .ifCond .eq 23, 3), (35, .aload_n 0, 1), (36, .getfield 18, 3), (39, .iload_n 2, 1), (40, .aload_n 0, 1), (41, .getfield 18, 3), (44, .iload_n 2, 1), (45, .iconst 1, 1), (46, .isub, 1), (47, .iaload, 1), (48, .iastore, 1), (49, .iinc 2 (-1), 3), (52, .goto (-37), 3), (55, .aload_n 0, 1), (56, .getfield 18, 3), (59, .iload_n 2, 1), (60, .iload_n 1, 1), (61, .iastore, 1), (62, .iinc 1 1, 3), (65, .goto (-63), 3), (68, .return_, 1)]
def ex_m_X1_sortByWorth : ex_MD := (yX1_sortByWorth, cX1_sortByWorth, 3, none, 1, none, 0, 1, 0, [], ex_p_X1_sortByWorth)
def ex_p_X1_isWorthMore : List (Nat × Instr × Nat) := [(0, .aload_n 0, 1), (1, .getfield 40, 3), (4, .getfield 104, 3), (7, .iload_n 1, 1), (8, .iaload, 1), (9, .aload_n 0, 1), (10, .getfield 40, 3), (13, .getfield 107, 3), (16, .iload_n 2, 1), (17, .iaload, 1), (18, .imul, 1), (19, .aload_n 0, 1), (20, .getfield 40, 3), (23, .getfield 94, 3), (26, .iload_n 2, 1), (27, .iaload, 1), (28, .imul, 1), (29, .aload_n 0, 1), (30, .getfield 40, 3), (33, .getfield 104, 3), (36, .iload_n 2, 1), (37, .iaload, 1), (38, .aload_n 0, 1), (39, .getfield 40, 3), (42, .getfield 107, 3), (45, .iload_n 1, 1), (46, .iaload, 1), (47, .imul, 1), (48, .aload_n 0, 1), (49, .getfield 40, 3), (52, .getfield 94, 3), (55, .iload_n 1, 1), (56, .iaload, 1), (57, .imul, 1), (58, .if_icmp .le 7, 3), (61, .iconst 1, 1), (62, .goto 4, 3), (65, .iconst 0, 1), (66, .ireturn, 1)]
def ex_m_X1_isWorthMore : ex_MD := (yX1_isWorthMore, cX1_isWorthMore, 3, (some .boolean), 1, none, 0, 1, 2, [], ex_p_X1_isWorthMore)
def ex_p_X1_explore : List (Nat × Instr × Nat) := [(0, .iload_n 1, 1), (1, .bipush 8, 2), (3, .if_icmp .le 4, 3), (6, .return_, 1), (7, .iload_n 3, 1), (8, .iconst (-1), 1), (9, .if_icmp .ne 7, 3), (12, .iconst 0, 1), (13, .goto 9, 3), (16, .aload_n 0, 1), (17, .getfield 24, 3), (20, .iload_n 3, 1), (21, .iaload, 1), (22, .istore 7, 2), (24, .aload_n 0, 1), (25, .iload_n 1, 1), (26, .iload_n 2, 1), (27, .iload 7, 2), (29, .iload 4, 2), (31, .lload 5, 2), (33, .invokevirtual 110, 3), (36, .aload_n 0, 1), (37, .getfield 113, 3), (40, .aload_n 0, 1), (41, .getfield 116, 3), (44, .aload_n 0, 1), (45, .getfield 76, 3), (48, .aload_n 0, 1), (49, .getfield 79, 3), (52, .invokestatic 119, 3), (55, .ifCond .ne 4, 3), (58, .return_, 1), (59, .iload_n 2, 1), (60, .aload_n 0, 1), (61, .getfield 40, 3), (64, .invokevirtual 123, 3), (67, .if_icmp .ne 31, 3), (70, .aload_n 0, 1), (71, .iload 4, 2), (73, .putfield 76, 3), (76, .aload_n 0, 1), (77, .lload 5, 2), (79, .putfield 79, 3), (82, .aload_n 0, 1), (83, .getfield 24, 3), (86, .iconst 0, 1), (87, .aload_n 0, 1), (88, .getfield 37, 3), (91, .iconst 0, 1), (92, .bipush 8, 2), (94, .invokestatic 127, 3), (97, .return_, 1), (98, .aload_n 0, 1), (99, .iload_n 2, 1), (100, .iload 4, 2), (102, .lload 5, 2), (104, .invokevirtual 133, 3), (107, .ifCond .eq 4, 3), (110, .return_, 1), (111, .aload_n 0, 1), (112, .getfield 137, 3), (115, .istore 8, 2), (117, .iconst 0, 1), (118, .istore 9, 2), (120, .iload 9, 2), (122, .aload_n 0, 1), (123, .getfield 40, 3), (126, .getfield 91, 3), (129, .if_icmp .ge 168, 3), (132, .aload_n 0, 1), (133, .getfield 18, 3), (136, .iload 9, 2), (138, .iaload, 1), (139, .istore 10, 2), (141, .aload_n 0, 1), (142, .getfield 27, 3), (145, .iload_n 1, 1), (146, .bipush 8, 2), (148, .imul, 1), (149, .iload 10, 2), (151, .iadd, 1), (152, .iaload, 1), (153, .istore 11, 2), (155, .iload_n 2, 1), (156, .iload 10, 2), (158, .ishr, 1), (159, .iconst 1, 1), (160, .iand, 1), (161, .ifCond .ne 21, 3), (164, .aload_n 0, 1), (165, .getfield 9, 3), (168, .iload 10, 2), (170, .iaload, 1), (171, .iload_n 2, 1), (172, .iconst (-1), 1), (173, .ixor, 1), (174, .iand, 1), (175, .ifCond .ne 7, 3), (178, .iconst 1, 1), (179, .goto 4, 3), (182, .iconst 0, 1), (183, .istore 12, 2), (185, .iload 12, 2), (187, .ifCond .eq 104, 3), (190, .iload 11, 2), (192, .iload 8, 2), (194, .if_icmp .ge 97, 3), (197, .iload 11, 2), (199, .iload 7, 2), (201, .if_icmp .ne 12, 3), (204, .iload 10, 2), (206, .iload_n 3, 1), (207, .if_icmp .ge 6, 3), (210, .goto 81, 3), (213, .aload_n 0, 1), (214, .getfield 24, 3), (217, .iload 10, 2), (219, .iload 11, 2), (221, .iastore, 1), (222, .aload_n 0, 1), (223, .iload 10, 2), (225, .aload_n 0, 1), (226, .getfield 40, 3), (229, .getfield 94, 3), (232, .iload 10, 2), (234, .iaload, 1), (235, .invokevirtual 140, 3), (238, .aload_n 0, 1), (239, .iload_n 1, 1), (240, .iconst 1, 1), (241, .iadd, 1), (242, .iload_n 2, 1), (243, .iconst 1, 1), (244, .iload 10, 2), (246, .ishl, 1), (247, .ior, 1), (248, .iload 10, 2), (250, .iload 4, 2), (252, .aload_n 0, 1), (253, .iload 10, 2), (255, .iload 11, 2), (257, .invokevirtual 144, 3), (260, .iadd, 1), (261, .lload 5, 2), (263, .iload 10, 2), (265, .iload 11, 2), (267, .invokestatic 147, 3), (270, .ladd, 1), (271, .invokevirtual 83, 3), (274, .aload_n 0, 1), (275, .iload 10, 2), (277, .aload_n 0, 1), (278, .getfield 40, 3), (281, .getfield 94, 3), (284, .iload 10, 2), (286, .iaload, 1), (287, .ineg, 1), (288, .invokevirtual 140, 3), (291, .iinc 9 1, 3), (294, .goto (-174), 3), (297, .return_, 1)]
def ex_m_X1_explore : ex_MD := (yX1_explore, cX1_explore, 13, none, 1, none, 0, 1, 5, [6], ex_p_X1_explore)
def ex_p_X1_hope : List (Nat × Instr × Nat) := [(0, .aload_n 0, 1), (1, .iload 4, 2), (3, .putfield 113, 3), (6, .aload_n 0, 1), (7, .lload 5, 2), (9, .putfield 116, 3), (12, .aload_n 0, 1), (13, .bipush 96, 2), (15, .putfield 151, 3), (18, .aload_n 0, 1), (19, .bipush 96, 2), (21, .putfield 137, 3), (24, .iload_n 1, 1), (25, .bipush 8, 2), (27, .imul, 1), (28, .istore 7, 2), (30, .iconst 0, 1), (31, .istore 8, 2), (33, .iload 8, 2), (35, .aload_n 0, 1), (36, .getfield 40, 3), (39, .getfield 91, 3), (42, .if_icmp .ge 183, 3), (45, .aload_n 0, 1), (46, .getfield 15, 3), (49, .iload 8, 2), (51, .iaload, 1), (52, .istore 9, 2), (54, .iload_n 2, 1), (55, .iload 9, 2), (57, .ishr, 1), (58, .iconst 1, 1), (59, .iand, 1), (60, .ifCond .eq 23, 3), (63, .aload_n 0, 1), (64, .getfield 27, 3), (67, .iload 7, 2), (69, .iload 9, 2), (71, .iadd, 1), (72, .aload_n 0, 1), (73, .getfield 24, 3), (76, .iload 9, 2), (78, .iaload, 1), (79, .iastore, 1), (80, .goto 139, 3), (83, .iload 7, 2), (85, .ifCond .ne 7, 3), (88, .iconst 0, 1), (89, .goto 16, 3), (92, .aload_n 0, 1), (93, .getfield 27, 3), (96, .iload 7, 2), (98, .bipush 8, 2), (100, .isub, 1), (101, .iload 9, 2), (103, .iadd, 1), (104, .iaload, 1), (105, .istore 10, 2), (107, .aload_n 0, 1), (108, .iload 9, 2), (110, .iload 7, 2), (112, .iload_n 3, 1), (113, .iload 10, 2), (115, .invokestatic 154, 3), (118, .invokevirtual 159, 3), (121, .istore 11, 2), (123, .aload_n 0, 1), (124, .getfield 27, 3), (127, .iload 7, 2), (129, .iload 9, 2), (131, .iadd, 1), (132, .iload 11, 2), (134, .iastore, 1), (135, .aload_n 0, 1), (136, .dup, 1), (137, .getfield 113, 3), (140, .aload_n 0, 1), (141, .iload 9, 2), (143, .iload 11, 2), (145, .invokevirtual 144, 3), (148, .iadd, 1), (149, .putfield 113, 3), (152, .aload_n 0, 1), (153, .dup, 1), (154, .getfield 116, 3), (157, .iload 9, 2), (159, .iload 11, 2), (161, .invokestatic 147, 3), (164, .ladd, 1), (165, .putfield 116, 3), (168, .aload_n 0, 1), (169, .aload_n 0, 1), (170, .getfield 151, 3), (173, .iload 11, 2), (175, .invokestatic 163, 3), (178, .putfield 151, 3), (181, .aload_n 0, 1), (182, .getfield 9, 3), (185, .iload 9, 2), (187, .iaload, 1), (188, .iload_n 2, 1), (189, .iconst (-1), 1), (190, .ixor, 1), (191, .iand, 1), (192, .ifCond .ne 27, 3), (195, .aload_n 0, 1), (196, .aload_n 0, 1), (197, .getfield 137, 3), (200, .iload 11, 2), (202, .aload_n 0, 1), (203, .getfield 40, 3), (206, .getfield 107, 3), (209, .iload 9, 2), (211, .iaload, 1), (212, .iadd, 1), (213, .invokestatic 163, 3), (216, .putfield 137, 3), (219, .iinc 8 1, 3), (222, .goto (-189), 3), (225, .return_, 1)]
def ex_m_X1_hope : ex_MD := (yX1_hope, cX1_hope, 12, none, 1, none, 0, 1, 5, [6], ex_p_X1_hope)
def ex_p_X1_earliest : List (Nat × Instr × Nat) := [(0, .iload_n 3, 1), (1, .istore 4, 2), (3, .aload_n 0, 1), (4, .getfield 9, 3), (7, .iload_n 1, 1), (8, .iaload, 1), (9, .istore 5, 2), (11, .iconst 0, 1), (12, .istore 6, 2), (14, .iload 6, 2), (16, .aload_n 0, 1), (17, .getfield 40, 3), (20, .getfield 91, 3), (23, .if_icmp .ge 54, 3), (26, .iload 5, 2), (28, .iload 6, 2), (30, .ishr, 1), (31, .ifCond .eq 46, 3), (34, .iload 5, 2), (36, .iload 6, 2), (38, .ishr, 1), (39, .iconst 1, 1), (40, .iand, 1), (41, .ifCond .eq 30, 3), (44, .iload 4, 2), (46, .aload_n 0, 1), (47, .getfield 27, 3), (50, .iload_n 2, 1), (51, .iload 6, 2), (53, .iadd, 1), (54, .iaload, 1), (55, .aload_n 0, 1), (56, .getfield 40, 3), (59, .getfield 107, 3), (62, .iload 6, 2), (64, .iaload, 1), (65, .iadd, 1), (66, .invokestatic 154, 3), (69, .istore 4, 2), (71, .iinc 6 1, 3), (74, .goto (-60), 3), (77, .iload 4, 2), (79, .bipush 96, 2), (81, .if_icmp .ge 33, 3), (84, .aload_n 0, 1), (85, .getfield 21, 3), (88, .iload 4, 2), (90, .iaload, 1), (91, .aload_n 0, 1), (92, .getfield 40, 3), (95, .getfield 94, 3), (98, .iload_n 1, 1), (99, .iaload, 1), (100, .iadd, 1), (101, .aload_n 0, 1), (102, .getfield 48, 3), (105, .if_icmp .le 9, 3), (108, .iinc 4 1, 3), (111, .goto (-34), 3), (114, .iload 4, 2), (116, .ireturn, 1)]
def ex_m_X1_earliest : ex_MD := (yX1_earliest, cX1_earliest, 7, (some .int), 1, none, 0, 1, 3, [], ex_p_X1_earliest)
def ex_p_X1_isOutdone : List (Nat × Instr × Nat) := [(0, .aload_n 0, 1), (1, .getfield 30, 3), (4, .iload_n 1, 1), (5, .iaload, 1), (6, .aload_n 0, 1), (7, .getfield 33, 3), (10, .iload_n 1, 1), (11, .laload, 1), (12, .iload_n 2, 1), (13, .lload_n 3, 1), (14, .invokestatic 119, 3), (17, .ifCond .ne 19, 3), (20, .aload_n 0, 1), (21, .getfield 30, 3), (24, .iload_n 1, 1), (25, .iload_n 2, 1), (26, .iastore, 1), (27, .aload_n 0, 1), (28, .getfield 33, 3), (31, .iload_n 1, 1), (32, .lload_n 3, 1), (33, .lastore, 1), (34, .iconst 0, 1), (35, .ireturn, 1), (36, .iconst 0, 1), (37, .istore 5, 2), (39, .iload 5, 2), (41, .aload_n 0, 1), (42, .getfield 40, 3), (45, .getfield 91, 3), (48, .if_icmp .ge 70, 3), (51, .iload_n 1, 1), (52, .iload 5, 2), (54, .ishr, 1), (55, .iconst 1, 1), (56, .iand, 1), (57, .ifCond .eq 55, 3), (60, .aload_n 0, 1), (61, .getfield 33, 3), (64, .iload_n 1, 1), (65, .laload, 1), (66, .iload 5, 2), (68, .invokestatic 166, 3), (71, .lshr, 1), (72, .l2i, 1), (73, .bipush 127, 2), (75, .iand, 1), (76, .istore 6, 2), (78, .iload 6, 2), (80, .aload_n 0, 1), (81, .getfield 24, 3), (84, .iload 5, 2), (86, .iaload, 1), (87, .if_icmp .le 25, 3), (90, .iload 6, 2), (92, .aload_n 0, 1), (93, .getfield 40, 3), (96, .getfield 107, 3), (99, .iload 5, 2), (101, .iaload, 1), (102, .iadd, 1), (103, .aload_n 0, 1), (104, .getfield 151, 3), (107, .if_icmp .le 5, 3), (110, .iconst 0, 1), (111, .ireturn, 1), (112, .iinc 5 1, 3), (115, .goto (-76), 3), (118, .iconst 1, 1), (119, .ireturn, 1)]
def ex_m_X1_isOutdone : ex_MD := (yX1_isOutdone, cX1_isOutdone, 7, (some .boolean), 1, none, 0, 1, 3, [4], ex_p_X1_isOutdone)
def ex_p_X1_occupy : List (Nat × Instr × Nat) := [(0, .aload_n 0, 1), (1, .getfield 24, 3), (4, .iload_n 1, 1), (5, .iaload, 1), (6, .aload_n 0, 1), (7, .getfield 40, 3), (10, .getfield 107, 3), (13, .iload_n 1, 1), (14, .iaload, 1), (15, .iadd, 1), (16, .bipush 96, 2), (18, .invokestatic 163, 3), (21, .istore_n 3, 1), (22, .aload_n 0, 1), (23, .getfield 24, 3), (26, .iload_n 1, 1), (27, .iaload, 1), (28, .istore 4, 2), (30, .iload 4, 2), (32, .iload_n 3, 1), (33, .if_icmp .ge 20, 3), (36, .aload_n 0, 1), (37, .getfield 21, 3), (40, .iload 4, 2), (42, .dup2, 1), (43, .iaload, 1), (44, .iload_n 2, 1), (45, .iadd, 1), (46, .iastore, 1), (47, .iinc 4 1, 3), (50, .goto (-20), 3), (53, .return_, 1)]
def ex_m_X1_occupy : ex_MD := (yX1_occupy, cX1_occupy, 5, none, 1, none, 0, 1, 2, [], ex_p_X1_occupy)
def ex_p_X1_awayBy : List (Nat × Instr × Nat) := [(0, .aload_n 0, 1), (1, .getfield 40, 3), (4, .getfield 104, 3), (7, .iload_n 1, 1), (8, .iaload, 1), (9, .iload_n 2, 1), (10, .aload_n 0, 1), (11, .getfield 40, 3), (14, .getfield 107, 3), (17, .iload_n 1, 1), (18, .iaload, 1), (19, .iadd, 1), (20, .imul, 1), (21, .ireturn, 1)]
def ex_m_X1_awayBy : ex_MD := (yX1_awayBy, cX1_awayBy, 3, (some .int), 1, none, 0, 1, 2, [], ex_p_X1_awayBy)
def ex_p_X1_keyOf : List (Nat × Instr × Nat) := [(0, .iload_n 1, 1), (1, .i2l, 1), (2, .iload_n 0, 1), (3, .invokestatic 166, 3), (6, .lshl, 1), (7, .lreturn, 1)]
def ex_m_X1_keyOf : ex_MD := (yX1_keyOf, cX1_keyOf, 2, (some .long), 1, none, 0, 0, 2, [], ex_p_X1_keyOf)
def ex_p_X1_shiftOf : List (Nat × Instr × Nat) := [(0, .bipush 7, 2), (2, .iload_n 0, 1), (3, .isub, 1), (4, .bipush 7, 2), (6, .imul, 1), (7, .ireturn, 1)]
def ex_m_X1_shiftOf : ex_MD := (yX1_shiftOf, cX1_shiftOf, 1, (some .int), 1, none, 0, 0, 1, [], ex_p_X1_shiftOf)
def ex_p_X1_isLess : List (Nat × Instr × Nat) := [(0, .iload_n 0, 1), (1, .iload_n 3, 1), (2, .if_icmp .lt 15, 3), (5, .iload_n 0, 1), (6, .iload_n 3, 1), (7, .if_icmp .ne 14, 3), (10, .lload_n 1, 1), (11, .lload 4, 2), (13, .lcmp, 1), (14, .ifCond .ge 7, 3), (17, .iconst 1, 1), (18, .goto 4, 3), (21, .iconst 0, 1), (22, .ireturn, 1)]
def ex_m_X1_isLess : ex_MD := (yX1_isLess, cX1_isLess, 6, (some .boolean), 1, none, 0, 0, 4, [2, 5], ex_p_X1_isLess)
def ex_p_X2_addStore : List (Nat × Instr × Nat) := [(0, .aload_n 0, 1), (1, .getfield 46, 3), (4, .istore_n 1, 1), (5, .aload_n 0, 1), (6, .dup, 1), (7, .getfield 46, 3), (10, .iconst 1, 1), (11, .iadd, 1), (12, .putfield 46, 3), (15, .iload_n 1, 1), (16, .ireturn, 1)]
def ex_m_X2_addStore : ex_MD := (yX2_addStore, cX2_addStore, 2, (some .int), 2, none, 0, 1, 0, [], ex_p_X2_addStore)
def ex_p_X2_addCopy : List (Nat × Instr × Nat) := [(0, .aload_n 0, 1), (1, .getfield 9, 3), (4, .iload_n 1, 1), (5, .iaload, 1), (6, .istore 4, 2), (8, .aload_n 0, 1), (9, .getfield 15, 3), (12, .iload_n 1, 1), (13, .iconst 4, 1), (14, .imul, 1), (15, .iload 4, 2), (17, .iadd, 1), (18, .iload_n 2, 1), (19, .iastore, 1), (20, .aload_n 0, 1), (21, .getfield 18, 3), (24, .iload_n 1, 1), (25, .iconst 4, 1), (26, .imul, 1), (27, .iload 4, 2), (29, .iadd, 1), (30, .iload_n 3, 1), (31, .iastore, 1), (32, .aload_n 0, 1), (33, .getfield 9, 3), (36, .iload_n 1, 1), (37, .dup2, 1), (38, .iaload, 1), (39, .iconst 1, 1), (40, .iadd, 1), (41, .iastore, 1), (42, .iload 4, 2), (44, .ireturn, 1)]
def ex_m_X2_addCopy : ex_MD := (yX2_addCopy, cX2_addCopy, 5, (some .int), 2, none, 0, 1, 3, [], ex_p_X2_addCopy)
def ex_p_X2_setTorn : List (Nat × Instr × Nat) := [(0, .iload_n 1, 1), (1, .iconst 4, 1), (2, .imul, 1), (3, .iload_n 2, 1), (4, .iadd, 1), (5, .istore 4, 2), (7, .aload_n 0, 1), (8, .getfield 21, 3), (11, .iload 4, 2), (13, .baload, 1), (14, .iload_n 3, 1), (15, .if_icmp .eq 7, 3), (18, .iconst 1, 1), (19, .goto 4, 3), (22, .iconst 0, 1), (23, .istore 5, 2), (25, .aload_n 0, 1), (26, .getfield 21, 3), (29, .iload 4, 2), (31, .iload_n 3, 1), (32, .bastore, 1), (33, .iload 5, 2), (35, .ireturn, 1)]
def ex_m_X2_setTorn : ex_MD := (yX2_setTorn, cX2_setTorn, 6, (some .boolean), 2, none, 0, 1, 3, [], ex_p_X2_setTorn)
def ex_p_X2_addLetter : List (Nat × Instr × Nat) := [(0, .aload_n 0, 1), (1, .getfield 25, 3), (4, .aload_n 0, 1), (5, .getfield 50, 3), (8, .iload_n 1, 1), (9, .iastore, 1), (10, .aload_n 0, 1), (11, .getfield 28, 3), (14, .aload_n 0, 1), (15, .getfield 50, 3), (18, .iload_n 2, 1), (19, .iastore, 1), (20, .aload_n 0, 1), (21, .getfield 31, 3), (24, .aload_n 0, 1), (25, .getfield 50, 3), (28, .iload_n 3, 1), (29, .iastore, 1), (30, .aload_n 0, 1), (31, .getfield 34, 3), (34, .aload_n 0, 1), (35, .getfield 50, 3), (38, .iload 4, 2), (40, .iastore, 1), (41, .aload_n 0, 1), (42, .dup, 1), (43, .getfield 50, 3), (46, .iconst 1, 1), (47, .iadd, 1), (48, .putfield 50, 3), (51, .aload_n 0, 1), (52, .getfield 50, 3), (55, .ireturn, 1)]
def ex_m_X2_addLetter : ex_MD := (yX2_addLetter, cX2_addLetter, 5, (some .int), 2, none, 0, 1, 4, [], ex_p_X2_addLetter)
def ex_p_X2_addChange : List (Nat × Instr × Nat) := [(0, .aload_n 0, 1), (1, .getfield 37, 3), (4, .aload_n 0, 1), (5, .getfield 53, 3), (8, .iload_n 1, 1), (9, .iastore, 1), (10, .aload_n 0, 1), (11, .getfield 40, 3), (14, .aload_n 0, 1), (15, .getfield 53, 3), (18, .iload_n 2, 1), (19, .iastore, 1), (20, .aload_n 0, 1), (21, .dup, 1), (22, .getfield 53, 3), (25, .iconst 1, 1), (26, .iadd, 1), (27, .putfield 53, 3), (30, .aload_n 0, 1), (31, .getfield 53, 3), (34, .ireturn, 1)]
def ex_m_X2_addChange : ex_MD := (yX2_addChange, cX2_addChange, 3, (some .int), 2, none, 0, 1, 2, [], ex_p_X2_addChange)
def ex_p_X2_greatestUpTo : List (Nat × Instr × Nat) := [(0, .iconst (-1), 1), (1, .istore_n 3, 1), (2, .iconst 0, 1), (3, .istore 4, 2), (5, .iload 4, 2), (7, .aload_n 0, 1), (8, .getfield 9, 3), (11, .iload_n 1, 1), (12, .iaload, 1), (13, .if_icmp .ge 54, 3), (16, .iload_n 1, 1), (17, .iconst 4, 1), (18, .imul, 1), (19, .iload 4, 2), (21, .iadd, 1), (22, .istore 5, 2), (24, .aload_n 0, 1), (25, .getfield 21, 3), (28, .iload 5, 2), (30, .baload, 1), (31, .ifCond .ne 30, 3), (34, .aload_n 0, 1), (35, .getfield 15, 3), (38, .iload 5, 2), (40, .iaload, 1), (41, .iload_n 2, 1), (42, .if_icmp .gt 19, 3), (45, .iload_n 3, 1), (46, .aload_n 0, 1), (47, .getfield 18, 3), (50, .iload 5, 2), (52, .iaload, 1), (53, .iload_n 2, 1), (54, .invokestatic 56, 3), (57, .invokestatic 62, 3), (60, .istore_n 3, 1), (61, .iinc 4 1, 3), (64, .goto (-59), 3), (67, .iload_n 3, 1), (68, .ireturn, 1)]
def ex_m_X2_greatestUpTo : ex_MD := (yX2_greatestUpTo, cX2_greatestUpTo, 6, (some .int), 2, none, 0, 1, 2, [], ex_p_X2_greatestUpTo)
def ex_p_X2_choose : List (Nat × Instr × Nat) := [(0, .iconst 0, 1), (1, .istore_n 1, 1), (2, .iload_n 1, 1), (3, .aload_n 0, 1), (4, .getfield 46, 3), (7, .if_icmp .ge 34, 3), (10, .aload_n 0, 1), (11, .getfield 43, 3), (14, .iload_n 1, 1), (15, .aload_n 0, 1), (16, .iload_n 1, 1), (17, .ldc 65, 2), (19, .invokevirtual 66, 3), (22, .iastore, 1), (23, .aload_n 0, 1), (24, .getfield 43, 3), (27, .iload_n 1, 1), (28, .iaload, 1), (29, .iconst (-1), 1), (30, .if_icmp .ne 5, 3), (33, .iconst 0, 1), (34, .ireturn, 1), (35, .iinc 1 1, 3), (38, .goto (-36), 3), (41, .iconst 0, 1), (42, .istore_n 1, 1), (43, .iload_n 1, 1), (44, .aload_n 0, 1), (45, .getfield 50, 3), (48, .if_icmp .gt 88, 3), (51, .iconst 0, 1), (52, .istore_n 2, 1), (53, .iconst 0, 1), (54, .istore_n 3, 1), (55, .iload_n 3, 1), (56, .aload_n 0, 1), (57, .getfield 50, 3), (60, .if_icmp .ge 64, 3), (63, .aload_n 0, 1), (64, .iload_n 3, 1), (65, .invokevirtual 69, 3), (68, .ifCond .ne 6, 3), (71, .goto 47, 3), (74, .aload_n 0, 1), (75, .getfield 31, 3), (78, .iload_n 3, 1), (79, .iaload, 1), (80, .istore 4, 2), (82, .aload_n 0, 1), (83, .getfield 43, 3), (86, .iload 4, 2), (88, .aload_n 0, 1), (89, .iload 4, 2), (91, .aload_n 0, 1), (92, .getfield 34, 3), (95, .iload_n 3, 1), (96, .iaload, 1), (97, .iconst 1, 1), (98, .isub, 1), (99, .invokevirtual 66, 3), (102, .iastore, 1), (103, .aload_n 0, 1), (104, .getfield 43, 3), (107, .iload 4, 2), (109, .iaload, 1), (110, .iconst (-1), 1), (111, .if_icmp .ne 5, 3), (114, .iconst 0, 1), (115, .ireturn, 1), (116, .iconst 1, 1), (117, .istore_n 2, 1), (118, .iinc 3 1, 3), (121, .goto (-66), 3), (124, .iload_n 2, 1), (125, .ifCond .ne 5, 3), (128, .iconst 1, 1), (129, .ireturn, 1), (130, .iinc 1 1, 3), (133, .goto (-90), 3), (136, .iconst 1, 1), (137, .ireturn, 1)]
def ex_m_X2_choose : ex_MD := (yX2_choose, cX2_choose, 5, (some .boolean), 2, none, 0, 1, 0, [], ex_p_X2_choose)
def ex_p_X2_isGotButNotSent : List (Nat × Instr × Nat) := [(0, .aload_n 0, 1), (1, .getfield 34, 3), (4, .iload_n 1, 1), (5, .iaload, 1), (6, .aload_n 0, 1), (7, .getfield 43, 3), (10, .aload_n 0, 1), (11, .getfield 31, 3), (14, .iload_n 1, 1), (15, .iaload, 1), (16, .iaload, 1), (17, .if_icmp .gt 27, 3), (20, .aload_n 0, 1), (21, .getfield 28, 3), (24, .iload_n 1, 1), (25, .iaload, 1), (26, .aload_n 0, 1), (27, .getfield 43, 3), (30, .aload_n 0, 1), (31, .getfield 25, 3), (34, .iload_n 1, 1), (35, .iaload, 1), (36, .iaload, 1), (37, .if_icmp .le 7, 3), (40, .iconst 1, 1), (41, .goto 4, 3), (44, .iconst 0, 1), (45, .ireturn, 1)]
def ex_m_X2_isGotButNotSent : ex_MD := (yX2_isGotButNotSent, cX2_isGotButNotSent, 2, (some .boolean), 2, none, 0, 1, 1, [], ex_p_X2_isGotButNotSent)
def ex_p_X2_changesBehind : List (Nat × Instr × Nat) := [(0, .iconst 0, 1), (1, .istore_n 3, 1), (2, .iconst 0, 1), (3, .istore 4, 2), (5, .iload 4, 2), (7, .aload_n 0, 1), (8, .getfield 53, 3), (11, .if_icmp .ge 34, 3), (14, .aload_n 0, 1), (15, .getfield 37, 3), (18, .iload 4, 2), (20, .iaload, 1), (21, .iload_n 1, 1), (22, .if_icmp .ne 17, 3), (25, .aload_n 0, 1), (26, .getfield 40, 3), (29, .iload 4, 2), (31, .iaload, 1), (32, .iload_n 2, 1), (33, .if_icmp .le 6, 3), (36, .iinc 3 1, 3), (39, .iinc 4 1, 3), (42, .goto (-37), 3), (45, .iload_n 3, 1), (46, .ireturn, 1)]
def ex_m_X2_changesBehind : ex_MD := (yX2_changesBehind, cX2_changesBehind, 5, (some .int), 2, none, 0, 1, 2, [], ex_p_X2_changesBehind)
def ex_p_X3_addWork : List (Nat × Instr × Nat) := [(0, .aload_n 0, 1), (1, .getfield 30, 3), (4, .istore 5, 2), (6, .aload_n 0, 1), (7, .getfield 9, 3), (10, .iload 5, 2), (12, .iload_n 1, 1), (13, .iastore, 1), (14, .aload_n 0, 1), (15, .getfield 15, 3), (18, .iload 5, 2), (20, .iload_n 2, 1), (21, .iastore, 1), (22, .aload_n 0, 1), (23, .getfield 18, 3), (26, .iload 5, 2), (28, .iload_n 3, 1), (29, .iastore, 1), (30, .aload_n 0, 1), (31, .getfield 21, 3), (34, .iload 5, 2), (36, .iload 4, 2), (38, .iastore, 1), (39, .aload_n 0, 1), (40, .dup, 1), (41, .getfield 30, 3), (44, .iconst 1, 1), (45, .iadd, 1), (46, .putfield 30, 3), (49, .iload 5, 2), (51, .ireturn, 1)]
def ex_m_X3_addWork : ex_MD := (yX3_addWork, cX3_addWork, 6, (some .int), 3, none, 0, 1, 4, [], ex_p_X3_addWork)
def ex_p_X3_addNeed : List (Nat × Instr × Nat) := [(0, .aload_n 0, 1), (1, .getfield 24, 3), (4, .iload_n 1, 1), (5, .dup2, 1), (6, .iaload, 1), (7, .iconst 1, 1), (8, .iload_n 2, 1), (9, .ishl, 1), (10, .ior, 1), (11, .iastore, 1), (12, .iload_n 3, 1), (13, .ifCond .ne 15, 3), (16, .aload_n 0, 1), (17, .getfield 27, 3), (20, .iload_n 1, 1), (21, .dup2, 1), (22, .iaload, 1), (23, .iconst 1, 1), (24, .iload_n 2, 1), (25, .ishl, 1), (26, .ior, 1), (27, .iastore, 1), (28, .aload_n 0, 1), (29, .dup, 1), (30, .getfield 34, 3), (33, .iconst 1, 1), (34, .iadd, 1), (35, .putfield 34, 3), (38, .aload_n 0, 1), (39, .getfield 34, 3), (42, .ireturn, 1)]
def ex_m_X3_addNeed : ex_MD := (yX3_addNeed, cX3_addNeed, 4, (some .int), 3, none, 0, 1, 3, [], ex_p_X3_addNeed)
def ex_p_X3_everyWork : List (Nat × Instr × Nat) := [(0, .iconst 1, 1), (1, .aload_n 0, 1), (2, .getfield 30, 3), (5, .ishl, 1), (6, .iconst 1, 1), (7, .isub, 1), (8, .ireturn, 1)]
def ex_m_X3_everyWork : ex_MD := (yX3_everyWork, cX3_everyWork, 1, (some .int), 3, none, 0, 1, 0, [], ex_p_X3_everyWork)
def ex_p_X3_canBeThin : List (Nat × Instr × Nat) := [(0, .aload_n 0, 1), (1, .getfield 21, 3), (4, .iload_n 1, 1), (5, .iaload, 1), (6, .iconst (-1), 1), (7, .if_icmp .eq 7, 3), (10, .iconst 1, 1), (11, .goto 4, 3), (14, .iconst 0, 1), (15, .ireturn, 1)]
def ex_m_X3_canBeThin : ex_MD := (yX3_canBeThin, cX3_canBeThin, 2, (some .boolean), 3, none, 0, 1, 1, [], ex_p_X3_canBeThin)
def ex_p_X3_thoseThatCan : List (Nat × Instr × Nat) := [(0, .iconst 0, 1), (1, .istore_n 2, 1), (2, .iconst 0, 1), (3, .istore_n 3, 1), (4, .iload_n 3, 1), (5, .aload_n 0, 1), (6, .getfield 30, 3), (9, .if_icmp .ge 31, 3), (12, .iload_n 1, 1), (13, .iload_n 3, 1), (14, .ishr, 1), (15, .iconst 1, 1), (16, .iand, 1), (17, .ifCond .eq 17, 3), (20, .aload_n 0, 1), (21, .iload_n 3, 1), (22, .invokevirtual 37, 3), (25, .ifCond .eq 9, 3), (28, .iload_n 2, 1), (29, .iconst 1, 1), (30, .iload_n 3, 1), (31, .ishl, 1), (32, .ior, 1), (33, .istore_n 2, 1), (34, .iinc 3 1, 3), (37, .goto (-33), 3), (40, .iload_n 2, 1), (41, .ireturn, 1)]
def ex_m_X3_thoseThatCan : ex_MD := (yX3_thoseThatCan, cX3_thoseThatCan, 4, (some .int), 3, none, 0, 1, 1, [], ex_p_X3_thoseThatCan)
def ex_p_X3_needsOf : List (Nat × Instr × Nat) := [(0, .iload_n 2, 1), (1, .iload_n 1, 1), (2, .ishr, 1), (3, .iconst 1, 1), (4, .iand, 1), (5, .ifCond .eq 12, 3), (8, .aload_n 0, 1), (9, .getfield 27, 3), (12, .iload_n 1, 1), (13, .iaload, 1), (14, .goto 9, 3), (17, .aload_n 0, 1), (18, .getfield 24, 3), (21, .iload_n 1, 1), (22, .iaload, 1), (23, .ireturn, 1)]
def ex_m_X3_needsOf : ex_MD := (yX3_needsOf, cX3_needsOf, 3, (some .int), 3, none, 0, 1, 2, [], ex_p_X3_needsOf)
def ex_p_X3_needsOfAll : List (Nat × Instr × Nat) := [(0, .iconst 0, 1), (1, .istore_n 3, 1), (2, .iconst 0, 1), (3, .istore 4, 2), (5, .iload 4, 2), (7, .aload_n 0, 1), (8, .getfield 30, 3), (11, .if_icmp .ge 28, 3), (14, .iload_n 1, 1), (15, .iload 4, 2), (17, .ishr, 1), (18, .iconst 1, 1), (19, .iand, 1), (20, .ifCond .eq 13, 3), (23, .iload_n 3, 1), (24, .aload_n 0, 1), (25, .iload 4, 2), (27, .iload_n 2, 1), (28, .invokevirtual 41, 3), (31, .ior, 1), (32, .istore_n 3, 1), (33, .iinc 4 1, 3), (36, .goto (-31), 3), (39, .iload_n 3, 1), (40, .ireturn, 1)]
def ex_m_X3_needsOfAll : ex_MD := (yX3_needsOfAll, cX3_needsOfAll, 5, (some .int), 3, none, 0, 1, 2, [], ex_p_X3_needsOfAll)
def ex_p_X3_reachOf : List (Nat × Instr × Nat) := [(0, .aload_n 0, 1), (1, .iload_n 1, 1), (2, .iload_n 2, 1), (3, .invokevirtual 41, 3), (6, .istore_n 3, 1), (7, .iconst 0, 1), (8, .istore 4, 2), (10, .iload 4, 2), (12, .aload_n 0, 1), (13, .getfield 30, 3), (16, .if_icmp .ge 31, 3), (19, .iload_n 3, 1), (20, .aload_n 0, 1), (21, .iload_n 3, 1), (22, .iload_n 2, 1), (23, .invokevirtual 45, 3), (26, .ior, 1), (27, .istore 5, 2), (29, .iload 5, 2), (31, .iload_n 3, 1), (32, .if_icmp .ne 6, 3), (35, .goto 12, 3), (38, .iload 5, 2), (40, .istore_n 3, 1), (41, .iinc 4 1, 3), (44, .goto (-34), 3), (47, .iload_n 3, 1), (48, .ireturn, 1)]
def ex_m_X3_reachOf : ex_MD := (yX3_reachOf, cX3_reachOf, 6, (some .int), 3, none, 0, 1, 2, [], ex_p_X3_reachOf)
def ex_p_X3_leastSteps : List (Nat × Instr × Nat) := [(0, .aload_n 0, 1), (1, .iload_n 1, 1), (2, .iconst 0, 1), (3, .invokevirtual 41, 3), (6, .istore_n 3, 1), (7, .iconst 1, 1), (8, .istore 4, 2), (10, .iload 4, 2), (12, .aload_n 0, 1), (13, .getfield 30, 3), (16, .if_icmp .gt 27, 3), (19, .iload_n 3, 1), (20, .iload_n 2, 1), (21, .ishr, 1), (22, .iconst 1, 1), (23, .iand, 1), (24, .ifCond .eq 6, 3), (27, .iload 4, 2), (29, .ireturn, 1), (30, .aload_n 0, 1), (31, .iload_n 3, 1), (32, .iconst 0, 1), (33, .invokevirtual 45, 3), (36, .istore_n 3, 1), (37, .iinc 4 1, 3), (40, .goto (-30), 3), (43, .iconst (-1), 1), (44, .ireturn, 1)]
def ex_m_X3_leastSteps : ex_MD := (yX3_leastSteps, cX3_leastSteps, 5, (some .int), 3, none, 0, 1, 2, [], ex_p_X3_leastSteps)
def ex_p_X3_inRings : List (Nat × Instr × Nat) := [(0, .iconst 0, 1), (1, .istore_n 2, 1), (2, .iconst 0, 1), (3, .istore_n 3, 1), (4, .iload_n 3, 1), (5, .aload_n 0, 1), (6, .getfield 30, 3), (9, .if_icmp .ge 28, 3), (12, .aload_n 0, 1), (13, .iload_n 3, 1), (14, .iload_n 1, 1), (15, .invokevirtual 48, 3), (18, .iload_n 3, 1), (19, .ishr, 1), (20, .iconst 1, 1), (21, .iand, 1), (22, .ifCond .eq 9, 3), (25, .iload_n 2, 1), (26, .iconst 1, 1), (27, .iload_n 3, 1), (28, .ishl, 1), (29, .ior, 1), (30, .istore_n 2, 1), (31, .iinc 3 1, 3), (34, .goto (-30), 3), (37, .iload_n 2, 1), (38, .ireturn, 1)]
def ex_m_X3_inRings : ex_MD := (yX3_inRings, cX3_inRings, 4, (some .int), 3, none, 0, 1, 1, [], ex_p_X3_inRings)
def ex_p_X3_hasRing : List (Nat × Instr × Nat) := [(0, .aload_n 0, 1), (1, .invokevirtual 51, 3), (4, .istore_n 2, 1), (5, .iconst 0, 1), (6, .istore_n 3, 1), (7, .iload_n 3, 1), (8, .aload_n 0, 1), (9, .getfield 30, 3), (12, .if_icmp .ge 72, 3), (15, .iload_n 2, 1), (16, .ifCond .eq 68, 3), (19, .iload_n 2, 1), (20, .istore 4, 2), (22, .iconst 0, 1), (23, .istore 5, 2), (25, .iload 5, 2), (27, .aload_n 0, 1), (28, .getfield 30, 3), (31, .if_icmp .ge 39, 3), (34, .iload_n 2, 1), (35, .iload 5, 2), (37, .ishr, 1), (38, .iconst 1, 1), (39, .iand, 1), (40, .ifCond .eq 24, 3), (43, .aload_n 0, 1), (44, .iload 5, 2), (46, .iload_n 1, 1), (47, .invokevirtual 41, 3), (50, .iload_n 2, 1), (51, .iand, 1), (52, .ifCond .ne 12, 3), (55, .iload_n 2, 1), (56, .iconst 1, 1), (57, .iload 5, 2), (59, .ishl, 1), (60, .iconst (-1), 1), (61, .ixor, 1), (62, .iand, 1), (63, .istore_n 2, 1), (64, .iinc 5 1, 3), (67, .goto (-42), 3), (70, .iload_n 2, 1), (71, .iload 4, 2), (73, .if_icmp .ne 5, 3), (76, .iconst 1, 1), (77, .ireturn, 1), (78, .iinc 3 1, 3), (81, .goto (-74), 3), (84, .iload_n 2, 1), (85, .ifCond .eq 7, 3), (88, .iconst 1, 1), (89, .goto 4, 3), (92, .iconst 0, 1), (93, .ireturn, 1)]
def ex_m_X3_hasRing : ex_MD := (yX3_hasRing, cX3_hasRing, 6, (some .boolean), 3, none, 0, 1, 1, [], ex_p_X3_hasRing)
def ex_p_X3_cheapestCut : List (Nat × Instr × Nat) := [(0, .iconst (-1), 1), (1, .istore_n 1, 1), (2, .iconst 0, 1), (3, .istore_n 2, 1), (4, .aload_n 0, 1), (5, .invokevirtual 51, 3), (8, .istore_n 3, 1), (9, .iconst 0, 1), (10, .istore 4, 2), (12, .iload 4, 2), (14, .iload_n 3, 1), (15, .if_icmp .gt 57, 3), (18, .aload_n 0, 1), (19, .iload 4, 2), (21, .invokevirtual 55, 3), (24, .iload 4, 2), (26, .if_icmp .eq 6, 3), (29, .goto 37, 3), (32, .aload_n 0, 1), (33, .iload 4, 2), (35, .invokevirtual 59, 3), (38, .istore 5, 2), (40, .iload_n 1, 1), (41, .iconst (-1), 1), (42, .if_icmp .eq 9, 3), (45, .iload 5, 2), (47, .iload_n 2, 1), (48, .if_icmp .ge 18, 3), (51, .aload_n 0, 1), (52, .iload 4, 2), (54, .invokevirtual 62, 3), (57, .ifCond .ne 9, 3), (60, .iload 4, 2), (62, .istore_n 1, 1), (63, .iload 5, 2), (65, .istore_n 2, 1), (66, .iinc 4 1, 3), (69, .goto (-57), 3), (72, .iload_n 1, 1), (73, .ireturn, 1)]
def ex_m_X3_cheapestCut : ex_MD := (yX3_cheapestCut, cX3_cheapestCut, 6, (some .int), 3, none, 0, 1, 0, [], ex_p_X3_cheapestCut)
def ex_p_X3_costOf : List (Nat × Instr × Nat) := [(0, .iconst 0, 1), (1, .istore_n 2, 1), (2, .iconst 0, 1), (3, .istore_n 3, 1), (4, .iload_n 3, 1), (5, .aload_n 0, 1), (6, .getfield 30, 3), (9, .if_icmp .ge 26, 3), (12, .iload_n 1, 1), (13, .iload_n 3, 1), (14, .ishr, 1), (15, .iconst 1, 1), (16, .iand, 1), (17, .ifCond .eq 12, 3), (20, .iload_n 2, 1), (21, .aload_n 0, 1), (22, .getfield 21, 3), (25, .iload_n 3, 1), (26, .iaload, 1), (27, .iadd, 1), (28, .istore_n 2, 1), (29, .iinc 3 1, 3), (32, .goto (-28), 3), (35, .iload_n 2, 1), (36, .ireturn, 1)]
def ex_m_X3_costOf : ex_MD := (yX3_costOf, cX3_costOf, 4, (some .int), 3, none, 0, 1, 1, [], ex_p_X3_costOf)
def ex_p_X4_work : List (Nat × Instr × Nat) := [(0, .iload_n 1, 1), (1, .iconst 1, 1), (2, .bipush 12, 2), (4, .invokestatic 39, 3), (7, .ifCond .eq 35, 3), (10, .iload_n 2, 1), (11, .iconst 1, 1), (12, .bipush 6, 2), (14, .invokestatic 39, 3), (17, .ifCond .eq 25, 3), (20, .iload_n 3, 1), (21, .iconst 0, 1), (22, .bipush 100, 2), (24, .invokestatic 39, 3), (27, .ifCond .eq 15, 3), (30, .iload 4, 2), (32, .iconst (-1), 1), (33, .sipush 1000, 3), (36, .invokestatic 39, 3), (39, .ifCond .ne 13, 3), (42, .new 43, 3), (45, .dup, 1), (46, .ldc 45, 2), (48, .invokespecial 47, 3), (51, .athrow, 1), (52, .aload_n 0, 1), (53, .getfield 10, 3), (56, .getfield 50, 3), (59, .bipush 8, 2), (61, .if_icmp .lt 13, 3), (64, .new 54, 3), (67, .dup, 1), (68, .ldc 56, 2), (70, .invokespecial 58, 3), (73, .athrow, 1), (74, .aload_n 0, 1), (75, .invokevirtual 59, 3), (78, .aload_n 0, 1), (79, .getfield 10, 3), (82, .iload_n 1, 1), (83, .iload_n 2, 1), (84, .iload_n 3, 1), (85, .iload 4, 2), (87, .invokevirtual 62, 3), (90, .ireturn, 1)]
def ex_m_X4_work : ex_MD := (yX4_work, cX4_work, 5, (some .int), 4, none, 1, 1, 4, [], ex_p_X4_work)
def ex_p_X4_need : List (Nat × Instr × Nat) := [(0, .aload_n 0, 1), (1, .iload_n 1, 1), (2, .invokevirtual 66, 3), (5, .aload_n 0, 1), (6, .iload_n 2, 1), (7, .invokevirtual 66, 3), (10, .iload_n 1, 1), (11, .iload_n 2, 1), (12, .if_icmp .ne 13, 3), (15, .new 43, 3), (18, .dup, 1), (19, .ldc 70, 2), (21, .invokespecial 47, 3), (24, .athrow, 1), (25, .aload_n 0, 1), (26, .getfield 10, 3), (29, .getfield 72, 3), (32, .bipush 40, 2), (34, .if_icmp .lt 13, 3), (37, .new 54, 3), (40, .dup, 1), (41, .ldc 75, 2), (43, .invokespecial 58, 3), (46, .athrow, 1), (47, .aload_n 0, 1), (48, .invokevirtual 59, 3), (51, .aload_n 0, 1), (52, .getfield 10, 3), (55, .iload_n 1, 1), (56, .iload_n 2, 1), (57, .iload_n 3, 1), (58, .invokevirtual 77, 3), (61, .ireturn, 1)]
def ex_m_X4_need : ex_MD := (yX4_need, cX4_need, 4, (some .int), 4, none, 3, 1, 3, [], ex_p_X4_need)
def ex_p_X4_hangs : List (Nat × Instr × Nat) := [(0, .aload_n 0, 1), (1, .iload_n 1, 1), (2, .invokevirtual 66, 3), (5, .aload_n 0, 1), (6, .getfield 10, 3), (9, .iload_n 1, 1), (10, .iconst 0, 1), (11, .invokevirtual 81, 3), (14, .ireturn, 1)]
def ex_m_X4_hangs : ex_MD := (yX4_hangs, cX4_hangs, 2, (some .int), 4, none, 1, 1, 1, [], ex_p_X4_hangs)
def ex_p_X4_steps : List (Nat × Instr × Nat) := [(0, .aload_n 0, 1), (1, .iload_n 1, 1), (2, .invokevirtual 66, 3), (5, .aload_n 0, 1), (6, .iload_n 2, 1), (7, .invokevirtual 66, 3), (10, .aload_n 0, 1), (11, .getfield 10, 3), (14, .iload_n 1, 1), (15, .iload_n 2, 1), (16, .invokevirtual 85, 3), (19, .ireturn, 1)]
def ex_m_X4_steps : ex_MD := (yX4_steps, cX4_steps, 3, (some .int), 4, none, 2, 1, 2, [], ex_p_X4_steps)
def ex_p_X4_rings : List (Nat × Instr × Nat) := [(0, .aload_n 0, 1), (1, .getfield 10, 3), (4, .aload_n 0, 1), (5, .getfield 10, 3), (8, .iload_n 1, 1), (9, .invokevirtual 88, 3), (12, .invokevirtual 92, 3), (15, .ireturn, 1)]
def ex_m_X4_rings : ex_MD := (yX4_rings, cX4_rings, 2, (some .int), 4, none, 0, 1, 1, [], ex_p_X4_rings)
def ex_p_X4_cut : List (Nat × Instr × Nat) := [(0, .aload_n 0, 1), (1, .getfield 10, 3), (4, .invokevirtual 95, 3), (7, .ireturn, 1)]
def ex_m_X4_cut : ex_MD := (yX4_cut, cX4_cut, 1, (some .int), 4, none, 0, 1, 0, [], ex_p_X4_cut)
def ex_p_X4_store : List (Nat × Instr × Nat) := [(0, .aload_n 0, 1), (1, .getfield 19, 3), (4, .getfield 99, 3), (7, .bipush 6, 2), (9, .if_icmp .lt 13, 3), (12, .new 54, 3), (15, .dup, 1), (16, .ldc 100, 2), (18, .invokespecial 58, 3), (21, .athrow, 1), (22, .aload_n 0, 1), (23, .getfield 19, 3), (26, .invokevirtual 102, 3), (29, .ireturn, 1)]
def ex_m_X4_store : ex_MD := (yX4_store, cX4_store, 1, (some .int), 4, none, 1, 1, 0, [], ex_p_X4_store)
def ex_p_X4_copy : List (Nat × Instr × Nat) := [(0, .aload_n 0, 1), (1, .iload_n 1, 1), (2, .invokevirtual 105, 3), (5, .iload_n 2, 1), (6, .invokestatic 108, 3), (9, .iload_n 3, 1), (10, .invokestatic 108, 3), (13, .iload_n 3, 1), (14, .iload_n 2, 1), (15, .if_icmp .ge 13, 3), (18, .new 43, 3), (21, .dup, 1), (22, .ldc 111, 2), (24, .invokespecial 47, 3), (27, .athrow, 1), (28, .aload_n 0, 1), (29, .getfield 19, 3), (32, .getfield 113, 3), (35, .iload_n 1, 1), (36, .iaload, 1), (37, .iconst 4, 1), (38, .if_icmp .lt 13, 3), (41, .new 54, 3), (44, .dup, 1), (45, .ldc 117, 2), (47, .invokespecial 58, 3), (50, .athrow, 1), (51, .aload_n 0, 1), (52, .getfield 19, 3), (55, .iload_n 1, 1), (56, .iload_n 2, 1), (57, .iload_n 3, 1), (58, .invokevirtual 119, 3), (61, .ireturn, 1)]
def ex_m_X4_copy : ex_MD := (yX4_copy, cX4_copy, 4, (some .int), 4, none, 4, 1, 3, [], ex_p_X4_copy)
def ex_p_X4_torn : List (Nat × Instr × Nat) := [(0, .aload_n 0, 1), (1, .iload_n 1, 1), (2, .invokevirtual 105, 3), (5, .iload_n 2, 1), (6, .ifCond .lt 16, 3), (9, .iload_n 2, 1), (10, .aload_n 0, 1), (11, .getfield 19, 3), (14, .getfield 113, 3), (17, .iload_n 1, 1), (18, .iaload, 1), (19, .if_icmp .lt 13, 3), (22, .new 123, 3), (25, .dup, 1), (26, .ldc 125, 2), (28, .invokespecial 127, 3), (31, .athrow, 1), (32, .aload_n 0, 1), (33, .getfield 19, 3), (36, .iload_n 1, 1), (37, .iload_n 2, 1), (38, .iload_n 3, 1), (39, .invokevirtual 128, 3), (42, .ireturn, 1)]
def ex_m_X4_torn : ex_MD := (yX4_torn, cX4_torn, 4, (some .boolean), 4, none, 2, 1, 3, [], ex_p_X4_torn)
def ex_p_X4_letter : List (Nat × Instr × Nat) := [(0, .aload_n 0, 1), (1, .iload_n 1, 1), (2, .invokevirtual 105, 3), (5, .aload_n 0, 1), (6, .iload_n 3, 1), (7, .invokevirtual 105, 3), (10, .iload_n 2, 1), (11, .invokestatic 108, 3), (14, .iload 4, 2), (16, .invokestatic 108, 3), (19, .iload_n 1, 1), (20, .iload_n 3, 1), (21, .if_icmp .eq 9, 3), (24, .iload 4, 2), (26, .iload_n 2, 1), (27, .if_icmp .ge 13, 3), (30, .new 43, 3), (33, .dup, 1), (34, .ldc 132, 2), (36, .invokespecial 47, 3), (39, .athrow, 1), (40, .aload_n 0, 1), (41, .getfield 19, 3), (44, .getfield 134, 3), (47, .bipush 30, 2), (49, .if_icmp .lt 13, 3), (52, .new 54, 3), (55, .dup, 1), (56, .ldc 137, 2), (58, .invokespecial 58, 3), (61, .athrow, 1), (62, .aload_n 0, 1), (63, .getfield 19, 3), (66, .iload_n 1, 1), (67, .iload_n 2, 1), (68, .iload_n 3, 1), (69, .iload 4, 2), (71, .invokevirtual 139, 3), (74, .ireturn, 1)]
def ex_m_X4_letter : ex_MD := (yX4_letter, cX4_letter, 5, (some .int), 4, none, 5, 1, 4, [], ex_p_X4_letter)
def ex_p_X4_change : List (Nat × Instr × Nat) := [(0, .aload_n 0, 1), (1, .iload_n 1, 1), (2, .invokevirtual 105, 3), (5, .iload_n 2, 1), (6, .invokestatic 108, 3), (9, .aload_n 0, 1), (10, .getfield 19, 3), (13, .getfield 142, 3), (16, .bipush 80, 2), (18, .if_icmp .lt 13, 3), (21, .new 54, 3), (24, .dup, 1), (25, .ldc 145, 2), (27, .invokespecial 58, 3), (30, .athrow, 1), (31, .aload_n 0, 1), (32, .getfield 19, 3), (35, .iload_n 1, 1), (36, .iload_n 2, 1), (37, .invokevirtual 147, 3), (40, .ireturn, 1)]
def ex_m_X4_change : ex_MD := (yX4_change, cX4_change, 3, (some .int), 4, none, 3, 1, 2, [], ex_p_X4_change)
def ex_p_X4_together : List (Nat × Instr × Nat) := [(0, .aload_n 0, 1), (1, .getfield 19, 3), (4, .invokevirtual 150, 3), (7, .ireturn, 1)]
def ex_m_X4_together : ex_MD := (yX4_together, cX4_together, 1, (some .boolean), 4, none, 0, 1, 0, [], ex_p_X4_together)
def ex_p_X4_state : List (Nat × Instr × Nat) := [(0, .aload_n 0, 1), (1, .iload_n 1, 1), (2, .invokevirtual 105, 3), (5, .aload_n 0, 1), (6, .getfield 19, 3), (9, .invokevirtual 150, 3), (12, .ifCond .eq 15, 3), (15, .aload_n 0, 1), (16, .getfield 19, 3), (19, .getfield 154, 3), (22, .iload_n 1, 1), (23, .iaload, 1), (24, .goto 4, 3), (27, .iconst (-1), 1), (28, .ireturn, 1)]
def ex_m_X4_state : ex_MD := (yX4_state, cX4_state, 2, (some .int), 4, none, 1, 1, 1, [], ex_p_X4_state)
def ex_p_X4_lost : List (Nat × Instr × Nat) := [(0, .aload_n 0, 1), (1, .iload_n 1, 1), (2, .invokevirtual 105, 3), (5, .aload_n 0, 1), (6, .getfield 19, 3), (9, .invokevirtual 150, 3), (12, .ifCond .eq 23, 3), (15, .aload_n 0, 1), (16, .getfield 19, 3), (19, .iload_n 1, 1), (20, .aload_n 0, 1), (21, .getfield 19, 3), (24, .getfield 154, 3), (27, .iload_n 1, 1), (28, .iaload, 1), (29, .invokevirtual 157, 3), (32, .goto 4, 3), (35, .iconst (-1), 1), (36, .ireturn, 1)]
def ex_m_X4_lost : ex_MD := (yX4_lost, cX4_lost, 2, (some .int), 4, none, 1, 1, 1, [], ex_p_X4_lost)
def ex_p_X4_plan : List (Nat × Instr × Nat) := [(0, .iload_n 1, 1), (1, .invokestatic 160, 3), (4, .aload_n 0, 1), (5, .getfield 28, 3), (8, .iload_n 1, 1), (9, .aload_n 0, 1), (10, .getfield 10, 3), (13, .iload_n 2, 1), (14, .invokevirtual 88, 3), (17, .invokevirtual 163, 3), (20, .ireturn, 1)]
def ex_m_X4_plan : ex_MD := (yX4_plan, cX4_plan, 3, (some .int), 4, none, 1, 1, 2, [], ex_p_X4_plan)
def ex_p_X4_begins : List (Nat × Instr × Nat) := [(0, .aload_n 0, 1), (1, .iload_n 1, 1), (2, .invokevirtual 66, 3), (5, .aload_n 0, 1), (6, .getfield 28, 3), (9, .getfield 166, 3), (12, .ifCond .eq 15, 3), (15, .aload_n 0, 1), (16, .getfield 28, 3), (19, .getfield 170, 3), (22, .iload_n 1, 1), (23, .iaload, 1), (24, .goto 4, 3), (27, .iconst (-1), 1), (28, .ireturn, 1)]
def ex_m_X4_begins : ex_MD := (yX4_begins, cX4_begins, 2, (some .int), 4, none, 1, 1, 1, [], ex_p_X4_begins)
def ex_p_X4_night : List (Nat × Instr × Nat) := [(0, .iload_n 1, 1), (1, .invokestatic 160, 3), (4, .aload_n 0, 1), (5, .getfield 35, 3), (8, .iload_n 1, 1), (9, .invokevirtual 173, 3), (12, .return_, 1)]
def ex_m_X4_night : ex_MD := (yX4_night, cX4_night, 2, none, 4, none, 1, 1, 1, [], ex_p_X4_night)
def ex_p_X4_begin : List (Nat × Instr × Nat) := [(0, .aload_n 0, 1), (1, .iload_n 1, 1), (2, .invokevirtual 66, 3), (5, .aload_n 0, 1), (6, .invokevirtual 176, 3), (9, .aload_n 0, 1), (10, .getfield 35, 3), (13, .iload_n 1, 1), (14, .iload_n 2, 1), (15, .invokevirtual 179, 3), (18, .ireturn, 1)]
def ex_m_X4_begin : ex_MD := (yX4_begin, cX4_begin, 3, (some .boolean), 4, none, 2, 1, 2, [], ex_p_X4_begin)
def ex_p_X4_tick : List (Nat × Instr × Nat) := [(0, .aload_n 0, 1), (1, .invokevirtual 176, 3), (4, .iload_n 1, 1), (5, .iconst 0, 1), (6, .bipush 100, 2), (8, .invokestatic 39, 3), (11, .ifCond .ne 13, 3), (14, .new 43, 3), (17, .dup, 1), (18, .ldc 183, 2), (20, .invokespecial 47, 3), (23, .athrow, 1), (24, .aload_n 0, 1), (25, .getfield 35, 3), (28, .iload_n 1, 1), (29, .invokevirtual 185, 3), (32, .ireturn, 1)]
def ex_m_X4_tick : ex_MD := (yX4_tick, cX4_tick, 2, (some .int), 4, none, 2, 1, 1, [], ex_p_X4_tick)
def ex_p_X4_fail : List (Nat × Instr × Nat) := [(0, .aload_n 0, 1), (1, .iload_n 1, 1), (2, .invokevirtual 66, 3), (5, .aload_n 0, 1), (6, .invokevirtual 176, 3), (9, .aload_n 0, 1), (10, .getfield 35, 3), (13, .iload_n 1, 1), (14, .invokevirtual 188, 3), (17, .ireturn, 1)]
def ex_m_X4_fail : ex_MD := (yX4_fail, cX4_fail, 2, (some .boolean), 4, none, 2, 1, 1, [], ex_p_X4_fail)
def ex_p_X4_blow : List (Nat × Instr × Nat) := [(0, .aload_n 0, 1), (1, .iload_n 1, 1), (2, .invokevirtual 66, 3), (5, .aload_n 0, 1), (6, .invokevirtual 176, 3), (9, .aload_n 0, 1), (10, .getfield 35, 3), (13, .iload_n 1, 1), (14, .invokevirtual 192, 3), (17, .ireturn, 1)]
def ex_m_X4_blow : ex_MD := (yX4_blow, cX4_blow, 2, (some .int), 4, none, 2, 1, 1, [], ex_p_X4_blow)
def ex_p_X4_look : List (Nat × Instr × Nat) := [(0, .aload_n 0, 1), (1, .iload_n 1, 1), (2, .invokevirtual 66, 3), (5, .aload_n 0, 1), (6, .invokevirtual 176, 3), (9, .iload_n 2, 1), (10, .tableswitch 57 0 2 #[26, 35, 45], 26), (36, .aload_n 0, 1), (37, .getfield 35, 3), (40, .iload_n 1, 1), (41, .invokevirtual 195, 3), (44, .ireturn, 1), (45, .aload_n 0, 1), (46, .getfield 35, 3), (49, .getfield 198, 3), (52, .iload_n 1, 1), (53, .iaload, 1), (54, .ireturn, 1), (55, .aload_n 0, 1), (56, .getfield 35, 3), (59, .getfield 201, 3), (62, .iload_n 1, 1), (63, .ishr, 1), (64, .iconst 1, 1), (65, .iand, 1), (66, .ireturn, 1), (67, .new 204, 3), (70, .dup, 1), (71, .ldc 206, 2), (73, .invokespecial 208, 3), (76, .athrow, 1)]
def ex_m_X4_look : ex_MD := (yX4_look, cX4_look, 3, (some .int), 4, none, 3, 1, 2, [], ex_p_X4_look)
def ex_p_X4_now : List (Nat × Instr × Nat) := [(0, .aload_n 0, 1), (1, .invokevirtual 176, 3), (4, .iload_n 1, 1), (5, .tableswitch 63 0 3 #[31, 39, 47, 55], 31), (36, .aload_n 0, 1), (37, .getfield 35, 3), (40, .getfield 209, 3), (43, .ireturn, 1), (44, .aload_n 0, 1), (45, .getfield 35, 3), (48, .invokevirtual 212, 3), (51, .ireturn, 1), (52, .aload_n 0, 1), (53, .getfield 35, 3), (56, .getfield 215, 3), (59, .ireturn, 1), (60, .aload_n 0, 1), (61, .getfield 35, 3), (64, .getfield 218, 3), (67, .ireturn, 1), (68, .new 204, 3), (71, .dup, 1), (72, .ldc 221, 2), (74, .invokespecial 208, 3), (77, .athrow, 1)]
def ex_m_X4_now : ex_MD := (yX4_now, cX4_now, 2, (some .int), 4, none, 2, 1, 1, [], ex_p_X4_now)
def ex_p_X4_count : List (Nat × Instr × Nat) := [(0, .iload_n 1, 1), (1, .tableswitch 115 0 6 #[43, 51, 59, 67, 75, 83, 99], 43), (44, .aload_n 0, 1), (45, .getfield 10, 3), (48, .getfield 50, 3), (51, .ireturn, 1), (52, .aload_n 0, 1), (53, .getfield 10, 3), (56, .getfield 72, 3), (59, .ireturn, 1), (60, .aload_n 0, 1), (61, .getfield 19, 3), (64, .getfield 99, 3), (67, .ireturn, 1), (68, .aload_n 0, 1), (69, .getfield 19, 3), (72, .getfield 134, 3), (75, .ireturn, 1), (76, .aload_n 0, 1), (77, .getfield 19, 3), (80, .getfield 142, 3), (83, .ireturn, 1), (84, .aload_n 0, 1), (85, .getfield 28, 3), (88, .getfield 166, 3), (91, .ifCond .eq 7, 3), (94, .iconst 1, 1), (95, .goto 4, 3), (98, .iconst 0, 1), (99, .ireturn, 1), (100, .aload_n 0, 1), (101, .getfield 35, 3), (104, .getfield 223, 3), (107, .ifCond .eq 7, 3), (110, .iconst 1, 1), (111, .goto 4, 3), (114, .iconst 0, 1), (115, .ireturn, 1), (116, .iconst (-1), 1), (117, .ireturn, 1)]
def ex_m_X4_count : ex_MD := (yX4_count, cX4_count, 2, (some .int), 4, none, 0, 1, 1, [], ex_p_X4_count)
def ex_p_X4_endPlanAndNight : List (Nat × Instr × Nat) := [(0, .aload_n 0, 1), (1, .getfield 28, 3), (4, .iconst 0, 1), (5, .putfield 166, 3), (8, .aload_n 0, 1), (9, .getfield 35, 3), (12, .iconst 0, 1), (13, .putfield 223, 3), (16, .return_, 1)]
def ex_m_X4_endPlanAndNight : ex_MD := (yX4_endPlanAndNight, cX4_endPlanAndNight, 1, none, 4, none, 0, 1, 0, [], ex_p_X4_endPlanAndNight)
def ex_p_X4_isWithin : List (Nat × Instr × Nat) := [(0, .iload_n 0, 1), (1, .iload_n 1, 1), (2, .if_icmp .lt 12, 3), (5, .iload_n 0, 1), (6, .iload_n 2, 1), (7, .if_icmp .gt 7, 3), (10, .iconst 1, 1), (11, .goto 4, 3), (14, .iconst 0, 1), (15, .ireturn, 1)]
def ex_m_X4_isWithin : ex_MD := (yX4_isWithin, cX4_isWithin, 3, (some .boolean), 4, none, 0, 0, 3, [], ex_p_X4_isWithin)
def ex_p_X4_requireWork : List (Nat × Instr × Nat) := [(0, .iload_n 1, 1), (1, .ifCond .lt 14, 3), (4, .iload_n 1, 1), (5, .aload_n 0, 1), (6, .getfield 10, 3), (9, .getfield 50, 3), (12, .if_icmp .lt 13, 3), (15, .new 123, 3), (18, .dup, 1), (19, .ldc 224, 2), (21, .invokespecial 127, 3), (24, .athrow, 1), (25, .return_, 1)]
def ex_m_X4_requireWork : ex_MD := (yX4_requireWork, cX4_requireWork, 2, none, 4, none, 1, 1, 1, [], ex_p_X4_requireWork)
def ex_p_X4_requireStore : List (Nat × Instr × Nat) := [(0, .iload_n 1, 1), (1, .ifCond .lt 14, 3), (4, .iload_n 1, 1), (5, .aload_n 0, 1), (6, .getfield 19, 3), (9, .getfield 99, 3), (12, .if_icmp .lt 13, 3), (15, .new 123, 3), (18, .dup, 1), (19, .ldc 226, 2), (21, .invokespecial 127, 3), (24, .athrow, 1), (25, .return_, 1)]
def ex_m_X4_requireStore : ex_MD := (yX4_requireStore, cX4_requireStore, 2, none, 4, none, 1, 1, 1, [], ex_p_X4_requireStore)
def ex_p_X4_requireTick : List (Nat × Instr × Nat) := [(0, .iload_n 0, 1), (1, .iconst 0, 1), (2, .ldc 228, 2), (4, .invokestatic 39, 3), (7, .ifCond .ne 13, 3), (10, .new 43, 3), (13, .dup, 1), (14, .ldc 229, 2), (16, .invokespecial 47, 3), (19, .athrow, 1), (20, .return_, 1)]
def ex_m_X4_requireTick : ex_MD := (yX4_requireTick, cX4_requireTick, 1, none, 4, none, 1, 0, 1, [], ex_p_X4_requireTick)
def ex_p_X4_requireHands : List (Nat × Instr × Nat) := [(0, .iload_n 0, 1), (1, .iconst 1, 1), (2, .bipush 8, 2), (4, .invokestatic 39, 3), (7, .ifCond .ne 13, 3), (10, .new 43, 3), (13, .dup, 1), (14, .ldc 231, 2), (16, .invokespecial 47, 3), (19, .athrow, 1), (20, .return_, 1)]
def ex_m_X4_requireHands : ex_MD := (yX4_requireHands, cX4_requireHands, 1, none, 4, none, 1, 0, 1, [], ex_p_X4_requireHands)
def ex_p_X4_requireNight : List (Nat × Instr × Nat) := [(0, .aload_n 0, 1), (1, .getfield 35, 3), (4, .getfield 223, 3), (7, .ifCond .ne 13, 3), (10, .new 233, 3), (13, .dup, 1), (14, .ldc 235, 2), (16, .invokespecial 237, 3), (19, .athrow, 1), (20, .return_, 1)]
def ex_m_X4_requireNight : ex_MD := (yX4_requireNight, cX4_requireNight, 1, none, 4, none, 1, 1, 0, [], ex_p_X4_requireNight)
def ex_p_X5_thrown : List (Nat × Instr × Nat) := [(0, .aload_n 0, 1), (1, .getfield 86, 3), (4, .ireturn, 1)]
def ex_m_X5_thrown : ex_MD := (yX5_thrown, cX5_thrown, 1, (some .int), 5, none, 0, 1, 0, [], ex_p_X5_thrown)
def ex_p_X5_throwsIf : List (Nat × Instr × Nat) := [(0, .iload_n 1, 1), (1, .ifCond .eq 8, 3), (4, .aload_n 0, 1), (5, .iload_n 2, 1), (6, .putfield 86, 3), (9, .iload_n 1, 1), (10, .ireturn, 1)]
def ex_m_X5_throwsIf : ex_MD := (yX5_throwsIf, cX5_throwsIf, 3, (some .boolean), 5, none, 0, 1, 2, [], ex_p_X5_throwsIf)
def ex_p_X5_in : List (Nat × Instr × Nat) := [(0, .iload_n 0, 1), (1, .iload_n 1, 1), (2, .if_icmp .lt 12, 3), (5, .iload_n 0, 1), (6, .iload_n 2, 1), (7, .if_icmp .gt 7, 3), (10, .iconst 1, 1), (11, .goto 4, 3), (14, .iconst 0, 1), (15, .ireturn, 1)]
def ex_m_X5_in : ex_MD := (yX5_in, cX5_in, 3, (some .boolean), 5, none, 0, 0, 3, [], ex_p_X5_in)
def ex_p_X5_noWork : List (Nat × Instr × Nat) := [(0, .iload_n 1, 1), (1, .iconst 0, 1), (2, .aload_n 0, 1), (3, .getfield 90, 3), (6, .iconst 1, 1), (7, .isub, 1), (8, .invokestatic 93, 3), (11, .ifCond .ne 7, 3), (14, .iconst 1, 1), (15, .goto 4, 3), (18, .iconst 0, 1), (19, .ireturn, 1)]
def ex_m_X5_noWork : ex_MD := (yX5_noWork, cX5_noWork, 2, (some .boolean), 5, none, 0, 1, 1, [], ex_p_X5_noWork)
def ex_p_X5_ends : List (Nat × Instr × Nat) := [(0, .aload_n 0, 1), (1, .iconst 0, 1), (2, .putfield 97, 3), (5, .aload_n 0, 1), (6, .iconst 0, 1), (7, .putfield 101, 3), (10, .return_, 1)]
def ex_m_X5_ends : ex_MD := (yX5_ends, cX5_ends, 1, none, 5, none, 0, 1, 0, [], ex_p_X5_ends)
def ex_p_X5_work : List (Nat × Instr × Nat) := [(0, .aload_n 0, 1), (1, .iconst 0, 1), (2, .putfield 86, 3), (5, .aload_n 0, 1), (6, .iload_n 1, 1), (7, .iconst 1, 1), (8, .bipush 12, 2), (10, .invokestatic 93, 3), (13, .ifCond .eq 35, 3), (16, .iload_n 2, 1), (17, .iconst 1, 1), (18, .bipush 6, 2), (20, .invokestatic 93, 3), (23, .ifCond .eq 25, 3), (26, .iload_n 3, 1), (27, .iconst 0, 1), (28, .bipush 100, 2), (30, .invokestatic 93, 3), (33, .ifCond .eq 15, 3), (36, .iload 4, 2), (38, .iconst (-1), 1), (39, .sipush 1000, 3), (42, .invokestatic 93, 3), (45, .ifCond .ne 7, 3), (48, .iconst 1, 1), (49, .goto 4, 3), (52, .iconst 0, 1), (53, .iconst 1, 1), (54, .invokevirtual 104, 3), (57, .ifCond .ne 25, 3), (60, .aload_n 0, 1), (61, .aload_n 0, 1), (62, .getfield 90, 3), (65, .bipush 8, 2), (67, .if_icmp .ne 7, 3), (70, .iconst 1, 1), (71, .goto 4, 3), (74, .iconst 0, 1), (75, .iconst 2, 1), (76, .invokevirtual 104, 3), (79, .ifCond .eq 5, 3), (82, .iconst 0, 1), (83, .ireturn, 1), (84, .aload_n 0, 1), (85, .getfield 9, 3), (88, .aload_n 0, 1), (89, .getfield 90, 3), (92, .iload_n 1, 1), (93, .iastore, 1), (94, .aload_n 0, 1), (95, .getfield 13, 3), (98, .aload_n 0, 1), (99, .getfield 90, 3), (102, .iload_n 2, 1), (103, .iastore, 1), (104, .aload_n 0, 1), (105, .getfield 16, 3), (108, .aload_n 0, 1), (109, .getfield 90, 3), (112, .iload_n 3, 1), (113, .iastore, 1), (114, .aload_n 0, 1), (115, .getfield 19, 3), (118, .aload_n 0, 1), (119, .getfield 90, 3), (122, .iload 4, 2), (124, .iastore, 1), (125, .aload_n 0, 1), (126, .dup, 1), (127, .getfield 90, 3), (130, .iconst 1, 1), (131, .iadd, 1), (132, .putfield 90, 3), (135, .aload_n 0, 1), (136, .invokevirtual 108, 3), (139, .aload_n 0, 1), (140, .getfield 90, 3), (143, .iconst 1, 1), (144, .isub, 1), (145, .ireturn, 1)]
def ex_m_X5_work : ex_MD := (yX5_work, cX5_work, 5, (some .int), 5, none, 0, 1, 4, [], ex_p_X5_work)
def ex_p_X5_need : List (Nat × Instr × Nat) := [(0, .aload_n 0, 1), (1, .iconst 0, 1), (2, .putfield 86, 3), (5, .aload_n 0, 1), (6, .aload_n 0, 1), (7, .iload_n 1, 1), (8, .invokevirtual 111, 3), (11, .ifCond .ne 11, 3), (14, .aload_n 0, 1), (15, .iload_n 2, 1), (16, .invokevirtual 111, 3), (19, .ifCond .eq 7, 3), (22, .iconst 1, 1), (23, .goto 4, 3), (26, .iconst 0, 1), (27, .iconst 1, 1), (28, .invokevirtual 104, 3), (31, .ifCond .ne 43, 3), (34, .aload_n 0, 1), (35, .iload_n 1, 1), (36, .iload_n 2, 1), (37, .if_icmp .ne 7, 3), (40, .iconst 1, 1), (41, .goto 4, 3), (44, .iconst 0, 1), (45, .iconst 2, 1), (46, .invokevirtual 104, 3), (49, .ifCond .ne 25, 3), (52, .aload_n 0, 1), (53, .aload_n 0, 1), (54, .getfield 115, 3), (57, .bipush 40, 2), (59, .if_icmp .ne 7, 3), (62, .iconst 1, 1), (63, .goto 4, 3), (66, .iconst 0, 1), (67, .iconst 3, 1), (68, .invokevirtual 104, 3), (71, .ifCond .eq 5, 3), (74, .iconst 0, 1), (75, .ireturn, 1), (76, .aload_n 0, 1), (77, .getfield 22, 3), (80, .aload_n 0, 1), (81, .getfield 115, 3), (84, .iload_n 1, 1), (85, .iastore, 1), (86, .aload_n 0, 1), (87, .getfield 25, 3), (90, .aload_n 0, 1), (91, .getfield 115, 3), (94, .iload_n 2, 1), (95, .iastore, 1), (96, .aload_n 0, 1), (97, .getfield 28, 3), (100, .aload_n 0, 1), (101, .getfield 115, 3), (104, .iload_n 3, 1), (105, .bastore, 1), (106, .aload_n 0, 1), (107, .dup, 1), (108, .getfield 115, 3), (111, .iconst 1, 1), (112, .iadd, 1), (113, .putfield 115, 3), (116, .aload_n 0, 1), (117, .invokevirtual 108, 3), (120, .aload_n 0, 1), (121, .getfield 115, 3), (124, .ireturn, 1)]
def ex_m_X5_need : ex_MD := (yX5_need, cX5_need, 4, (some .int), 5, none, 0, 1, 3, [], ex_p_X5_need)
def ex_p_X5_canBeThin : List (Nat × Instr × Nat) := [(0, .aload_n 0, 1), (1, .getfield 19, 3), (4, .iload_n 1, 1), (5, .iaload, 1), (6, .ifCond .lt 7, 3), (9, .iconst 1, 1), (10, .goto 4, 3), (13, .iconst 0, 1), (14, .ireturn, 1)]
def ex_m_X5_canBeThin : ex_MD := (yX5_canBeThin, cX5_canBeThin, 2, (some .boolean), 5, none, 0, 1, 1, [], ex_p_X5_canBeThin)
def ex_p_X5_counts : List (Nat × Instr × Nat) := [(0, .aload_n 0, 1), (1, .getfield 28, 3), (4, .iload_n 1, 1), (5, .baload, 1), (6, .ifCond .eq 29, 3), (9, .iload_n 2, 1), (10, .aload_n 0, 1), (11, .getfield 22, 3), (14, .iload_n 1, 1), (15, .iaload, 1), (16, .ishr, 1), (17, .iconst 1, 1), (18, .iand, 1), (19, .ifCond .eq 16, 3), (22, .aload_n 0, 1), (23, .aload_n 0, 1), (24, .getfield 22, 3), (27, .iload_n 1, 1), (28, .iaload, 1), (29, .invokevirtual 118, 3), (32, .ifCond .ne 7, 3), (35, .iconst 1, 1), (36, .goto 4, 3), (39, .iconst 0, 1), (40, .ireturn, 1)]
def ex_m_X5_counts : ex_MD := (yX5_counts, cX5_counts, 3, (some .boolean), 5, none, 0, 1, 2, [], ex_p_X5_counts)
def ex_p_X5_measures : List (Nat × Instr × Nat) := [(0, .iconst 0, 1), (1, .istore_n 2, 1), (2, .iload_n 2, 1), (3, .bipush 64, 2), (5, .if_icmp .ge 17, 3), (8, .aload_n 0, 1), (9, .getfield 32, 3), (12, .iload_n 2, 1), (13, .ldc 121, 2), (15, .iastore, 1), (16, .iinc 2 1, 3), (19, .goto (-17), 3), (22, .iconst 0, 1), (23, .istore_n 2, 1), (24, .iload_n 2, 1), (25, .aload_n 0, 1), (26, .getfield 115, 3), (29, .if_icmp .ge 40, 3), (32, .aload_n 0, 1), (33, .iload_n 2, 1), (34, .iload_n 1, 1), (35, .invokevirtual 122, 3), (38, .ifCond .eq 25, 3), (41, .aload_n 0, 1), (42, .getfield 32, 3), (45, .bipush 8, 2), (47, .aload_n 0, 1), (48, .getfield 22, 3), (51, .iload_n 2, 1), (52, .iaload, 1), (53, .imul, 1), (54, .aload_n 0, 1), (55, .getfield 25, 3), (58, .iload_n 2, 1), (59, .iaload, 1), (60, .iadd, 1), (61, .iconst 1, 1), (62, .iastore, 1), (63, .iinc 2 1, 3), (66, .goto (-42), 3), (69, .iconst 0, 1), (70, .istore_n 2, 1), (71, .iload_n 2, 1), (72, .aload_n 0, 1), (73, .getfield 90, 3), (76, .if_icmp .ge 100, 3), (79, .iconst 0, 1), (80, .istore_n 3, 1), (81, .iload_n 3, 1), (82, .aload_n 0, 1), (83, .getfield 90, 3), (86, .if_icmp .ge 84, 3), (89, .iconst 0, 1), (90, .istore 4, 2), (92, .iload 4, 2), (94, .aload_n 0, 1), (95, .getfield 90, 3), (98, .if_icmp .ge 66, 3), (101, .aload_n 0, 1), (102, .getfield 32, 3), (105, .bipush 8, 2), (107, .iload_n 3, 1), (108, .imul, 1), (109, .iload_n 2, 1), (110, .iadd, 1), (111, .iaload, 1), (112, .aload_n 0, 1), (113, .getfield 32, 3), (116, .bipush 8, 2), (118, .iload_n 2, 1), (119, .imul, 1), (120, .iload 4, 2), (122, .iadd, 1), (123, .iaload, 1), (124, .iadd, 1), (125, .istore 5, 2), (127, .iload 5, 2), (129, .aload_n 0, 1), (130, .getfield 32, 3), (133, .bipush 8, 2), (135, .iload_n 3, 1), (136, .imul, 1), (137, .iload 4, 2), (139, .iadd, 1), (140, .iaload, 1), (141, .if_icmp .ge 17, 3), (144, .aload_n 0, 1), (145, .getfield 32, 3), (148, .bipush 8, 2), (150, .iload_n 3, 1), (151, .imul, 1), (152, .iload 4, 2), (154, .iadd, 1), (155, .iload 5, 2), (157, .iastore, 1), (158, .iinc 4 1, 3), (161, .goto (-69), 3), (164, .iinc 3 1, 3), (167, .goto (-86), 3), (170, .iinc 2 1, 3), (173, .goto (-102), 3), (176, .return_, 1)]
def ex_m_X5_measures : ex_MD := (yX5_measures, cX5_measures, 6, none, 5, none, 0, 1, 1, [], ex_p_X5_measures)
def ex_p_X5_hangs : List (Nat × Instr × Nat) := [(0, .aload_n 0, 1), (1, .iconst 0, 1), (2, .putfield 86, 3), (5, .aload_n 0, 1), (6, .aload_n 0, 1), (7, .iload_n 1, 1), (8, .invokevirtual 111, 3), (11, .iconst 1, 1), (12, .invokevirtual 104, 3), (15, .ifCond .eq 5, 3), (18, .iconst 0, 1), (19, .ireturn, 1), (20, .aload_n 0, 1), (21, .iconst 0, 1), (22, .invokevirtual 126, 3), (25, .iconst 0, 1), (26, .istore_n 2, 1), (27, .iconst 0, 1), (28, .istore_n 3, 1), (29, .iload_n 3, 1), (30, .aload_n 0, 1), (31, .getfield 90, 3), (34, .if_icmp .ge 35, 3), (37, .iload_n 2, 1), (38, .aload_n 0, 1), (39, .getfield 32, 3), (42, .bipush 8, 2), (44, .iload_n 1, 1), (45, .imul, 1), (46, .iload_n 3, 1), (47, .iadd, 1), (48, .iaload, 1), (49, .ldc 121, 2), (51, .if_icmp .ge 9, 3), (54, .iconst 1, 1), (55, .iload_n 3, 1), (56, .ishl, 1), (57, .goto 4, 3), (60, .iconst 0, 1), (61, .ior, 1), (62, .istore_n 2, 1), (63, .iinc 3 1, 3), (66, .goto (-37), 3), (69, .iload_n 2, 1), (70, .ireturn, 1)]
def ex_m_X5_hangs : ex_MD := (yX5_hangs, cX5_hangs, 4, (some .int), 5, none, 0, 1, 1, [], ex_p_X5_hangs)
def ex_p_X5_steps : List (Nat × Instr × Nat) := [(0, .aload_n 0, 1), (1, .iconst 0, 1), (2, .putfield 86, 3), (5, .aload_n 0, 1), (6, .aload_n 0, 1), (7, .iload_n 1, 1), (8, .invokevirtual 111, 3), (11, .ifCond .ne 11, 3), (14, .aload_n 0, 1), (15, .iload_n 2, 1), (16, .invokevirtual 111, 3), (19, .ifCond .eq 7, 3), (22, .iconst 1, 1), (23, .goto 4, 3), (26, .iconst 0, 1), (27, .iconst 1, 1), (28, .invokevirtual 104, 3), (31, .ifCond .eq 5, 3), (34, .iconst 0, 1), (35, .ireturn, 1), (36, .aload_n 0, 1), (37, .iconst 0, 1), (38, .invokevirtual 126, 3), (41, .aload_n 0, 1), (42, .getfield 32, 3), (45, .bipush 8, 2), (47, .iload_n 1, 1), (48, .imul, 1), (49, .iload_n 2, 1), (50, .iadd, 1), (51, .iaload, 1), (52, .istore_n 3, 1), (53, .iload_n 3, 1), (54, .ldc 121, 2), (56, .if_icmp .ge 7, 3), (59, .iload_n 3, 1), (60, .goto 4, 3), (63, .iconst (-1), 1), (64, .ireturn, 1)]
def ex_m_X5_steps : ex_MD := (yX5_steps, cX5_steps, 4, (some .int), 5, none, 0, 1, 2, [], ex_p_X5_steps)
def ex_p_X5_ringsOf : List (Nat × Instr × Nat) := [(0, .aload_n 0, 1), (1, .iload_n 1, 1), (2, .invokevirtual 126, 3), (5, .iconst 0, 1), (6, .istore_n 2, 1), (7, .iconst 0, 1), (8, .istore_n 3, 1), (9, .iload_n 3, 1), (10, .aload_n 0, 1), (11, .getfield 90, 3), (14, .if_icmp .ge 35, 3), (17, .iload_n 2, 1), (18, .aload_n 0, 1), (19, .getfield 32, 3), (22, .bipush 8, 2), (24, .iload_n 3, 1), (25, .imul, 1), (26, .iload_n 3, 1), (27, .iadd, 1), (28, .iaload, 1), (29, .ldc 121, 2), (31, .if_icmp .ge 9, 3), (34, .iconst 1, 1), (35, .iload_n 3, 1), (36, .ishl, 1), (37, .goto 4, 3), (40, .iconst 0, 1), (41, .ior, 1), (42, .istore_n 2, 1), (43, .iinc 3 1, 3), (46, .goto (-37), 3), (49, .iload_n 2, 1), (50, .ireturn, 1)]
def ex_m_X5_ringsOf : ex_MD := (yX5_ringsOf, cX5_ringsOf, 4, (some .int), 5, none, 0, 1, 1, [], ex_p_X5_ringsOf)
def ex_p_X5_rings : List (Nat × Instr × Nat) := [(0, .aload_n 0, 1), (1, .iconst 0, 1), (2, .putfield 86, 3), (5, .aload_n 0, 1), (6, .iload_n 1, 1), (7, .invokevirtual 130, 3), (10, .ireturn, 1)]
def ex_m_X5_rings : ex_MD := (yX5_rings, cX5_rings, 2, (some .int), 5, none, 0, 1, 1, [], ex_p_X5_rings)
def ex_p_X5_cut : List (Nat × Instr × Nat) := [(0, .aload_n 0, 1), (1, .iconst 0, 1), (2, .putfield 86, 3), (5, .iconst (-1), 1), (6, .istore_n 1, 1), (7, .iconst 0, 1), (8, .istore_n 2, 1), (9, .iconst 0, 1), (10, .istore_n 3, 1), (11, .iload_n 3, 1), (12, .iconst 1, 1), (13, .aload_n 0, 1), (14, .getfield 90, 3), (17, .ishl, 1), (18, .if_icmp .ge 109, 3), (21, .iconst 0, 1), (22, .istore 4, 2), (24, .iconst 1, 1), (25, .istore 5, 2), (27, .iconst 0, 1), (28, .istore 6, 2), (30, .iload 6, 2), (32, .aload_n 0, 1), (33, .getfield 90, 3), (36, .if_icmp .ge 54, 3), (39, .iload_n 3, 1), (40, .iload 6, 2), (42, .ishr, 1), (43, .iconst 1, 1), (44, .iand, 1), (45, .ifCond .ne 6, 3), (48, .goto 36, 3), (51, .iload 5, 2), (53, .ifCond .eq 16, 3), (56, .aload_n 0, 1), (57, .iload 6, 2), (59, .invokevirtual 118, 3), (62, .ifCond .eq 7, 3), (65, .iconst 1, 1), (66, .goto 4, 3), (69, .iconst 0, 1), (70, .istore 5, 2), (72, .iload 4, 2), (74, .aload_n 0, 1), (75, .getfield 19, 3), (78, .iload 6, 2), (80, .iaload, 1), (81, .iadd, 1), (82, .istore 4, 2), (84, .iinc 6 1, 3), (87, .goto (-57), 3), (90, .iload 5, 2), (92, .ifCond .eq 29, 3), (95, .iload_n 1, 1), (96, .ifCond .lt 9, 3), (99, .iload 4, 2), (101, .iload_n 2, 1), (102, .if_icmp .ge 19, 3), (105, .aload_n 0, 1), (106, .iload_n 3, 1), (107, .invokevirtual 130, 3), (110, .ifCond .eq 6, 3), (113, .goto 8, 3), (116, .iload_n 3, 1), (117, .istore_n 1, 1), (118, .iload 4, 2), (120, .istore_n 2, 1), (121, .iinc 3 1, 3), (124, .goto (-113), 3), (127, .iload_n 1, 1), (128, .ireturn, 1)]
def ex_m_X5_cut : ex_MD := (yX5_cut, cX5_cut, 7, (some .int), 5, none, 0, 1, 0, [], ex_p_X5_cut)
def ex_p_X5_noStore : List (Nat × Instr × Nat) := [(0, .iload_n 1, 1), (1, .iconst 0, 1), (2, .aload_n 0, 1), (3, .getfield 134, 3), (6, .iconst 1, 1), (7, .isub, 1), (8, .invokestatic 93, 3), (11, .ifCond .ne 7, 3), (14, .iconst 1, 1), (15, .goto 4, 3), (18, .iconst 0, 1), (19, .ireturn, 1)]
def ex_m_X5_noStore : ex_MD := (yX5_noStore, cX5_noStore, 2, (some .boolean), 5, none, 0, 1, 1, [], ex_p_X5_noStore)
def ex_p_X5_isTick : List (Nat × Instr × Nat) := [(0, .iload_n 0, 1), (1, .iconst 0, 1), (2, .ldc 137, 2), (4, .invokestatic 93, 3), (7, .ireturn, 1)]
def ex_m_X5_isTick : ex_MD := (yX5_isTick, cX5_isTick, 1, (some .boolean), 5, none, 0, 0, 1, [], ex_p_X5_isTick)
def ex_p_X5_store : List (Nat × Instr × Nat) := [(0, .aload_n 0, 1), (1, .iconst 0, 1), (2, .putfield 86, 3), (5, .aload_n 0, 1), (6, .aload_n 0, 1), (7, .getfield 134, 3), (10, .bipush 6, 2), (12, .if_icmp .ne 7, 3), (15, .iconst 1, 1), (16, .goto 4, 3), (19, .iconst 0, 1), (20, .iconst 1, 1), (21, .invokevirtual 104, 3), (24, .ifCond .eq 5, 3), (27, .iconst 0, 1), (28, .ireturn, 1), (29, .aload_n 0, 1), (30, .dup, 1), (31, .getfield 134, 3), (34, .iconst 1, 1), (35, .iadd, 1), (36, .putfield 134, 3), (39, .aload_n 0, 1), (40, .getfield 134, 3), (43, .iconst 1, 1), (44, .isub, 1), (45, .ireturn, 1)]
def ex_m_X5_store : ex_MD := (yX5_store, cX5_store, 1, (some .int), 5, none, 0, 1, 0, [], ex_p_X5_store)
def ex_p_X5_copy : List (Nat × Instr × Nat) := [(0, .aload_n 0, 1), (1, .iconst 0, 1), (2, .putfield 86, 3), (5, .aload_n 0, 1), (6, .aload_n 0, 1), (7, .iload_n 1, 1), (8, .invokevirtual 138, 3), (11, .iconst 1, 1), (12, .invokevirtual 104, 3), (15, .ifCond .ne 58, 3), (18, .aload_n 0, 1), (19, .iload_n 2, 1), (20, .invokestatic 141, 3), (23, .ifCond .eq 15, 3), (26, .iload_n 3, 1), (27, .invokestatic 141, 3), (30, .ifCond .eq 8, 3), (33, .iload_n 3, 1), (34, .iload_n 2, 1), (35, .if_icmp .ge 7, 3), (38, .iconst 1, 1), (39, .goto 4, 3), (42, .iconst 0, 1), (43, .iconst 2, 1), (44, .invokevirtual 104, 3), (47, .ifCond .ne 26, 3), (50, .aload_n 0, 1), (51, .aload_n 0, 1), (52, .getfield 44, 3), (55, .iload_n 1, 1), (56, .iaload, 1), (57, .iconst 4, 1), (58, .if_icmp .ne 7, 3), (61, .iconst 1, 1), (62, .goto 4, 3), (65, .iconst 0, 1), (66, .iconst 3, 1), (67, .invokevirtual 104, 3), (70, .ifCond .eq 5, 3), (73, .iconst 0, 1), (74, .ireturn, 1), (75, .iconst 4, 1), (76, .iload_n 1, 1), (77, .imul, 1), (78, .aload_n 0, 1), (79, .getfield 44, 3), (82, .iload_n 1, 1), (83, .iaload, 1), (84, .iadd, 1), (85, .istore 4, 2), (87, .aload_n 0, 1), (88, .getfield 35, 3), (91, .iload 4, 2), (93, .iload_n 2, 1), (94, .iastore, 1), (95, .aload_n 0, 1), (96, .getfield 38, 3), (99, .iload 4, 2), (101, .iload_n 3, 1), (102, .iastore, 1), (103, .aload_n 0, 1), (104, .getfield 44, 3), (107, .iload_n 1, 1), (108, .dup2, 1), (109, .iaload, 1), (110, .iconst 1, 1), (111, .iadd, 1), (112, .iastore, 1), (113, .aload_n 0, 1), (114, .getfield 44, 3), (117, .iload_n 1, 1), (118, .iaload, 1), (119, .iconst 1, 1), (120, .isub, 1), (121, .ireturn, 1)]
def ex_m_X5_copy : ex_MD := (yX5_copy, cX5_copy, 5, (some .int), 5, none, 0, 1, 3, [], ex_p_X5_copy)
def ex_p_X5_torn : List (Nat × Instr × Nat) := [(0, .aload_n 0, 1), (1, .iconst 0, 1), (2, .putfield 86, 3), (5, .aload_n 0, 1), (6, .aload_n 0, 1), (7, .iload_n 1, 1), (8, .invokevirtual 138, 3), (11, .ifCond .ne 19, 3), (14, .iload_n 2, 1), (15, .iconst 0, 1), (16, .aload_n 0, 1), (17, .getfield 44, 3), (20, .iload_n 1, 1), (21, .iaload, 1), (22, .iconst 1, 1), (23, .isub, 1), (24, .invokestatic 93, 3), (27, .ifCond .ne 7, 3), (30, .iconst 1, 1), (31, .goto 4, 3), (34, .iconst 0, 1), (35, .iconst 1, 1), (36, .invokevirtual 104, 3), (39, .ifCond .eq 5, 3), (42, .iconst 0, 1), (43, .ireturn, 1), (44, .aload_n 0, 1), (45, .getfield 41, 3), (48, .iconst 4, 1), (49, .iload_n 1, 1), (50, .imul, 1), (51, .iload_n 2, 1), (52, .iadd, 1), (53, .baload, 1), (54, .istore 4, 2), (56, .aload_n 0, 1), (57, .getfield 41, 3), (60, .iconst 4, 1), (61, .iload_n 1, 1), (62, .imul, 1), (63, .iload_n 2, 1), (64, .iadd, 1), (65, .iload_n 3, 1), (66, .bastore, 1), (67, .iload 4, 2), (69, .iload_n 3, 1), (70, .if_icmp .eq 7, 3), (73, .iconst 1, 1), (74, .goto 4, 3), (77, .iconst 0, 1), (78, .ireturn, 1)]
def ex_m_X5_torn : ex_MD := (yX5_torn, cX5_torn, 5, (some .boolean), 5, none, 0, 1, 3, [], ex_p_X5_torn)
def ex_p_X5_letter : List (Nat × Instr × Nat) := [(0, .aload_n 0, 1), (1, .iconst 0, 1), (2, .putfield 86, 3), (5, .aload_n 0, 1), (6, .aload_n 0, 1), (7, .iload_n 1, 1), (8, .invokevirtual 138, 3), (11, .ifCond .ne 11, 3), (14, .aload_n 0, 1), (15, .iload_n 3, 1), (16, .invokevirtual 138, 3), (19, .ifCond .eq 7, 3), (22, .iconst 1, 1), (23, .goto 4, 3), (26, .iconst 0, 1), (27, .iconst 1, 1), (28, .invokevirtual 104, 3), (31, .ifCond .ne 64, 3), (34, .aload_n 0, 1), (35, .iload_n 1, 1), (36, .iload_n 3, 1), (37, .if_icmp .eq 24, 3), (40, .iload_n 2, 1), (41, .invokestatic 141, 3), (44, .ifCond .eq 17, 3), (47, .iload 4, 2), (49, .invokestatic 141, 3), (52, .ifCond .eq 9, 3), (55, .iload 4, 2), (57, .iload_n 2, 1), (58, .if_icmp .ge 7, 3), (61, .iconst 1, 1), (62, .goto 4, 3), (65, .iconst 0, 1), (66, .iconst 2, 1), (67, .invokevirtual 104, 3), (70, .ifCond .ne 25, 3), (73, .aload_n 0, 1), (74, .aload_n 0, 1), (75, .getfield 144, 3), (78, .bipush 30, 2), (80, .if_icmp .ne 7, 3), (83, .iconst 1, 1), (84, .goto 4, 3), (87, .iconst 0, 1), (88, .iconst 3, 1), (89, .invokevirtual 104, 3), (92, .ifCond .eq 5, 3), (95, .iconst 0, 1), (96, .ireturn, 1), (97, .aload_n 0, 1), (98, .getfield 47, 3), (101, .aload_n 0, 1), (102, .getfield 144, 3), (105, .iload_n 1, 1), (106, .iastore, 1), (107, .aload_n 0, 1), (108, .getfield 50, 3), (111, .aload_n 0, 1), (112, .getfield 144, 3), (115, .iload_n 2, 1), (116, .iastore, 1), (117, .aload_n 0, 1), (118, .getfield 53, 3), (121, .aload_n 0, 1), (122, .getfield 144, 3), (125, .iload_n 3, 1), (126, .iastore, 1), (127, .aload_n 0, 1), (128, .getfield 56, 3), (131, .aload_n 0, 1), (132, .getfield 144, 3), (135, .iload 4, 2), (137, .iastore, 1), (138, .aload_n 0, 1), (139, .dup, 1), (140, .getfield 144, 3), (143, .iconst 1, 1), (144, .iadd, 1), (145, .putfield 144, 3), (148, .aload_n 0, 1), (149, .getfield 144, 3), (152, .ireturn, 1)]
def ex_m_X5_letter : ex_MD := (yX5_letter, cX5_letter, 5, (some .int), 5, none, 0, 1, 4, [], ex_p_X5_letter)
def ex_p_X5_change : List (Nat × Instr × Nat) := [(0, .aload_n 0, 1), (1, .iconst 0, 1), (2, .putfield 86, 3), (5, .aload_n 0, 1), (6, .aload_n 0, 1), (7, .iload_n 1, 1), (8, .invokevirtual 138, 3), (11, .iconst 1, 1), (12, .invokevirtual 104, 3), (15, .ifCond .ne 45, 3), (18, .aload_n 0, 1), (19, .iload_n 2, 1), (20, .invokestatic 141, 3), (23, .ifCond .ne 7, 3), (26, .iconst 1, 1), (27, .goto 4, 3), (30, .iconst 0, 1), (31, .iconst 2, 1), (32, .invokevirtual 104, 3), (35, .ifCond .ne 25, 3), (38, .aload_n 0, 1), (39, .aload_n 0, 1), (40, .getfield 147, 3), (43, .bipush 80, 2), (45, .if_icmp .ne 7, 3), (48, .iconst 1, 1), (49, .goto 4, 3), (52, .iconst 0, 1), (53, .iconst 3, 1), (54, .invokevirtual 104, 3), (57, .ifCond .eq 5, 3), (60, .iconst 0, 1), (61, .ireturn, 1), (62, .aload_n 0, 1), (63, .getfield 59, 3), (66, .aload_n 0, 1), (67, .getfield 147, 3), (70, .iload_n 1, 1), (71, .iastore, 1), (72, .aload_n 0, 1), (73, .getfield 62, 3), (76, .aload_n 0, 1), (77, .getfield 147, 3), (80, .iload_n 2, 1), (81, .iastore, 1), (82, .aload_n 0, 1), (83, .dup, 1), (84, .getfield 147, 3), (87, .iconst 1, 1), (88, .iadd, 1), (89, .putfield 147, 3), (92, .aload_n 0, 1), (93, .getfield 147, 3), (96, .ireturn, 1)]
def ex_m_X5_change : ex_MD := (yX5_change, cX5_change, 3, (some .int), 5, none, 0, 1, 2, [], ex_p_X5_change)
def ex_p_X5_upTo : List (Nat × Instr × Nat) := [(0, .iconst (-1), 1), (1, .istore_n 3, 1), (2, .iconst 4, 1), (3, .iload_n 1, 1), (4, .imul, 1), (5, .istore 4, 2), (7, .iload 4, 2), (9, .iconst 4, 1), (10, .iload_n 1, 1), (11, .imul, 1), (12, .aload_n 0, 1), (13, .getfield 44, 3), (16, .iload_n 1, 1), (17, .iaload, 1), (18, .iadd, 1), (19, .if_icmp .ge 46, 3), (22, .aload_n 0, 1), (23, .getfield 41, 3), (26, .iload 4, 2), (28, .baload, 1), (29, .ifCond .ne 30, 3), (32, .aload_n 0, 1), (33, .getfield 35, 3), (36, .iload 4, 2), (38, .iaload, 1), (39, .iload_n 2, 1), (40, .if_icmp .gt 19, 3), (43, .iload_n 3, 1), (44, .aload_n 0, 1), (45, .getfield 38, 3), (48, .iload 4, 2), (50, .iaload, 1), (51, .iload_n 2, 1), (52, .invokestatic 150, 3), (55, .invokestatic 156, 3), (58, .istore_n 3, 1), (59, .iinc 4 1, 3), (62, .goto (-55), 3), (65, .iload_n 3, 1), (66, .ireturn, 1)]
def ex_m_X5_upTo : ex_MD := (yX5_upTo, cX5_upTo, 5, (some .int), 5, none, 0, 1, 2, [], ex_p_X5_upTo)
def ex_p_X5_chooses : List (Nat × Instr × Nat) := [(0, .iconst 1, 1), (1, .istore_n 1, 1), (2, .iconst 0, 1), (3, .istore_n 2, 1), (4, .iload_n 2, 1), (5, .aload_n 0, 1), (6, .getfield 134, 3), (9, .if_icmp .ge 41, 3), (12, .aload_n 0, 1), (13, .getfield 65, 3), (16, .iload_n 2, 1), (17, .aload_n 0, 1), (18, .iload_n 2, 1), (19, .ldc 137, 2), (21, .invokevirtual 159, 3), (24, .iastore, 1), (25, .iload_n 1, 1), (26, .ifCond .eq 16, 3), (29, .aload_n 0, 1), (30, .getfield 65, 3), (33, .iload_n 2, 1), (34, .iaload, 1), (35, .ifCond .lt 7, 3), (38, .iconst 1, 1), (39, .goto 4, 3), (42, .iconst 0, 1), (43, .istore_n 1, 1), (44, .iinc 2 1, 3), (47, .goto (-43), 3), (50, .iload_n 1, 1), (51, .istore_n 2, 1), (52, .iload_n 2, 1), (53, .ifCond .eq 114, 3), (56, .iconst 0, 1), (57, .istore_n 2, 1), (58, .iconst 0, 1), (59, .istore_n 3, 1), (60, .iload_n 3, 1), (61, .aload_n 0, 1), (62, .getfield 144, 3), (65, .if_icmp .ge 99, 3), (68, .aload_n 0, 1), (69, .getfield 56, 3), (72, .iload_n 3, 1), (73, .iaload, 1), (74, .aload_n 0, 1), (75, .getfield 65, 3), (78, .aload_n 0, 1), (79, .getfield 53, 3), (82, .iload_n 3, 1), (83, .iaload, 1), (84, .iaload, 1), (85, .if_icmp .gt 73, 3), (88, .aload_n 0, 1), (89, .getfield 50, 3), (92, .iload_n 3, 1), (93, .iaload, 1), (94, .aload_n 0, 1), (95, .getfield 65, 3), (98, .aload_n 0, 1), (99, .getfield 47, 3), (102, .iload_n 3, 1), (103, .iaload, 1), (104, .iaload, 1), (105, .if_icmp .gt 6, 3), (108, .goto 50, 3), (111, .aload_n 0, 1), (112, .getfield 65, 3), (115, .aload_n 0, 1), (116, .getfield 53, 3), (119, .iload_n 3, 1), (120, .iaload, 1), (121, .aload_n 0, 1), (122, .aload_n 0, 1), (123, .getfield 53, 3), (126, .iload_n 3, 1), (127, .iaload, 1), (128, .aload_n 0, 1), (129, .getfield 56, 3), (132, .iload_n 3, 1), (133, .iaload, 1), (134, .iconst 1, 1), (135, .isub, 1), (136, .invokevirtual 159, 3), (139, .iastore, 1), (140, .aload_n 0, 1), (141, .getfield 65, 3), (144, .aload_n 0, 1), (145, .getfield 53, 3), (148, .iload_n 3, 1), (149, .iaload, 1), (150, .iaload, 1), (151, .ifCond .ge 5, 3), (154, .iconst 0, 1), (155, .ireturn, 1), (156, .iconst 1, 1), (157, .istore_n 2, 1), (158, .iinc 3 1, 3), (161, .goto (-101), 3), (164, .goto (-112), 3), (167, .iload_n 1, 1), (168, .ireturn, 1)]
def ex_m_X5_chooses : ex_MD := (yX5_chooses, cX5_chooses, 4, (some .boolean), 5, none, 0, 1, 0, [], ex_p_X5_chooses)
def ex_p_X5_together : List (Nat × Instr × Nat) := [(0, .aload_n 0, 1), (1, .iconst 0, 1), (2, .putfield 86, 3), (5, .aload_n 0, 1), (6, .invokevirtual 162, 3), (9, .ireturn, 1)]
def ex_m_X5_together : ex_MD := (yX5_together, cX5_together, 1, (some .boolean), 5, none, 0, 1, 0, [], ex_p_X5_together)
def ex_p_X5_state : List (Nat × Instr × Nat) := [(0, .aload_n 0, 1), (1, .iconst 0, 1), (2, .putfield 86, 3), (5, .aload_n 0, 1), (6, .aload_n 0, 1), (7, .iload_n 1, 1), (8, .invokevirtual 138, 3), (11, .iconst 1, 1), (12, .invokevirtual 104, 3), (15, .ifCond .eq 5, 3), (18, .iconst 0, 1), (19, .ireturn, 1), (20, .aload_n 0, 1), (21, .invokevirtual 162, 3), (24, .ifCond .eq 12, 3), (27, .aload_n 0, 1), (28, .getfield 65, 3), (31, .iload_n 1, 1), (32, .iaload, 1), (33, .goto 4, 3), (36, .iconst (-1), 1), (37, .ireturn, 1)]
def ex_m_X5_state : ex_MD := (yX5_state, cX5_state, 2, (some .int), 5, none, 0, 1, 1, [], ex_p_X5_state)
def ex_p_X5_lost : List (Nat × Instr × Nat) := [(0, .aload_n 0, 1), (1, .iconst 0, 1), (2, .putfield 86, 3), (5, .aload_n 0, 1), (6, .aload_n 0, 1), (7, .iload_n 1, 1), (8, .invokevirtual 138, 3), (11, .iconst 1, 1), (12, .invokevirtual 104, 3), (15, .ifCond .eq 5, 3), (18, .iconst 0, 1), (19, .ireturn, 1), (20, .aload_n 0, 1), (21, .invokevirtual 162, 3), (24, .ifCond .ne 5, 3), (27, .iconst (-1), 1), (28, .ireturn, 1), (29, .iconst 0, 1), (30, .istore_n 2, 1), (31, .iconst 0, 1), (32, .istore_n 3, 1), (33, .iload_n 3, 1), (34, .aload_n 0, 1), (35, .getfield 147, 3), (38, .if_icmp .ge 42, 3), (41, .iload_n 2, 1), (42, .aload_n 0, 1), (43, .getfield 59, 3), (46, .iload_n 3, 1), (47, .iaload, 1), (48, .iload_n 1, 1), (49, .if_icmp .ne 22, 3), (52, .aload_n 0, 1), (53, .getfield 62, 3), (56, .iload_n 3, 1), (57, .iaload, 1), (58, .aload_n 0, 1), (59, .getfield 65, 3), (62, .iload_n 1, 1), (63, .iaload, 1), (64, .if_icmp .le 7, 3), (67, .iconst 1, 1), (68, .goto 4, 3), (71, .iconst 0, 1), (72, .iadd, 1), (73, .istore_n 2, 1), (74, .iinc 3 1, 3), (77, .goto (-44), 3), (80, .iload_n 2, 1), (81, .ireturn, 1)]
def ex_m_X5_lost : ex_MD := (yX5_lost, cX5_lost, 4, (some .int), 5, none, 0, 1, 1, [], ex_p_X5_lost)
def ex_p_X5_earliest : List (Nat × Instr × Nat) := [(0, .iconst 0, 1), (1, .istore_n 2, 1), (2, .iconst 0, 1), (3, .istore_n 3, 1), (4, .iload_n 3, 1), (5, .aload_n 0, 1), (6, .getfield 115, 3), (9, .if_icmp .ge 59, 3), (12, .aload_n 0, 1), (13, .getfield 22, 3), (16, .iload_n 3, 1), (17, .iaload, 1), (18, .iload_n 1, 1), (19, .if_icmp .ne 43, 3), (22, .aload_n 0, 1), (23, .iload_n 3, 1), (24, .aload_n 0, 1), (25, .getfield 166, 3), (28, .invokevirtual 122, 3), (31, .ifCond .eq 31, 3), (34, .iload_n 2, 1), (35, .aload_n 0, 1), (36, .getfield 71, 3), (39, .aload_n 0, 1), (40, .getfield 25, 3), (43, .iload_n 3, 1), (44, .iaload, 1), (45, .iaload, 1), (46, .aload_n 0, 1), (47, .getfield 9, 3), (50, .aload_n 0, 1), (51, .getfield 25, 3), (54, .iload_n 3, 1), (55, .iaload, 1), (56, .iaload, 1), (57, .iadd, 1), (58, .invokestatic 156, 3), (61, .istore_n 2, 1), (62, .iinc 3 1, 3), (65, .goto (-61), 3), (68, .aload_n 0, 1), (69, .iload_n 1, 1), (70, .iload_n 2, 1), (71, .invokevirtual 169, 3), (74, .ireturn, 1)]
def ex_m_X5_earliest : ex_MD := (yX5_earliest, cX5_earliest, 4, (some .int), 5, none, 0, 1, 1, [], ex_p_X5_earliest)
def ex_p_X5_firstFree : List (Nat × Instr × Nat) := [(0, .iload_n 2, 1), (1, .istore_n 3, 1), (2, .iload_n 2, 1), (3, .istore 4, 2), (5, .iload 4, 2), (7, .iload_n 3, 1), (8, .aload_n 0, 1), (9, .getfield 9, 3), (12, .iload_n 1, 1), (13, .iaload, 1), (14, .iadd, 1), (15, .if_icmp .ge 35, 3), (18, .aload_n 0, 1), (19, .getfield 74, 3), (22, .iload 4, 2), (24, .iaload, 1), (25, .aload_n 0, 1), (26, .getfield 13, 3), (29, .iload_n 1, 1), (30, .iaload, 1), (31, .iadd, 1), (32, .aload_n 0, 1), (33, .getfield 172, 3), (36, .if_icmp .le 8, 3), (39, .iload 4, 2), (41, .iconst 1, 1), (42, .iadd, 1), (43, .istore_n 3, 1), (44, .iinc 4 1, 3), (47, .goto (-42), 3), (50, .iload_n 3, 1), (51, .ireturn, 1)]
def ex_m_X5_firstFree : ex_MD := (yX5_firstFree, cX5_firstFree, 5, (some .int), 5, none, 0, 1, 2, [], ex_p_X5_firstFree)
def ex_p_X5_isReady : List (Nat × Instr × Nat) := [(0, .iconst 1, 1), (1, .istore_n 3, 1), (2, .iconst 0, 1), (3, .istore 4, 2), (5, .iload 4, 2), (7, .aload_n 0, 1), (8, .getfield 115, 3), (11, .if_icmp .ge 58, 3), (14, .iload_n 3, 1), (15, .ifCond .eq 46, 3), (18, .aload_n 0, 1), (19, .getfield 22, 3), (22, .iload 4, 2), (24, .iaload, 1), (25, .iload_n 1, 1), (26, .if_icmp .ne 31, 3), (29, .aload_n 0, 1), (30, .iload 4, 2), (32, .aload_n 0, 1), (33, .getfield 166, 3), (36, .invokevirtual 122, 3), (39, .ifCond .eq 18, 3), (42, .iload_n 2, 1), (43, .aload_n 0, 1), (44, .getfield 25, 3), (47, .iload 4, 2), (49, .iaload, 1), (50, .ishr, 1), (51, .iconst 1, 1), (52, .iand, 1), (53, .iconst 1, 1), (54, .if_icmp .ne 7, 3), (57, .iconst 1, 1), (58, .goto 4, 3), (61, .iconst 0, 1), (62, .istore_n 3, 1), (63, .iinc 4 1, 3), (66, .goto (-61), 3), (69, .iload_n 3, 1), (70, .ireturn, 1)]
def ex_m_X5_isReady : ex_MD := (yX5_isReady, cX5_isReady, 5, (some .boolean), 5, none, 0, 1, 2, [], ex_p_X5_isReady)
def ex_p_X5_isBetter : List (Nat × Instr × Nat) := [(0, .aload_n 0, 1), (1, .getfield 175, 3), (4, .ifCond .lt 11, 3), (7, .iload_n 1, 1), (8, .aload_n 0, 1), (9, .getfield 175, 3), (12, .if_icmp .eq 24, 3), (15, .aload_n 0, 1), (16, .getfield 175, 3), (19, .ifCond .lt 11, 3), (22, .iload_n 1, 1), (23, .aload_n 0, 1), (24, .getfield 175, 3), (27, .if_icmp .ge 7, 3), (30, .iconst 1, 1), (31, .goto 4, 3), (34, .iconst 0, 1), (35, .ireturn, 1), (36, .iconst 0, 1), (37, .istore_n 2, 1), (38, .iload_n 2, 1), (39, .aload_n 0, 1), (40, .getfield 90, 3), (43, .if_icmp .ge 45, 3), (46, .aload_n 0, 1), (47, .getfield 71, 3), (50, .iload_n 2, 1), (51, .iaload, 1), (52, .aload_n 0, 1), (53, .getfield 68, 3), (56, .iload_n 2, 1), (57, .iaload, 1), (58, .if_icmp .eq 24, 3), (61, .aload_n 0, 1), (62, .getfield 71, 3), (65, .iload_n 2, 1), (66, .iaload, 1), (67, .aload_n 0, 1), (68, .getfield 68, 3), (71, .iload_n 2, 1), (72, .iaload, 1), (73, .if_icmp .ge 7, 3), (76, .iconst 1, 1), (77, .goto 4, 3), (80, .iconst 0, 1), (81, .ireturn, 1), (82, .iinc 2 1, 3), (85, .goto (-47), 3), (88, .iconst 0, 1), (89, .ireturn, 1)]
def ex_m_X5_isBetter : ex_MD := (yX5_isBetter, cX5_isBetter, 3, (some .boolean), 5, none, 0, 1, 1, [], ex_p_X5_isBetter)
def ex_p_X5_seeks : List (Nat × Instr × Nat) := [(0, .aload_n 0, 1), (1, .getfield 175, 3), (4, .ifCond .lt 12, 3), (7, .iload_n 2, 1), (8, .aload_n 0, 1), (9, .getfield 175, 3), (12, .if_icmp .le 4, 3), (15, .return_, 1), (16, .iload_n 1, 1), (17, .iconst 1, 1), (18, .aload_n 0, 1), (19, .getfield 90, 3), (22, .ishl, 1), (23, .iconst 1, 1), (24, .isub, 1), (25, .if_icmp .ne 46, 3), (28, .aload_n 0, 1), (29, .iload_n 2, 1), (30, .invokevirtual 178, 3), (33, .ifCond .ne 4, 3), (36, .return_, 1), (37, .aload_n 0, 1), (38, .iload_n 2, 1), (39, .putfield 175, 3), (42, .iconst 0, 1), (43, .istore_n 3, 1), (44, .iload_n 3, 1), (45, .aload_n 0, 1), (46, .getfield 90, 3), (49, .if_icmp .ge 21, 3), (52, .aload_n 0, 1), (53, .getfield 68, 3), (56, .iload_n 3, 1), (57, .aload_n 0, 1), (58, .getfield 71, 3), (61, .iload_n 3, 1), (62, .iaload, 1), (63, .iastore, 1), (64, .iinc 3 1, 3), (67, .goto (-23), 3), (70, .return_, 1), (71, .iconst 0, 1), (72, .istore_n 3, 1), (73, .iload_n 3, 1), (74, .aload_n 0, 1), (75, .getfield 90, 3), (78, .if_icmp .ge 152, 3), (81, .iload_n 1, 1), (82, .iload_n 3, 1), (83, .ishr, 1), (84, .iconst 1, 1), (85, .iand, 1), (86, .iconst 1, 1), (87, .if_icmp .eq 137, 3), (90, .aload_n 0, 1), (91, .iload_n 3, 1), (92, .iload_n 1, 1), (93, .invokevirtual 181, 3), (96, .ifCond .ne 6, 3), (99, .goto 125, 3), (102, .aload_n 0, 1), (103, .iload_n 3, 1), (104, .invokevirtual 184, 3), (107, .istore 4, 2), (109, .aload_n 0, 1), (110, .getfield 71, 3), (113, .iload_n 3, 1), (114, .iload 4, 2), (116, .iastore, 1), (117, .iload 4, 2), (119, .istore 5, 2), (121, .iload 5, 2), (123, .iload 4, 2), (125, .aload_n 0, 1), (126, .getfield 9, 3), (129, .iload_n 3, 1), (130, .iaload, 1), (131, .iadd, 1), (132, .if_icmp .ge 25, 3), (135, .aload_n 0, 1), (136, .getfield 74, 3), (139, .iload 5, 2), (141, .dup2, 1), (142, .iaload, 1), (143, .aload_n 0, 1), (144, .getfield 13, 3), (147, .iload_n 3, 1), (148, .iaload, 1), (149, .iadd, 1), (150, .iastore, 1), (151, .iinc 5 1, 3), (154, .goto (-33), 3), (157, .aload_n 0, 1), (158, .iload_n 1, 1), (159, .iconst 1, 1), (160, .iload_n 3, 1), (161, .ishl, 1), (162, .ior, 1), (163, .iload_n 2, 1), (164, .aload_n 0, 1), (165, .getfield 16, 3), (168, .iload_n 3, 1), (169, .iaload, 1), (170, .iload 4, 2), (172, .aload_n 0, 1), (173, .getfield 9, 3), (176, .iload_n 3, 1), (177, .iaload, 1), (178, .iadd, 1), (179, .imul, 1), (180, .iadd, 1), (181, .invokevirtual 187, 3), (184, .iload 4, 2), (186, .istore 5, 2), (188, .iload 5, 2), (190, .iload 4, 2), (192, .aload_n 0, 1), (193, .getfield 9, 3), (196, .iload_n 3, 1), (197, .iaload, 1), (198, .iadd, 1), (199, .if_icmp .ge 25, 3), (202, .aload_n 0, 1), (203, .getfield 74, 3), (206, .iload 5, 2), (208, .dup2, 1), (209, .iaload, 1), (210, .aload_n 0, 1), (211, .getfield 13, 3), (214, .iload_n 3, 1), (215, .iaload, 1), (216, .isub, 1), (217, .iastore, 1), (218, .iinc 5 1, 3), (221, .goto (-33), 3), (224, .iinc 3 1, 3), (227, .goto (-154), 3), (230, .return_, 1)]
def ex_m_X5_seeks : ex_MD := (yX5_seeks, cX5_seeks, 6, none, 5, none, 0, 1, 2, [], ex_p_X5_seeks)
def ex_p_X5_plan : List (Nat × Instr × Nat) := [(0, .aload_n 0, 1), (1, .iconst 0, 1), (2, .putfield 86, 3), (5, .aload_n 0, 1), (6, .iload_n 1, 1), (7, .iconst 1, 1), (8, .bipush 8, 2), (10, .invokestatic 93, 3), (13, .ifCond .ne 7, 3), (16, .iconst 1, 1), (17, .goto 4, 3), (20, .iconst 0, 1), (21, .iconst 1, 1), (22, .invokevirtual 104, 3), (25, .ifCond .eq 5, 3), (28, .iconst 0, 1), (29, .ireturn, 1), (30, .aload_n 0, 1), (31, .iconst 0, 1), (32, .putfield 101, 3), (35, .aload_n 0, 1), (36, .iload_n 1, 1), (37, .putfield 172, 3), (40, .aload_n 0, 1), (41, .iload_n 2, 1), (42, .putfield 166, 3), (45, .aload_n 0, 1), (46, .iload_n 2, 1), (47, .invokevirtual 130, 3), (50, .ifCond .eq 5, 3), (53, .iconst (-1), 1), (54, .ireturn, 1), (55, .iconst 0, 1), (56, .istore_n 3, 1), (57, .iconst 0, 1), (58, .istore 4, 2), (60, .iload 4, 2), (62, .aload_n 0, 1), (63, .getfield 90, 3), (66, .if_icmp .ge 55, 3), (69, .aload_n 0, 1), (70, .getfield 13, 3), (73, .iload 4, 2), (75, .iaload, 1), (76, .iload_n 1, 1), (77, .if_icmp .le 5, 3), (80, .iconst (-1), 1), (81, .ireturn, 1), (82, .iload_n 3, 1), (83, .iload_n 2, 1), (84, .iload 4, 2), (86, .ishr, 1), (87, .iconst 1, 1), (88, .iand, 1), (89, .iconst 1, 1), (90, .if_icmp .ne 22, 3), (93, .aload_n 0, 1), (94, .iload 4, 2), (96, .invokevirtual 118, 3), (99, .ifCond .eq 13, 3), (102, .aload_n 0, 1), (103, .getfield 19, 3), (106, .iload 4, 2), (108, .iaload, 1), (109, .goto 4, 3), (112, .iconst 0, 1), (113, .iadd, 1), (114, .istore_n 3, 1), (115, .iinc 4 1, 3), (118, .goto (-58), 3), (121, .iconst 0, 1), (122, .istore 4, 2), (124, .iload 4, 2), (126, .sipush 200, 3), (129, .if_icmp .ge 17, 3), (132, .aload_n 0, 1), (133, .getfield 74, 3), (136, .iload 4, 2), (138, .iconst 0, 1), (139, .iastore, 1), (140, .iinc 4 1, 3), (143, .goto (-19), 3), (146, .aload_n 0, 1), (147, .iconst (-1), 1), (148, .putfield 175, 3), (151, .aload_n 0, 1), (152, .iconst 0, 1), (153, .iload_n 3, 1), (154, .invokevirtual 187, 3), (157, .aload_n 0, 1), (158, .iconst 1, 1), (159, .putfield 101, 3), (162, .aload_n 0, 1), (163, .getfield 175, 3), (166, .ireturn, 1)]
def ex_m_X5_plan : ex_MD := (yX5_plan, cX5_plan, 5, (some .int), 5, none, 0, 1, 2, [], ex_p_X5_plan)
def ex_p_X5_begins : List (Nat × Instr × Nat) := [(0, .aload_n 0, 1), (1, .iconst 0, 1), (2, .putfield 86, 3), (5, .aload_n 0, 1), (6, .aload_n 0, 1), (7, .iload_n 1, 1), (8, .invokevirtual 111, 3), (11, .iconst 1, 1), (12, .invokevirtual 104, 3), (15, .ifCond .eq 5, 3), (18, .iconst 0, 1), (19, .ireturn, 1), (20, .aload_n 0, 1), (21, .getfield 101, 3), (24, .ifCond .eq 12, 3), (27, .aload_n 0, 1), (28, .getfield 68, 3), (31, .iload_n 1, 1), (32, .iaload, 1), (33, .goto 4, 3), (36, .iconst (-1), 1), (37, .ireturn, 1)]
def ex_m_X5_begins : ex_MD := (yX5_begins, cX5_begins, 2, (some .int), 5, none, 0, 1, 1, [], ex_p_X5_begins)
def ex_p_X5_night : List (Nat × Instr × Nat) := [(0, .aload_n 0, 1), (1, .iconst 0, 1), (2, .putfield 86, 3), (5, .aload_n 0, 1), (6, .iload_n 1, 1), (7, .iconst 1, 1), (8, .bipush 8, 2), (10, .invokestatic 93, 3), (13, .ifCond .ne 7, 3), (16, .iconst 1, 1), (17, .goto 4, 3), (20, .iconst 0, 1), (21, .iconst 1, 1), (22, .invokevirtual 104, 3), (25, .ifCond .eq 4, 3), (28, .return_, 1), (29, .aload_n 0, 1), (30, .iconst 1, 1), (31, .putfield 97, 3), (34, .aload_n 0, 1), (35, .iload_n 1, 1), (36, .putfield 191, 3), (39, .aload_n 0, 1), (40, .iconst 0, 1), (41, .putfield 194, 3), (44, .aload_n 0, 1), (45, .iconst 0, 1), (46, .putfield 197, 3), (49, .iconst 0, 1), (50, .istore_n 2, 1), (51, .iload_n 2, 1), (52, .bipush 8, 2), (54, .if_icmp .ge 30, 3), (57, .aload_n 0, 1), (58, .getfield 77, 3), (61, .iload_n 2, 1), (62, .iconst 0, 1), (63, .iastore, 1), (64, .aload_n 0, 1), (65, .getfield 80, 3), (68, .iload_n 2, 1), (69, .iconst 0, 1), (70, .iastore, 1), (71, .aload_n 0, 1), (72, .getfield 83, 3), (75, .iload_n 2, 1), (76, .iconst 0, 1), (77, .bastore, 1), (78, .iinc 2 1, 3), (81, .goto (-30), 3), (84, .return_, 1)]
def ex_m_X5_night : ex_MD := (yX5_night, cX5_night, 3, none, 5, none, 0, 1, 1, [], ex_p_X5_night)
def ex_p_X5_free : List (Nat × Instr × Nat) := [(0, .aload_n 0, 1), (1, .getfield 191, 3), (4, .istore_n 1, 1), (5, .iconst 0, 1), (6, .istore_n 2, 1), (7, .iload_n 2, 1), (8, .aload_n 0, 1), (9, .getfield 90, 3), (12, .if_icmp .ge 32, 3), (15, .iload_n 1, 1), (16, .aload_n 0, 1), (17, .getfield 77, 3), (20, .iload_n 2, 1), (21, .iaload, 1), (22, .iconst 1, 1), (23, .if_icmp .ne 12, 3), (26, .aload_n 0, 1), (27, .getfield 13, 3), (30, .iload_n 2, 1), (31, .iaload, 1), (32, .goto 4, 3), (35, .iconst 0, 1), (36, .isub, 1), (37, .istore_n 1, 1), (38, .iinc 2 1, 3), (41, .goto (-34), 3), (44, .iload_n 1, 1), (45, .ireturn, 1)]
def ex_m_X5_free : ex_MD := (yX5_free, cX5_free, 3, (some .int), 5, none, 0, 1, 0, [], ex_p_X5_free)
def ex_p_X5_stands : List (Nat × Instr × Nat) := [(0, .iconst 1, 1), (1, .istore 4, 2), (3, .iconst 0, 1), (4, .istore 5, 2), (6, .iload 5, 2), (8, .aload_n 0, 1), (9, .getfield 115, 3), (12, .if_icmp .ge 62, 3), (15, .iload 4, 2), (17, .ifCond .eq 48, 3), (20, .aload_n 0, 1), (21, .getfield 22, 3), (24, .iload 5, 2), (26, .iaload, 1), (27, .iload_n 1, 1), (28, .if_icmp .ne 33, 3), (31, .iload_n 2, 1), (32, .ifCond .eq 13, 3), (35, .aload_n 0, 1), (36, .getfield 28, 3), (39, .iload 5, 2), (41, .baload, 1), (42, .ifCond .ne 19, 3), (45, .aload_n 0, 1), (46, .getfield 77, 3), (49, .aload_n 0, 1), (50, .getfield 25, 3), (53, .iload 5, 2), (55, .iaload, 1), (56, .iaload, 1), (57, .iload_n 3, 1), (58, .if_icmp .lt 7, 3), (61, .iconst 1, 1), (62, .goto 4, 3), (65, .iconst 0, 1), (66, .istore 4, 2), (68, .iinc 5 1, 3), (71, .goto (-65), 3), (74, .iload 4, 2), (76, .ireturn, 1)]
def ex_m_X5_stands : ex_MD := (yX5_stands, cX5_stands, 6, (some .boolean), 5, none, 0, 1, 3, [], ex_p_X5_stands)
def ex_p_X5_begin : List (Nat × Instr × Nat) := [(0, .aload_n 0, 1), (1, .iconst 0, 1), (2, .putfield 86, 3), (5, .aload_n 0, 1), (6, .aload_n 0, 1), (7, .iload_n 1, 1), (8, .invokevirtual 111, 3), (11, .iconst 1, 1), (12, .invokevirtual 104, 3), (15, .ifCond .ne 23, 3), (18, .aload_n 0, 1), (19, .aload_n 0, 1), (20, .getfield 97, 3), (23, .ifCond .ne 7, 3), (26, .iconst 1, 1), (27, .goto 4, 3), (30, .iconst 0, 1), (31, .iconst 2, 1), (32, .invokevirtual 104, 3), (35, .ifCond .eq 5, 3), (38, .iconst 0, 1), (39, .ireturn, 1), (40, .aload_n 0, 1), (41, .getfield 77, 3), (44, .iload_n 1, 1), (45, .iaload, 1), (46, .ifCond .ne 38, 3), (49, .iload_n 2, 1), (50, .ifCond .eq 11, 3), (53, .aload_n 0, 1), (54, .iload_n 1, 1), (55, .invokevirtual 118, 3), (58, .ifCond .eq 26, 3), (61, .aload_n 0, 1), (62, .getfield 13, 3), (65, .iload_n 1, 1), (66, .iaload, 1), (67, .aload_n 0, 1), (68, .invokevirtual 200, 3), (71, .if_icmp .gt 13, 3), (74, .aload_n 0, 1), (75, .iload_n 1, 1), (76, .iload_n 2, 1), (77, .iconst 2, 1), (78, .invokevirtual 204, 3), (81, .ifCond .ne 5, 3), (84, .iconst 0, 1), (85, .ireturn, 1), (86, .aload_n 0, 1), (87, .getfield 77, 3), (90, .iload_n 1, 1), (91, .iconst 1, 1), (92, .iastore, 1), (93, .aload_n 0, 1), (94, .getfield 80, 3), (97, .iload_n 1, 1), (98, .aload_n 0, 1), (99, .getfield 9, 3), (102, .iload_n 1, 1), (103, .iaload, 1), (104, .iastore, 1), (105, .aload_n 0, 1), (106, .getfield 83, 3), (109, .iload_n 1, 1), (110, .iload_n 2, 1), (111, .bastore, 1), (112, .aload_n 0, 1), (113, .dup, 1), (114, .getfield 197, 3), (117, .iload_n 2, 1), (118, .ifCond .eq 12, 3), (121, .aload_n 0, 1), (122, .getfield 19, 3), (125, .iload_n 1, 1), (126, .iaload, 1), (127, .goto 4, 3), (130, .iconst 0, 1), (131, .iadd, 1), (132, .putfield 197, 3), (135, .iconst 1, 1), (136, .ireturn, 1)]
def ex_m_X5_begin : ex_MD := (yX5_begin, cX5_begin, 3, (some .boolean), 5, none, 0, 1, 2, [], ex_p_X5_begin)
def ex_p_X5_tick : List (Nat × Instr × Nat) := [(0, .aload_n 0, 1), (1, .iconst 0, 1), (2, .putfield 86, 3), (5, .aload_n 0, 1), (6, .aload_n 0, 1), (7, .getfield 97, 3), (10, .ifCond .ne 7, 3), (13, .iconst 1, 1), (14, .goto 4, 3), (17, .iconst 0, 1), (18, .iconst 1, 1), (19, .invokevirtual 104, 3), (22, .ifCond .ne 26, 3), (25, .aload_n 0, 1), (26, .iload_n 1, 1), (27, .iconst 0, 1), (28, .bipush 100, 2), (30, .invokestatic 93, 3), (33, .ifCond .ne 7, 3), (36, .iconst 1, 1), (37, .goto 4, 3), (40, .iconst 0, 1), (41, .iconst 2, 1), (42, .invokevirtual 104, 3), (45, .ifCond .eq 5, 3), (48, .iconst 0, 1), (49, .ireturn, 1), (50, .iconst 0, 1), (51, .istore_n 2, 1), (52, .iload_n 2, 1), (53, .iload_n 1, 1), (54, .if_icmp .ge 119, 3), (57, .iconst 0, 1), (58, .istore_n 3, 1), (59, .iload_n 3, 1), (60, .aload_n 0, 1), (61, .getfield 90, 3), (64, .if_icmp .ge 38, 3), (67, .aload_n 0, 1), (68, .dup, 1), (69, .getfield 197, 3), (72, .aload_n 0, 1), (73, .getfield 77, 3), (76, .iload_n 3, 1), (77, .iaload, 1), (78, .iconst 2, 1), (79, .if_icmp .ne 7, 3), (82, .iconst 0, 1), (83, .goto 9, 3), (86, .aload_n 0, 1), (87, .getfield 16, 3), (90, .iload_n 3, 1), (91, .iaload, 1), (92, .iadd, 1), (93, .putfield 197, 3), (96, .iinc 3 1, 3), (99, .goto (-40), 3), (102, .iconst 0, 1), (103, .istore_n 3, 1), (104, .iload_n 3, 1), (105, .aload_n 0, 1), (106, .getfield 90, 3), (109, .if_icmp .ge 48, 3), (112, .aload_n 0, 1), (113, .getfield 77, 3), (116, .iload_n 3, 1), (117, .iaload, 1), (118, .iconst 1, 1), (119, .if_icmp .eq 6, 3), (122, .goto 29, 3), (125, .aload_n 0, 1), (126, .getfield 80, 3), (129, .iload_n 3, 1), (130, .dup2, 1), (131, .iaload, 1), (132, .iconst 1, 1), (133, .isub, 1), (134, .iastore, 1), (135, .aload_n 0, 1), (136, .getfield 80, 3), (139, .iload_n 3, 1), (140, .iaload, 1), (141, .ifCond .ne 10, 3), (144, .aload_n 0, 1), (145, .getfield 77, 3), (148, .iload_n 3, 1), (149, .iconst 2, 1), (150, .iastore, 1), (151, .iinc 3 1, 3), (154, .goto (-50), 3), (157, .aload_n 0, 1), (158, .dup, 1), (159, .getfield 194, 3), (162, .iconst 1, 1), (163, .iadd, 1), (164, .putfield 194, 3), (167, .iinc 2 1, 3), (170, .goto (-118), 3), (173, .aload_n 0, 1), (174, .getfield 194, 3), (177, .ireturn, 1)]
def ex_m_X5_tick : ex_MD := (yX5_tick, cX5_tick, 4, (some .int), 5, none, 0, 1, 1, [], ex_p_X5_tick)
def ex_p_X5_fail : List (Nat × Instr × Nat) := [(0, .aload_n 0, 1), (1, .iconst 0, 1), (2, .putfield 86, 3), (5, .aload_n 0, 1), (6, .aload_n 0, 1), (7, .iload_n 1, 1), (8, .invokevirtual 111, 3), (11, .iconst 1, 1), (12, .invokevirtual 104, 3), (15, .ifCond .ne 33, 3), (18, .aload_n 0, 1), (19, .aload_n 0, 1), (20, .getfield 97, 3), (23, .ifCond .ne 7, 3), (26, .iconst 1, 1), (27, .goto 4, 3), (30, .iconst 0, 1), (31, .iconst 2, 1), (32, .invokevirtual 104, 3), (35, .ifCond .ne 13, 3), (38, .aload_n 0, 1), (39, .getfield 77, 3), (42, .iload_n 1, 1), (43, .iaload, 1), (44, .iconst 1, 1), (45, .if_icmp .eq 5, 3), (48, .iconst 0, 1), (49, .ireturn, 1), (50, .aload_n 0, 1), (51, .getfield 80, 3), (54, .iload_n 1, 1), (55, .aload_n 0, 1), (56, .getfield 9, 3), (59, .iload_n 1, 1), (60, .iaload, 1), (61, .iastore, 1), (62, .iconst 1, 1), (63, .ireturn, 1)]
def ex_m_X5_fail : ex_MD := (yX5_fail, cX5_fail, 2, (some .boolean), 5, none, 0, 1, 1, [], ex_p_X5_fail)
def ex_p_X5_falls : List (Nat × Instr × Nat) := [(0, .aload_n 0, 1), (1, .getfield 77, 3), (4, .iload_n 1, 1), (5, .iconst 0, 1), (6, .iastore, 1), (7, .aload_n 0, 1), (8, .getfield 80, 3), (11, .iload_n 1, 1), (12, .iconst 0, 1), (13, .iastore, 1), (14, .aload_n 0, 1), (15, .getfield 83, 3), (18, .iload_n 1, 1), (19, .iconst 0, 1), (20, .bastore, 1), (21, .return_, 1)]
def ex_m_X5_falls : ex_MD := (yX5_falls, cX5_falls, 2, none, 5, none, 0, 1, 1, [], ex_p_X5_falls)
def ex_p_X5_blow : List (Nat × Instr × Nat) := [(0, .aload_n 0, 1), (1, .iconst 0, 1), (2, .putfield 86, 3), (5, .aload_n 0, 1), (6, .aload_n 0, 1), (7, .iload_n 1, 1), (8, .invokevirtual 111, 3), (11, .iconst 1, 1), (12, .invokevirtual 104, 3), (15, .ifCond .ne 32, 3), (18, .aload_n 0, 1), (19, .aload_n 0, 1), (20, .getfield 97, 3), (23, .ifCond .ne 7, 3), (26, .iconst 1, 1), (27, .goto 4, 3), (30, .iconst 0, 1), (31, .iconst 2, 1), (32, .invokevirtual 104, 3), (35, .ifCond .ne 12, 3), (38, .aload_n 0, 1), (39, .getfield 77, 3), (42, .iload_n 1, 1), (43, .iaload, 1), (44, .ifCond .ne 5, 3), (47, .iconst 0, 1), (48, .ireturn, 1), (49, .aload_n 0, 1), (50, .iload_n 1, 1), (51, .invokevirtual 208, 3), (54, .iconst 1, 1), (55, .iload_n 1, 1), (56, .ishl, 1), (57, .istore_n 2, 1), (58, .iconst 0, 1), (59, .istore_n 3, 1), (60, .iload_n 3, 1), (61, .aload_n 0, 1), (62, .getfield 90, 3), (65, .if_icmp .ge 70, 3), (68, .iconst 0, 1), (69, .istore 4, 2), (71, .iload 4, 2), (73, .aload_n 0, 1), (74, .getfield 90, 3), (77, .if_icmp .ge 52, 3), (80, .aload_n 0, 1), (81, .getfield 77, 3), (84, .iload 4, 2), (86, .iaload, 1), (87, .ifCond .eq 36, 3), (90, .aload_n 0, 1), (91, .iload 4, 2), (93, .aload_n 0, 1), (94, .getfield 83, 3), (97, .iload 4, 2), (99, .baload, 1), (100, .iconst 1, 1), (101, .invokevirtual 204, 3), (104, .ifCond .eq 6, 3), (107, .goto 16, 3), (110, .aload_n 0, 1), (111, .iload 4, 2), (113, .invokevirtual 208, 3), (116, .iload_n 2, 1), (117, .iconst 1, 1), (118, .iload 4, 2), (120, .ishl, 1), (121, .ior, 1), (122, .istore_n 2, 1), (123, .iinc 4 1, 3), (126, .goto (-55), 3), (129, .iinc 3 1, 3), (132, .goto (-72), 3), (135, .iload_n 2, 1), (136, .ireturn, 1)]
def ex_m_X5_blow : ex_MD := (yX5_blow, cX5_blow, 5, (some .int), 5, none, 0, 1, 1, [], ex_p_X5_blow)
def ex_p_X5_look : List (Nat × Instr × Nat) := [(0, .aload_n 0, 1), (1, .iconst 0, 1), (2, .putfield 86, 3), (5, .aload_n 0, 1), (6, .aload_n 0, 1), (7, .iload_n 1, 1), (8, .invokevirtual 111, 3), (11, .iconst 1, 1), (12, .invokevirtual 104, 3), (15, .ifCond .ne 23, 3), (18, .aload_n 0, 1), (19, .aload_n 0, 1), (20, .getfield 97, 3), (23, .ifCond .ne 7, 3), (26, .iconst 1, 1), (27, .goto 4, 3), (30, .iconst 0, 1), (31, .iconst 2, 1), (32, .invokevirtual 104, 3), (35, .ifCond .eq 5, 3), (38, .iconst 0, 1), (39, .ireturn, 1), (40, .iload_n 2, 1), (41, .tableswitch 70 0 2 #[27, 34, 55], 27), (68, .aload_n 0, 1), (69, .getfield 77, 3), (72, .iload_n 1, 1), (73, .iaload, 1), (74, .ireturn, 1), (75, .aload_n 0, 1), (76, .getfield 77, 3), (79, .iload_n 1, 1), (80, .iaload, 1), (81, .iconst 1, 1), (82, .if_icmp .ne 12, 3), (85, .aload_n 0, 1), (86, .getfield 80, 3), (89, .iload_n 1, 1), (90, .iaload, 1), (91, .goto 4, 3), (94, .iconst 0, 1), (95, .ireturn, 1), (96, .aload_n 0, 1), (97, .getfield 83, 3), (100, .iload_n 1, 1), (101, .baload, 1), (102, .ifCond .eq 7, 3), (105, .iconst 1, 1), (106, .goto 4, 3), (109, .iconst 0, 1), (110, .ireturn, 1), (111, .aload_n 0, 1), (112, .iconst 3, 1), (113, .putfield 86, 3), (116, .iconst 0, 1), (117, .ireturn, 1)]
def ex_m_X5_look : ex_MD := (yX5_look, cX5_look, 3, (some .int), 5, none, 0, 1, 2, [], ex_p_X5_look)
def ex_p_X5_now : List (Nat × Instr × Nat) := [(0, .aload_n 0, 1), (1, .iconst 0, 1), (2, .putfield 86, 3), (5, .aload_n 0, 1), (6, .aload_n 0, 1), (7, .getfield 97, 3), (10, .ifCond .ne 7, 3), (13, .iconst 1, 1), (14, .goto 4, 3), (17, .iconst 0, 1), (18, .iconst 1, 1), (19, .invokevirtual 104, 3), (22, .ifCond .eq 5, 3), (25, .iconst 0, 1), (26, .ireturn, 1), (27, .iload_n 1, 1), (28, .tableswitch 87 0 3 #[32, 37, 42, 47], 32), (60, .aload_n 0, 1), (61, .getfield 194, 3), (64, .ireturn, 1), (65, .aload_n 0, 1), (66, .invokevirtual 200, 3), (69, .ireturn, 1), (70, .aload_n 0, 1), (71, .getfield 197, 3), (74, .ireturn, 1), (75, .iconst 0, 1), (76, .istore_n 2, 1), (77, .iconst 0, 1), (78, .istore_n 3, 1), (79, .iload_n 3, 1), (80, .aload_n 0, 1), (81, .getfield 90, 3), (84, .if_icmp .ge 29, 3), (87, .iload_n 2, 1), (88, .aload_n 0, 1), (89, .getfield 77, 3), (92, .iload_n 3, 1), (93, .iaload, 1), (94, .iconst 2, 1), (95, .if_icmp .ne 9, 3), (98, .iconst 1, 1), (99, .iload_n 3, 1), (100, .ishl, 1), (101, .goto 4, 3), (104, .iconst 0, 1), (105, .ior, 1), (106, .istore_n 2, 1), (107, .iinc 3 1, 3), (110, .goto (-31), 3), (113, .iload_n 2, 1), (114, .ireturn, 1), (115, .aload_n 0, 1), (116, .iconst 2, 1), (117, .putfield 86, 3), (120, .iconst 0, 1), (121, .ireturn, 1)]
def ex_m_X5_now : ex_MD := (yX5_now, cX5_now, 4, (some .int), 5, none, 0, 1, 1, [], ex_p_X5_now)
def ex_p_X5_count : List (Nat × Instr × Nat) := [(0, .aload_n 0, 1), (1, .iconst 0, 1), (2, .putfield 86, 3), (5, .iload_n 1, 1), (6, .tableswitch 93 0 6 #[42, 47, 52, 57, 62, 67, 80], 42), (48, .aload_n 0, 1), (49, .getfield 90, 3), (52, .ireturn, 1), (53, .aload_n 0, 1), (54, .getfield 115, 3), (57, .ireturn, 1), (58, .aload_n 0, 1), (59, .getfield 134, 3), (62, .ireturn, 1), (63, .aload_n 0, 1), (64, .getfield 144, 3), (67, .ireturn, 1), (68, .aload_n 0, 1), (69, .getfield 147, 3), (72, .ireturn, 1), (73, .aload_n 0, 1), (74, .getfield 101, 3), (77, .ifCond .eq 7, 3), (80, .iconst 1, 1), (81, .goto 4, 3), (84, .iconst 0, 1), (85, .ireturn, 1), (86, .aload_n 0, 1), (87, .getfield 97, 3), (90, .ifCond .eq 7, 3), (93, .iconst 1, 1), (94, .goto 4, 3), (97, .iconst 0, 1), (98, .ireturn, 1), (99, .iconst (-1), 1), (100, .ireturn, 1)]
def ex_m_X5_count : ex_MD := (yX5_count, cX5_count, 2, (some .int), 5, none, 0, 1, 1, [], ex_p_X5_count)
def ex_p_L_work : List (Nat × Instr × Nat) := [(0, .aload 5, 2), (2, .iconst 0, 1), (3, .aload_n 0, 1), (4, .iload_n 1, 1), (5, .iload_n 2, 1), (6, .iload_n 3, 1), (7, .iload 4, 2), (9, .invokevirtual 7, 3), (12, .i2l, 1), (13, .lastore, 1), (14, .goto 11, 3), (17, .astore 6, 2), (19, .iconst 1, 1), (20, .ireturn, 1), (21, .astore 6, 2), (23, .iconst 2, 1), (24, .ireturn, 1), (25, .iconst 0, 1), (26, .ireturn, 1)]
def ex_m_L_work : ex_MD := (yL_work, cL_work, 7, (some .int), 6, (some [(0, 14, 17, 13), (0, 14, 21, 15)]), 1, 0, 6, [], ex_p_L_work)
def ex_p_L_need : List (Nat × Instr × Nat) := [(0, .aload 4, 2), (2, .iconst 0, 1), (3, .aload_n 0, 1), (4, .iload_n 1, 1), (5, .iload_n 2, 1), (6, .iload_n 3, 1), (7, .invokevirtual 17, 3), (10, .i2l, 1), (11, .lastore, 1), (12, .goto 15, 3), (15, .astore 5, 2), (17, .iconst 1, 1), (18, .ireturn, 1), (19, .astore 5, 2), (21, .iconst 2, 1), (22, .ireturn, 1), (23, .astore 5, 2), (25, .iconst 3, 1), (26, .ireturn, 1), (27, .iconst 0, 1), (28, .ireturn, 1)]
def ex_m_L_need : ex_MD := (yL_need, cL_need, 6, (some .int), 6, (some [(0, 12, 15, 21), (0, 12, 19, 13), (0, 12, 23, 15)]), 3, 0, 5, [], ex_p_L_need)
def ex_p_L_hangs : List (Nat × Instr × Nat) := [(0, .aload_n 2, 1), (1, .iconst 0, 1), (2, .aload_n 0, 1), (3, .iload_n 1, 1), (4, .invokevirtual 23, 3), (7, .i2l, 1), (8, .lastore, 1), (9, .goto 6, 3), (12, .astore_n 3, 1), (13, .iconst 1, 1), (14, .ireturn, 1), (15, .iconst 0, 1), (16, .ireturn, 1)]
def ex_m_L_hangs : ex_MD := (yL_hangs, cL_hangs, 4, (some .int), 6, (some [(0, 9, 12, 21)]), 1, 0, 3, [], ex_p_L_hangs)
def ex_p_L_steps : List (Nat × Instr × Nat) := [(0, .aload_n 3, 1), (1, .iconst 0, 1), (2, .aload_n 0, 1), (3, .iload_n 1, 1), (4, .iload_n 2, 1), (5, .invokevirtual 27, 3), (8, .i2l, 1), (9, .lastore, 1), (10, .goto 7, 3), (13, .astore 4, 2), (15, .iconst 1, 1), (16, .ireturn, 1), (17, .iconst 0, 1), (18, .ireturn, 1)]
def ex_m_L_steps : ex_MD := (yL_steps, cL_steps, 5, (some .int), 6, (some [(0, 10, 13, 21)]), 2, 0, 4, [], ex_p_L_steps)
def ex_p_L_store : List (Nat × Instr × Nat) := [(0, .aload_n 1, 1), (1, .iconst 0, 1), (2, .aload_n 0, 1), (3, .invokevirtual 31, 3), (6, .i2l, 1), (7, .lastore, 1), (8, .goto 6, 3), (11, .astore_n 2, 1), (12, .iconst 1, 1), (13, .ireturn, 1), (14, .iconst 0, 1), (15, .ireturn, 1)]
def ex_m_L_store : ex_MD := (yL_store, cL_store, 3, (some .int), 6, (some [(0, 8, 11, 15)]), 1, 0, 2, [], ex_p_L_store)
def ex_p_L_copy : List (Nat × Instr × Nat) := [(0, .aload 4, 2), (2, .iconst 0, 1), (3, .aload_n 0, 1), (4, .iload_n 1, 1), (5, .iload_n 2, 1), (6, .iload_n 3, 1), (7, .invokevirtual 35, 3), (10, .i2l, 1), (11, .lastore, 1), (12, .goto 15, 3), (15, .astore 5, 2), (17, .iconst 1, 1), (18, .ireturn, 1), (19, .astore 5, 2), (21, .iconst 2, 1), (22, .ireturn, 1), (23, .astore 5, 2), (25, .iconst 3, 1), (26, .ireturn, 1), (27, .iconst 0, 1), (28, .ireturn, 1)]
def ex_m_L_copy : ex_MD := (yL_copy, cL_copy, 6, (some .int), 6, (some [(0, 12, 15, 21), (0, 12, 19, 13), (0, 12, 23, 15)]), 4, 0, 5, [], ex_p_L_copy)
def ex_p_L_torn : List (Nat × Instr × Nat) := [(0, .aload 4, 2), (2, .iconst 0, 1), (3, .aload_n 0, 1), (4, .iload_n 1, 1), (5, .iload_n 2, 1), (6, .iload_n 3, 1), (7, .invokevirtual 39, 3), (10, .ifCond .eq 7, 3), (13, .lconst 1, 1), (14, .goto 4, 3), (17, .lconst 0, 1), (18, .lastore, 1), (19, .goto 7, 3), (22, .astore 5, 2), (24, .iconst 1, 1), (25, .ireturn, 1), (26, .iconst 0, 1), (27, .ireturn, 1)]
def ex_m_L_torn : ex_MD := (yL_torn, cL_torn, 6, (some .int), 6, (some [(0, 19, 22, 21)]), 2, 0, 5, [], ex_p_L_torn)
def ex_p_L_letter : List (Nat × Instr × Nat) := [(0, .aload 5, 2), (2, .iconst 0, 1), (3, .aload_n 0, 1), (4, .iload_n 1, 1), (5, .iload_n 2, 1), (6, .iload_n 3, 1), (7, .iload 4, 2), (9, .invokevirtual 43, 3), (12, .i2l, 1), (13, .lastore, 1), (14, .goto 15, 3), (17, .astore 6, 2), (19, .iconst 1, 1), (20, .ireturn, 1), (21, .astore 6, 2), (23, .iconst 2, 1), (24, .ireturn, 1), (25, .astore 6, 2), (27, .iconst 3, 1), (28, .ireturn, 1), (29, .iconst 0, 1), (30, .ireturn, 1)]
def ex_m_L_letter : ex_MD := (yL_letter, cL_letter, 7, (some .int), 6, (some [(0, 14, 17, 21), (0, 14, 21, 13), (0, 14, 25, 15)]), 5, 0, 6, [], ex_p_L_letter)
def ex_p_L_change : List (Nat × Instr × Nat) := [(0, .aload_n 3, 1), (1, .iconst 0, 1), (2, .aload_n 0, 1), (3, .iload_n 1, 1), (4, .iload_n 2, 1), (5, .invokevirtual 46, 3), (8, .i2l, 1), (9, .lastore, 1), (10, .goto 15, 3), (13, .astore 4, 2), (15, .iconst 1, 1), (16, .ireturn, 1), (17, .astore 4, 2), (19, .iconst 2, 1), (20, .ireturn, 1), (21, .astore 4, 2), (23, .iconst 3, 1), (24, .ireturn, 1), (25, .iconst 0, 1), (26, .ireturn, 1)]
def ex_m_L_change : ex_MD := (yL_change, cL_change, 5, (some .int), 6, (some [(0, 10, 13, 21), (0, 10, 17, 13), (0, 10, 21, 15)]), 3, 0, 4, [], ex_p_L_change)
def ex_p_L_state : List (Nat × Instr × Nat) := [(0, .aload_n 2, 1), (1, .iconst 0, 1), (2, .aload_n 0, 1), (3, .iload_n 1, 1), (4, .invokevirtual 49, 3), (7, .i2l, 1), (8, .lastore, 1), (9, .goto 6, 3), (12, .astore_n 3, 1), (13, .iconst 1, 1), (14, .ireturn, 1), (15, .iconst 0, 1), (16, .ireturn, 1)]
def ex_m_L_state : ex_MD := (yL_state, cL_state, 4, (some .int), 6, (some [(0, 9, 12, 21)]), 1, 0, 3, [], ex_p_L_state)
def ex_p_L_lost : List (Nat × Instr × Nat) := [(0, .aload_n 2, 1), (1, .iconst 0, 1), (2, .aload_n 0, 1), (3, .iload_n 1, 1), (4, .invokevirtual 52, 3), (7, .i2l, 1), (8, .lastore, 1), (9, .goto 6, 3), (12, .astore_n 3, 1), (13, .iconst 1, 1), (14, .ireturn, 1), (15, .iconst 0, 1), (16, .ireturn, 1)]
def ex_m_L_lost : ex_MD := (yL_lost, cL_lost, 4, (some .int), 6, (some [(0, 9, 12, 21)]), 1, 0, 3, [], ex_p_L_lost)
def ex_p_L_plan : List (Nat × Instr × Nat) := [(0, .aload_n 3, 1), (1, .iconst 0, 1), (2, .aload_n 0, 1), (3, .iload_n 1, 1), (4, .iload_n 2, 1), (5, .invokevirtual 55, 3), (8, .i2l, 1), (9, .lastore, 1), (10, .goto 7, 3), (13, .astore 4, 2), (15, .iconst 1, 1), (16, .ireturn, 1), (17, .iconst 0, 1), (18, .ireturn, 1)]
def ex_m_L_plan : ex_MD := (yL_plan, cL_plan, 5, (some .int), 6, (some [(0, 10, 13, 13)]), 1, 0, 4, [], ex_p_L_plan)
def ex_p_L_begins : List (Nat × Instr × Nat) := [(0, .aload_n 2, 1), (1, .iconst 0, 1), (2, .aload_n 0, 1), (3, .iload_n 1, 1), (4, .invokevirtual 58, 3), (7, .i2l, 1), (8, .lastore, 1), (9, .goto 6, 3), (12, .astore_n 3, 1), (13, .iconst 1, 1), (14, .ireturn, 1), (15, .iconst 0, 1), (16, .ireturn, 1)]
def ex_m_L_begins : ex_MD := (yL_begins, cL_begins, 4, (some .int), 6, (some [(0, 9, 12, 21)]), 1, 0, 3, [], ex_p_L_begins)
def ex_p_L_night : List (Nat × Instr × Nat) := [(0, .aload_n 0, 1), (1, .iload_n 1, 1), (2, .invokevirtual 61, 3), (5, .goto 6, 3), (8, .astore_n 2, 1), (9, .iconst 1, 1), (10, .ireturn, 1), (11, .iconst 0, 1), (12, .ireturn, 1)]
def ex_m_L_night : ex_MD := (yL_night, cL_night, 3, (some .int), 6, (some [(0, 5, 8, 13)]), 1, 0, 2, [], ex_p_L_night)
def ex_p_L_begin : List (Nat × Instr × Nat) := [(0, .aload_n 3, 1), (1, .iconst 0, 1), (2, .aload_n 0, 1), (3, .iload_n 1, 1), (4, .iload_n 2, 1), (5, .invokevirtual 65, 3), (8, .ifCond .eq 7, 3), (11, .lconst 1, 1), (12, .goto 4, 3), (15, .lconst 0, 1), (16, .lastore, 1), (17, .goto 11, 3), (20, .astore 4, 2), (22, .iconst 1, 1), (23, .ireturn, 1), (24, .astore 4, 2), (26, .iconst 2, 1), (27, .ireturn, 1), (28, .iconst 0, 1), (29, .ireturn, 1)]
def ex_m_L_begin : ex_MD := (yL_begin, cL_begin, 5, (some .int), 6, (some [(0, 17, 20, 21), (0, 17, 24, 69)]), 2, 0, 4, [], ex_p_L_begin)
def ex_p_L_tick : List (Nat × Instr × Nat) := [(0, .aload_n 2, 1), (1, .iconst 0, 1), (2, .aload_n 0, 1), (3, .iload_n 1, 1), (4, .invokevirtual 71, 3), (7, .i2l, 1), (8, .lastore, 1), (9, .goto 9, 3), (12, .astore_n 3, 1), (13, .iconst 1, 1), (14, .ireturn, 1), (15, .astore_n 3, 1), (16, .iconst 2, 1), (17, .ireturn, 1), (18, .iconst 0, 1), (19, .ireturn, 1)]
def ex_m_L_tick : ex_MD := (yL_tick, cL_tick, 4, (some .int), 6, (some [(0, 9, 12, 69), (0, 9, 15, 13)]), 2, 0, 3, [], ex_p_L_tick)
def ex_p_L_fail : List (Nat × Instr × Nat) := [(0, .aload_n 2, 1), (1, .iconst 0, 1), (2, .aload_n 0, 1), (3, .iload_n 1, 1), (4, .invokevirtual 74, 3), (7, .ifCond .eq 7, 3), (10, .lconst 1, 1), (11, .goto 4, 3), (14, .lconst 0, 1), (15, .lastore, 1), (16, .goto 9, 3), (19, .astore_n 3, 1), (20, .iconst 1, 1), (21, .ireturn, 1), (22, .astore_n 3, 1), (23, .iconst 2, 1), (24, .ireturn, 1), (25, .iconst 0, 1), (26, .ireturn, 1)]
def ex_m_L_fail : ex_MD := (yL_fail, cL_fail, 4, (some .int), 6, (some [(0, 16, 19, 21), (0, 16, 22, 69)]), 2, 0, 3, [], ex_p_L_fail)
def ex_p_L_blow : List (Nat × Instr × Nat) := [(0, .aload_n 2, 1), (1, .iconst 0, 1), (2, .aload_n 0, 1), (3, .iload_n 1, 1), (4, .invokevirtual 78, 3), (7, .i2l, 1), (8, .lastore, 1), (9, .goto 9, 3), (12, .astore_n 3, 1), (13, .iconst 1, 1), (14, .ireturn, 1), (15, .astore_n 3, 1), (16, .iconst 2, 1), (17, .ireturn, 1), (18, .iconst 0, 1), (19, .ireturn, 1)]
def ex_m_L_blow : ex_MD := (yL_blow, cL_blow, 4, (some .int), 6, (some [(0, 9, 12, 21), (0, 9, 15, 69)]), 2, 0, 3, [], ex_p_L_blow)
def ex_p_L_look : List (Nat × Instr × Nat) := [(0, .aload_n 3, 1), (1, .iconst 0, 1), (2, .aload_n 0, 1), (3, .iload_n 1, 1), (4, .iload_n 2, 1), (5, .invokevirtual 81, 3), (8, .i2l, 1), (9, .lastore, 1), (10, .goto 15, 3), (13, .astore 4, 2), (15, .iconst 1, 1), (16, .ireturn, 1), (17, .astore 4, 2), (19, .iconst 2, 1), (20, .ireturn, 1), (21, .astore 4, 2), (23, .iconst 3, 1), (24, .ireturn, 1), (25, .iconst 0, 1), (26, .ireturn, 1)]
def ex_m_L_look : ex_MD := (yL_look, cL_look, 5, (some .int), 6, (some [(0, 10, 13, 21), (0, 10, 17, 69), (0, 10, 21, 84)]), 3, 0, 4, [], ex_p_L_look)
def ex_p_L_now : List (Nat × Instr × Nat) := [(0, .aload_n 2, 1), (1, .iconst 0, 1), (2, .aload_n 0, 1), (3, .iload_n 1, 1), (4, .invokevirtual 86, 3), (7, .i2l, 1), (8, .lastore, 1), (9, .goto 9, 3), (12, .astore_n 3, 1), (13, .iconst 1, 1), (14, .ireturn, 1), (15, .astore_n 3, 1), (16, .iconst 2, 1), (17, .ireturn, 1), (18, .iconst 0, 1), (19, .ireturn, 1)]
def ex_m_L_now : ex_MD := (yL_now, cL_now, 4, (some .int), 6, (some [(0, 9, 12, 69), (0, 9, 15, 84)]), 2, 0, 3, [], ex_p_L_now)
def ex_p_L_law_0 : List (Nat × Instr × Nat) := [(0, .new 8, 3), (3, .dup, 1), (4, .invokespecial 89, 3), (7, .astore_n 1, 1), (8, .new 90, 3), (11, .dup, 1), (12, .invokespecial 92, 3), (15, .astore_n 2, 1), (16, .iconst 1, 1), (17, .newarray .long, 2), (19, .astore_n 3, 1), (20, .iconst 0, 1), (21, .istore 4, 2), (23, .iload 4, 2), (25, .aload_n 0, 1), (26, .arraylength, 1), (27, .iconst 5, 1), (28, .isub, 1), (29, .if_icmp .gt 1562, 3), (32, .aload_n 0, 1), (33, .iload 4, 2), (35, .iaload, 1), (36, .bipush 31, 2), (38, .iand, 1), (39, .tableswitch 1546 0 23 #[109, 201, 297, 353, 421, 446, 459, 503, 583, 686, 778, 846, 859, 915, 971, 1039, 1095, 1131, 1222, 1278, 1341, 1397, 1465, 1521], 109), (148, .aload_n 1, 1), (149, .aload_n 0, 1), (150, .iload 4, 2), (152, .iconst 1, 1), (153, .iadd, 1), (154, .iaload, 1), (155, .aload_n 0, 1), (156, .iload 4, 2), (158, .iconst 2, 1), (159, .iadd, 1), (160, .iaload, 1), (161, .aload_n 0, 1), (162, .iload 4, 2), (164, .iconst 3, 1), (165, .iadd, 1), (166, .iaload, 1), (167, .aload_n 0, 1), (168, .iload 4, 2), (170, .iconst 4, 1), (171, .iadd, 1), (172, .iaload, 1), (173, .aload_n 3, 1), (174, .invokestatic 93, 3), (177, .istore 5, 2), (179, .aload_n 2, 1), (180, .aload_n 0, 1), (181, .iload 4, 2), (183, .iconst 1, 1), (184, .iadd, 1), (185, .iaload, 1), (186, .aload_n 0, 1), (187, .iload 4, 2), (189, .iconst 2, 1), (190, .iadd, 1), (191, .iaload, 1), (192, .aload_n 0, 1), (193, .iload 4, 2), (195, .iconst 3, 1), (196, .iadd, 1), (197, .iaload, 1), (198, .aload_n 0, 1), (199, .iload 4, 2), (201, .iconst 4, 1), (202, .iadd, 1), (203, .iaload, 1), (204, .invokevirtual 98, 3), (207, .istore 6, 2), (209, .aload_n 2, 1), (210, .invokevirtual 99, 3), (213, .iload 5, 2), (215, .if_icmp .eq 5, 3), (218, .iconst 0, 1), (219, .ireturn, 1), (220, .iload 5, 2), (222, .ifCond .ne 15, 3), (225, .aload_n 3, 1), (226, .iconst 0, 1), (227, .laload, 1), (228, .iload 6, 2), (230, .i2l, 1), (231, .lcmp, 1), (232, .ifCond .eq 5, 3), (235, .iconst 0, 1), (236, .ireturn, 1), (237, .goto 1348, 3), (240, .aload_n 1, 1), (241, .aload_n 0, 1), (242, .iload 4, 2), (244, .iconst 1, 1), (245, .iadd, 1), (246, .iaload, 1), (247, .aload_n 0, 1), (248, .iload 4, 2), (250, .iconst 2, 1), (251, .iadd, 1)]
def ex_p_L_law_1 : List (Nat × Instr × Nat) := [(252, .iaload, 1), (253, .aload_n 0, 1), (254, .iload 4, 2), (256, .iconst 3, 1), (257, .iadd, 1), (258, .iaload, 1), (259, .ifCond .eq 7, 3), (262, .iconst 1, 1), (263, .goto 4, 3), (266, .iconst 0, 1), (267, .aload_n 3, 1), (268, .invokestatic 102, 3), (271, .istore 5, 2), (273, .aload_n 2, 1), (274, .aload_n 0, 1), (275, .iload 4, 2), (277, .iconst 1, 1), (278, .iadd, 1), (279, .iaload, 1), (280, .aload_n 0, 1), (281, .iload 4, 2), (283, .iconst 2, 1), (284, .iadd, 1), (285, .iaload, 1), (286, .aload_n 0, 1), (287, .iload 4, 2), (289, .iconst 3, 1), (290, .iadd, 1), (291, .iaload, 1), (292, .ifCond .eq 7, 3), (295, .iconst 1, 1), (296, .goto 4, 3), (299, .iconst 0, 1), (300, .invokevirtual 105, 3), (303, .istore 6, 2), (305, .aload_n 2, 1), (306, .invokevirtual 99, 3), (309, .iload 5, 2), (311, .if_icmp .eq 5, 3), (314, .iconst 0, 1), (315, .ireturn, 1), (316, .iload 5, 2), (318, .ifCond .ne 15, 3), (321, .aload_n 3, 1), (322, .iconst 0, 1), (323, .laload, 1), (324, .iload 6, 2), (326, .i2l, 1), (327, .lcmp, 1), (328, .ifCond .eq 5, 3), (331, .iconst 0, 1), (332, .ireturn, 1), (333, .goto 1252, 3), (336, .aload_n 1, 1), (337, .aload_n 0, 1), (338, .iload 4, 2), (340, .iconst 1, 1), (341, .iadd, 1), (342, .iaload, 1), (343, .aload_n 3, 1), (344, .invokestatic 106, 3), (347, .istore 5, 2), (349, .aload_n 2, 1), (350, .aload_n 0, 1), (351, .iload 4, 2), (353, .iconst 1, 1), (354, .iadd, 1), (355, .iaload, 1), (356, .invokevirtual 109, 3), (359, .istore 6, 2), (361, .aload_n 2, 1), (362, .invokevirtual 99, 3), (365, .iload 5, 2), (367, .if_icmp .eq 5, 3), (370, .iconst 0, 1), (371, .ireturn, 1), (372, .iload 5, 2), (374, .ifCond .ne 15, 3), (377, .aload_n 3, 1), (378, .iconst 0, 1), (379, .laload, 1), (380, .iload 6, 2), (382, .i2l, 1), (383, .lcmp, 1), (384, .ifCond .eq 5, 3), (387, .iconst 0, 1), (388, .ireturn, 1), (389, .goto 1196, 3), (392, .aload_n 1, 1), (393, .aload_n 0, 1), (394, .iload 4, 2), (396, .iconst 1, 1), (397, .iadd, 1), (398, .iaload, 1), (399, .aload_n 0, 1), (400, .iload 4, 2), (402, .iconst 2, 1), (403, .iadd, 1), (404, .iaload, 1), (405, .aload_n 3, 1)]
def ex_p_L_law_2 : List (Nat × Instr × Nat) := [(406, .invokestatic 110, 3), (409, .istore 5, 2), (411, .aload_n 2, 1), (412, .aload_n 0, 1), (413, .iload 4, 2), (415, .iconst 1, 1), (416, .iadd, 1), (417, .iaload, 1), (418, .aload_n 0, 1), (419, .iload 4, 2), (421, .iconst 2, 1), (422, .iadd, 1), (423, .iaload, 1), (424, .invokevirtual 113, 3), (427, .istore 6, 2), (429, .aload_n 2, 1), (430, .invokevirtual 99, 3), (433, .iload 5, 2), (435, .if_icmp .eq 5, 3), (438, .iconst 0, 1), (439, .ireturn, 1), (440, .iload 5, 2), (442, .ifCond .ne 15, 3), (445, .aload_n 3, 1), (446, .iconst 0, 1), (447, .laload, 1), (448, .iload 6, 2), (450, .i2l, 1), (451, .lcmp, 1), (452, .ifCond .eq 5, 3), (455, .iconst 0, 1), (456, .ireturn, 1), (457, .goto 1128, 3), (460, .aload_n 1, 1), (461, .aload_n 0, 1), (462, .iload 4, 2), (464, .iconst 1, 1), (465, .iadd, 1), (466, .iaload, 1), (467, .invokevirtual 114, 3), (470, .aload_n 2, 1), (471, .aload_n 0, 1), (472, .iload 4, 2), (474, .iconst 1, 1), (475, .iadd, 1), (476, .iaload, 1), (477, .invokevirtual 117, 3), (480, .if_icmp .eq 1105, 3), (483, .iconst 0, 1), (484, .ireturn, 1), (485, .aload_n 1, 1), (486, .invokevirtual 118, 3), (489, .aload_n 2, 1), (490, .invokevirtual 121, 3), (493, .if_icmp .eq 1092, 3), (496, .iconst 0, 1), (497, .ireturn, 1), (498, .aload_n 1, 1), (499, .aload_n 3, 1), (500, .invokestatic 122, 3), (503, .istore 5, 2), (505, .aload_n 2, 1), (506, .invokevirtual 125, 3), (509, .istore 6, 2), (511, .aload_n 2, 1), (512, .invokevirtual 99, 3), (515, .iload 5, 2), (517, .if_icmp .eq 5, 3), (520, .iconst 0, 1), (521, .ireturn, 1), (522, .iload 5, 2), (524, .ifCond .ne 15, 3), (527, .aload_n 3, 1), (528, .iconst 0, 1), (529, .laload, 1), (530, .iload 6, 2), (532, .i2l, 1), (533, .lcmp, 1), (534, .ifCond .eq 5, 3), (537, .iconst 0, 1), (538, .ireturn, 1), (539, .goto 1046, 3), (542, .aload_n 1, 1), (543, .aload_n 0, 1), (544, .iload 4, 2), (546, .iconst 1, 1), (547, .iadd, 1), (548, .iaload, 1), (549, .aload_n 0, 1), (550, .iload 4, 2), (552, .iconst 2, 1), (553, .iadd, 1), (554, .iaload, 1), (555, .aload_n 0, 1), (556, .iload 4, 2), (558, .iconst 3, 1), (559, .iadd, 1), (560, .iaload, 1), (561, .aload_n 3, 1), (562, .invokestatic 126, 3)]
def ex_p_L_law_3 : List (Nat × Instr × Nat) := [(565, .istore 5, 2), (567, .aload_n 2, 1), (568, .aload_n 0, 1), (569, .iload 4, 2), (571, .iconst 1, 1), (572, .iadd, 1), (573, .iaload, 1), (574, .aload_n 0, 1), (575, .iload 4, 2), (577, .iconst 2, 1), (578, .iadd, 1), (579, .iaload, 1), (580, .aload_n 0, 1), (581, .iload 4, 2), (583, .iconst 3, 1), (584, .iadd, 1), (585, .iaload, 1), (586, .invokevirtual 129, 3), (589, .istore 6, 2), (591, .aload_n 2, 1), (592, .invokevirtual 99, 3), (595, .iload 5, 2), (597, .if_icmp .eq 5, 3), (600, .iconst 0, 1), (601, .ireturn, 1), (602, .iload 5, 2), (604, .ifCond .ne 15, 3), (607, .aload_n 3, 1), (608, .iconst 0, 1), (609, .laload, 1), (610, .iload 6, 2), (612, .i2l, 1), (613, .lcmp, 1), (614, .ifCond .eq 5, 3), (617, .iconst 0, 1), (618, .ireturn, 1), (619, .goto 966, 3), (622, .aload_n 1, 1), (623, .aload_n 0, 1), (624, .iload 4, 2), (626, .iconst 1, 1), (627, .iadd, 1), (628, .iaload, 1), (629, .aload_n 0, 1), (630, .iload 4, 2), (632, .iconst 2, 1), (633, .iadd, 1), (634, .iaload, 1), (635, .aload_n 0, 1), (636, .iload 4, 2), (638, .iconst 3, 1), (639, .iadd, 1), (640, .iaload, 1), (641, .ifCond .eq 7, 3), (644, .iconst 1, 1), (645, .goto 4, 3), (648, .iconst 0, 1), (649, .aload_n 3, 1), (650, .invokestatic 130, 3), (653, .istore 5, 2), (655, .aload_n 2, 1), (656, .aload_n 0, 1), (657, .iload 4, 2), (659, .iconst 1, 1), (660, .iadd, 1), (661, .iaload, 1), (662, .aload_n 0, 1), (663, .iload 4, 2), (665, .iconst 2, 1), (666, .iadd, 1), (667, .iaload, 1), (668, .aload_n 0, 1), (669, .iload 4, 2), (671, .iconst 3, 1), (672, .iadd, 1), (673, .iaload, 1), (674, .ifCond .eq 7, 3), (677, .iconst 1, 1), (678, .goto 4, 3), (681, .iconst 0, 1), (682, .invokevirtual 132, 3), (685, .istore 6, 2), (687, .aload_n 2, 1), (688, .invokevirtual 99, 3), (691, .iload 5, 2), (693, .if_icmp .eq 5, 3), (696, .iconst 0, 1), (697, .ireturn, 1), (698, .iload 5, 2), (700, .ifCond .ne 22, 3), (703, .aload_n 3, 1), (704, .iconst 0, 1), (705, .laload, 1), (706, .iload 6, 2), (708, .ifCond .eq 7, 3), (711, .lconst 1, 1), (712, .goto 4, 3), (715, .lconst 0, 1), (716, .lcmp, 1), (717, .ifCond .eq 5, 3)]
def ex_p_L_law_4 : List (Nat × Instr × Nat) := [(720, .iconst 0, 1), (721, .ireturn, 1), (722, .goto 863, 3), (725, .aload_n 1, 1), (726, .aload_n 0, 1), (727, .iload 4, 2), (729, .iconst 1, 1), (730, .iadd, 1), (731, .iaload, 1), (732, .aload_n 0, 1), (733, .iload 4, 2), (735, .iconst 2, 1), (736, .iadd, 1), (737, .iaload, 1), (738, .aload_n 0, 1), (739, .iload 4, 2), (741, .iconst 3, 1), (742, .iadd, 1), (743, .iaload, 1), (744, .aload_n 0, 1), (745, .iload 4, 2), (747, .iconst 4, 1), (748, .iadd, 1), (749, .iaload, 1), (750, .aload_n 3, 1), (751, .invokestatic 133, 3), (754, .istore 5, 2), (756, .aload_n 2, 1), (757, .aload_n 0, 1), (758, .iload 4, 2), (760, .iconst 1, 1), (761, .iadd, 1), (762, .iaload, 1), (763, .aload_n 0, 1), (764, .iload 4, 2), (766, .iconst 2, 1), (767, .iadd, 1), (768, .iaload, 1), (769, .aload_n 0, 1), (770, .iload 4, 2), (772, .iconst 3, 1), (773, .iadd, 1), (774, .iaload, 1), (775, .aload_n 0, 1), (776, .iload 4, 2), (778, .iconst 4, 1), (779, .iadd, 1), (780, .iaload, 1), (781, .invokevirtual 135, 3), (784, .istore 6, 2), (786, .aload_n 2, 1), (787, .invokevirtual 99, 3), (790, .iload 5, 2), (792, .if_icmp .eq 5, 3), (795, .iconst 0, 1), (796, .ireturn, 1), (797, .iload 5, 2), (799, .ifCond .ne 15, 3), (802, .aload_n 3, 1), (803, .iconst 0, 1), (804, .laload, 1), (805, .iload 6, 2), (807, .i2l, 1), (808, .lcmp, 1), (809, .ifCond .eq 5, 3), (812, .iconst 0, 1), (813, .ireturn, 1), (814, .goto 771, 3), (817, .aload_n 1, 1), (818, .aload_n 0, 1), (819, .iload 4, 2), (821, .iconst 1, 1), (822, .iadd, 1), (823, .iaload, 1), (824, .aload_n 0, 1), (825, .iload 4, 2), (827, .iconst 2, 1), (828, .iadd, 1), (829, .iaload, 1), (830, .aload_n 3, 1), (831, .invokestatic 136, 3), (834, .istore 5, 2), (836, .aload_n 2, 1), (837, .aload_n 0, 1), (838, .iload 4, 2), (840, .iconst 1, 1), (841, .iadd, 1), (842, .iaload, 1), (843, .aload_n 0, 1), (844, .iload 4, 2), (846, .iconst 2, 1), (847, .iadd, 1), (848, .iaload, 1), (849, .invokevirtual 138, 3), (852, .istore 6, 2), (854, .aload_n 2, 1), (855, .invokevirtual 99, 3), (858, .iload 5, 2), (860, .if_icmp .eq 5, 3), (863, .iconst 0, 1)]
def ex_p_L_law_5 : List (Nat × Instr × Nat) := [(864, .ireturn, 1), (865, .iload 5, 2), (867, .ifCond .ne 15, 3), (870, .aload_n 3, 1), (871, .iconst 0, 1), (872, .laload, 1), (873, .iload 6, 2), (875, .i2l, 1), (876, .lcmp, 1), (877, .ifCond .eq 5, 3), (880, .iconst 0, 1), (881, .ireturn, 1), (882, .goto 703, 3), (885, .aload_n 1, 1), (886, .invokevirtual 139, 3), (889, .aload_n 2, 1), (890, .invokevirtual 143, 3), (893, .if_icmp .eq 692, 3), (896, .iconst 0, 1), (897, .ireturn, 1), (898, .aload_n 1, 1), (899, .aload_n 0, 1), (900, .iload 4, 2), (902, .iconst 1, 1), (903, .iadd, 1), (904, .iaload, 1), (905, .aload_n 3, 1), (906, .invokestatic 144, 3), (909, .istore 5, 2), (911, .aload_n 2, 1), (912, .aload_n 0, 1), (913, .iload 4, 2), (915, .iconst 1, 1), (916, .iadd, 1), (917, .iaload, 1), (918, .invokevirtual 146, 3), (921, .istore 6, 2), (923, .aload_n 2, 1), (924, .invokevirtual 99, 3), (927, .iload 5, 2), (929, .if_icmp .eq 5, 3), (932, .iconst 0, 1), (933, .ireturn, 1), (934, .iload 5, 2), (936, .ifCond .ne 15, 3), (939, .aload_n 3, 1), (940, .iconst 0, 1), (941, .laload, 1), (942, .iload 6, 2), (944, .i2l, 1), (945, .lcmp, 1), (946, .ifCond .eq 5, 3), (949, .iconst 0, 1), (950, .ireturn, 1), (951, .goto 634, 3), (954, .aload_n 1, 1), (955, .aload_n 0, 1), (956, .iload 4, 2), (958, .iconst 1, 1), (959, .iadd, 1), (960, .iaload, 1), (961, .aload_n 3, 1), (962, .invokestatic 147, 3), (965, .istore 5, 2), (967, .aload_n 2, 1), (968, .aload_n 0, 1), (969, .iload 4, 2), (971, .iconst 1, 1), (972, .iadd, 1), (973, .iaload, 1), (974, .invokevirtual 149, 3), (977, .istore 6, 2), (979, .aload_n 2, 1), (980, .invokevirtual 99, 3), (983, .iload 5, 2), (985, .if_icmp .eq 5, 3), (988, .iconst 0, 1), (989, .ireturn, 1), (990, .iload 5, 2), (992, .ifCond .ne 15, 3), (995, .aload_n 3, 1), (996, .iconst 0, 1), (997, .laload, 1), (998, .iload 6, 2), (1000, .i2l, 1), (1001, .lcmp, 1), (1002, .ifCond .eq 5, 3), (1005, .iconst 0, 1), (1006, .ireturn, 1), (1007, .goto 578, 3), (1010, .aload_n 1, 1), (1011, .aload_n 0, 1), (1012, .iload 4, 2), (1014, .iconst 1, 1), (1015, .iadd, 1), (1016, .iaload, 1), (1017, .aload_n 0, 1), (1018, .iload 4, 2), (1020, .iconst 2, 1), (1021, .iadd, 1)]
def ex_p_L_law_6 : List (Nat × Instr × Nat) := [(1022, .iaload, 1), (1023, .aload_n 3, 1), (1024, .invokestatic 150, 3), (1027, .istore 5, 2), (1029, .aload_n 2, 1), (1030, .aload_n 0, 1), (1031, .iload 4, 2), (1033, .iconst 1, 1), (1034, .iadd, 1), (1035, .iaload, 1), (1036, .aload_n 0, 1), (1037, .iload 4, 2), (1039, .iconst 2, 1), (1040, .iadd, 1), (1041, .iaload, 1), (1042, .invokevirtual 152, 3), (1045, .istore 6, 2), (1047, .aload_n 2, 1), (1048, .invokevirtual 99, 3), (1051, .iload 5, 2), (1053, .if_icmp .eq 5, 3), (1056, .iconst 0, 1), (1057, .ireturn, 1), (1058, .iload 5, 2), (1060, .ifCond .ne 15, 3), (1063, .aload_n 3, 1), (1064, .iconst 0, 1), (1065, .laload, 1), (1066, .iload 6, 2), (1068, .i2l, 1), (1069, .lcmp, 1), (1070, .ifCond .eq 5, 3), (1073, .iconst 0, 1), (1074, .ireturn, 1), (1075, .goto 510, 3), (1078, .aload_n 1, 1), (1079, .aload_n 0, 1), (1080, .iload 4, 2), (1082, .iconst 1, 1), (1083, .iadd, 1), (1084, .iaload, 1), (1085, .aload_n 3, 1), (1086, .invokestatic 153, 3), (1089, .istore 5, 2), (1091, .aload_n 2, 1), (1092, .aload_n 0, 1), (1093, .iload 4, 2), (1095, .iconst 1, 1), (1096, .iadd, 1), (1097, .iaload, 1), (1098, .invokevirtual 155, 3), (1101, .istore 6, 2), (1103, .aload_n 2, 1), (1104, .invokevirtual 99, 3), (1107, .iload 5, 2), (1109, .if_icmp .eq 5, 3), (1112, .iconst 0, 1), (1113, .ireturn, 1), (1114, .iload 5, 2), (1116, .ifCond .ne 15, 3), (1119, .aload_n 3, 1), (1120, .iconst 0, 1), (1121, .laload, 1), (1122, .iload 6, 2), (1124, .i2l, 1), (1125, .lcmp, 1), (1126, .ifCond .eq 5, 3), (1129, .iconst 0, 1), (1130, .ireturn, 1), (1131, .goto 454, 3), (1134, .aload_n 1, 1), (1135, .aload_n 0, 1), (1136, .iload 4, 2), (1138, .iconst 1, 1), (1139, .iadd, 1), (1140, .iaload, 1), (1141, .invokestatic 156, 3), (1144, .istore 5, 2), (1146, .aload_n 2, 1), (1147, .aload_n 0, 1), (1148, .iload 4, 2), (1150, .iconst 1, 1), (1151, .iadd, 1), (1152, .iaload, 1), (1153, .invokevirtual 159, 3), (1156, .aload_n 2, 1), (1157, .invokevirtual 99, 3), (1160, .iload 5, 2), (1162, .if_icmp .eq 5, 3), (1165, .iconst 0, 1), (1166, .ireturn, 1), (1167, .goto 418, 3), (1170, .aload_n 1, 1), (1171, .aload_n 0, 1), (1172, .iload 4, 2), (1174, .iconst 1, 1), (1175, .iadd, 1), (1176, .iaload, 1), (1177, .aload_n 0, 1), (1178, .iload 4, 2)]
def ex_p_L_law_7 : List (Nat × Instr × Nat) := [(1180, .iconst 2, 1), (1181, .iadd, 1), (1182, .iaload, 1), (1183, .ifCond .eq 7, 3), (1186, .iconst 1, 1), (1187, .goto 4, 3), (1190, .iconst 0, 1), (1191, .aload_n 3, 1), (1192, .invokestatic 160, 3), (1195, .istore 5, 2), (1197, .aload_n 2, 1), (1198, .aload_n 0, 1), (1199, .iload 4, 2), (1201, .iconst 1, 1), (1202, .iadd, 1), (1203, .iaload, 1), (1204, .aload_n 0, 1), (1205, .iload 4, 2), (1207, .iconst 2, 1), (1208, .iadd, 1), (1209, .iaload, 1), (1210, .ifCond .eq 7, 3), (1213, .iconst 1, 1), (1214, .goto 4, 3), (1217, .iconst 0, 1), (1218, .invokevirtual 163, 3), (1221, .istore 6, 2), (1223, .aload_n 2, 1), (1224, .invokevirtual 99, 3), (1227, .iload 5, 2), (1229, .if_icmp .eq 5, 3), (1232, .iconst 0, 1), (1233, .ireturn, 1), (1234, .iload 5, 2), (1236, .ifCond .ne 22, 3), (1239, .aload_n 3, 1), (1240, .iconst 0, 1), (1241, .laload, 1), (1242, .iload 6, 2), (1244, .ifCond .eq 7, 3), (1247, .lconst 1, 1), (1248, .goto 4, 3), (1251, .lconst 0, 1), (1252, .lcmp, 1), (1253, .ifCond .eq 5, 3), (1256, .iconst 0, 1), (1257, .ireturn, 1), (1258, .goto 327, 3), (1261, .aload_n 1, 1), (1262, .aload_n 0, 1), (1263, .iload 4, 2), (1265, .iconst 1, 1), (1266, .iadd, 1), (1267, .iaload, 1), (1268, .aload_n 3, 1), (1269, .invokestatic 164, 3), (1272, .istore 5, 2), (1274, .aload_n 2, 1), (1275, .aload_n 0, 1), (1276, .iload 4, 2), (1278, .iconst 1, 1), (1279, .iadd, 1), (1280, .iaload, 1), (1281, .invokevirtual 166, 3), (1284, .istore 6, 2), (1286, .aload_n 2, 1), (1287, .invokevirtual 99, 3), (1290, .iload 5, 2), (1292, .if_icmp .eq 5, 3), (1295, .iconst 0, 1), (1296, .ireturn, 1), (1297, .iload 5, 2), (1299, .ifCond .ne 15, 3), (1302, .aload_n 3, 1), (1303, .iconst 0, 1), (1304, .laload, 1), (1305, .iload 6, 2), (1307, .i2l, 1), (1308, .lcmp, 1), (1309, .ifCond .eq 5, 3), (1312, .iconst 0, 1), (1313, .ireturn, 1), (1314, .goto 271, 3), (1317, .aload_n 1, 1), (1318, .aload_n 0, 1), (1319, .iload 4, 2), (1321, .iconst 1, 1), (1322, .iadd, 1), (1323, .iaload, 1), (1324, .aload_n 3, 1), (1325, .invokestatic 167, 3), (1328, .istore 5, 2), (1330, .aload_n 2, 1), (1331, .aload_n 0, 1), (1332, .iload 4, 2), (1334, .iconst 1, 1), (1335, .iadd, 1), (1336, .iaload, 1), (1337, .invokevirtual 169, 3), (1340, .istore 6, 2)]
def ex_p_L_law_8 : List (Nat × Instr × Nat) := [(1342, .aload_n 2, 1), (1343, .invokevirtual 99, 3), (1346, .iload 5, 2), (1348, .if_icmp .eq 5, 3), (1351, .iconst 0, 1), (1352, .ireturn, 1), (1353, .iload 5, 2), (1355, .ifCond .ne 22, 3), (1358, .aload_n 3, 1), (1359, .iconst 0, 1), (1360, .laload, 1), (1361, .iload 6, 2), (1363, .ifCond .eq 7, 3), (1366, .lconst 1, 1), (1367, .goto 4, 3), (1370, .lconst 0, 1), (1371, .lcmp, 1), (1372, .ifCond .eq 5, 3), (1375, .iconst 0, 1), (1376, .ireturn, 1), (1377, .goto 208, 3), (1380, .aload_n 1, 1), (1381, .aload_n 0, 1), (1382, .iload 4, 2), (1384, .iconst 1, 1), (1385, .iadd, 1), (1386, .iaload, 1), (1387, .aload_n 3, 1), (1388, .invokestatic 170, 3), (1391, .istore 5, 2), (1393, .aload_n 2, 1), (1394, .aload_n 0, 1), (1395, .iload 4, 2), (1397, .iconst 1, 1), (1398, .iadd, 1), (1399, .iaload, 1), (1400, .invokevirtual 172, 3), (1403, .istore 6, 2), (1405, .aload_n 2, 1), (1406, .invokevirtual 99, 3), (1409, .iload 5, 2), (1411, .if_icmp .eq 5, 3), (1414, .iconst 0, 1), (1415, .ireturn, 1), (1416, .iload 5, 2), (1418, .ifCond .ne 15, 3), (1421, .aload_n 3, 1), (1422, .iconst 0, 1), (1423, .laload, 1), (1424, .iload 6, 2), (1426, .i2l, 1), (1427, .lcmp, 1), (1428, .ifCond .eq 5, 3), (1431, .iconst 0, 1), (1432, .ireturn, 1), (1433, .goto 152, 3), (1436, .aload_n 1, 1), (1437, .aload_n 0, 1), (1438, .iload 4, 2), (1440, .iconst 1, 1), (1441, .iadd, 1), (1442, .iaload, 1), (1443, .aload_n 0, 1), (1444, .iload 4, 2), (1446, .iconst 2, 1), (1447, .iadd, 1), (1448, .iaload, 1), (1449, .aload_n 3, 1), (1450, .invokestatic 173, 3), (1453, .istore 5, 2), (1455, .aload_n 2, 1), (1456, .aload_n 0, 1), (1457, .iload 4, 2), (1459, .iconst 1, 1), (1460, .iadd, 1), (1461, .iaload, 1), (1462, .aload_n 0, 1), (1463, .iload 4, 2), (1465, .iconst 2, 1), (1466, .iadd, 1), (1467, .iaload, 1), (1468, .invokevirtual 175, 3), (1471, .istore 6, 2), (1473, .aload_n 2, 1), (1474, .invokevirtual 99, 3), (1477, .iload 5, 2), (1479, .if_icmp .eq 5, 3), (1482, .iconst 0, 1), (1483, .ireturn, 1), (1484, .iload 5, 2), (1486, .ifCond .ne 15, 3), (1489, .aload_n 3, 1), (1490, .iconst 0, 1), (1491, .laload, 1), (1492, .iload 6, 2), (1494, .i2l, 1), (1495, .lcmp, 1), (1496, .ifCond .eq 5, 3), (1499, .iconst 0, 1), (1500, .ireturn, 1)]
def ex_p_L_law_9 : List (Nat × Instr × Nat) := [(1501, .goto 84, 3), (1504, .aload_n 1, 1), (1505, .aload_n 0, 1), (1506, .iload 4, 2), (1508, .iconst 1, 1), (1509, .iadd, 1), (1510, .iaload, 1), (1511, .aload_n 3, 1), (1512, .invokestatic 176, 3), (1515, .istore 5, 2), (1517, .aload_n 2, 1), (1518, .aload_n 0, 1), (1519, .iload 4, 2), (1521, .iconst 1, 1), (1522, .iadd, 1), (1523, .iaload, 1), (1524, .invokevirtual 178, 3), (1527, .istore 6, 2), (1529, .aload_n 2, 1), (1530, .invokevirtual 99, 3), (1533, .iload 5, 2), (1535, .if_icmp .eq 5, 3), (1538, .iconst 0, 1), (1539, .ireturn, 1), (1540, .iload 5, 2), (1542, .ifCond .ne 15, 3), (1545, .aload_n 3, 1), (1546, .iconst 0, 1), (1547, .laload, 1), (1548, .iload 6, 2), (1550, .i2l, 1), (1551, .lcmp, 1), (1552, .ifCond .eq 5, 3), (1555, .iconst 0, 1), (1556, .ireturn, 1), (1557, .goto 28, 3), (1560, .aload_n 1, 1), (1561, .aload_n 0, 1), (1562, .iload 4, 2), (1564, .iconst 1, 1), (1565, .iadd, 1), (1566, .iaload, 1), (1567, .invokevirtual 179, 3), (1570, .aload_n 2, 1), (1571, .aload_n 0, 1), (1572, .iload 4, 2), (1574, .iconst 1, 1), (1575, .iadd, 1), (1576, .iaload, 1), (1577, .invokevirtual 182, 3), (1580, .if_icmp .eq 5, 3), (1583, .iconst 0, 1), (1584, .ireturn, 1), (1585, .iinc 4 5, 3), (1588, .goto (-1565), 3), (1591, .iconst 1, 1), (1592, .ireturn, 1)]
def ex_p_L_law : List (Nat × Instr × Nat) := ex_p_L_law_0 ++ ex_p_L_law_1 ++ ex_p_L_law_2 ++ ex_p_L_law_3 ++ ex_p_L_law_4 ++ ex_p_L_law_5 ++ ex_p_L_law_6 ++ ex_p_L_law_7 ++ ex_p_L_law_8 ++ ex_p_L_law_9
def ex_m_L_law : ex_MD := (yL_law, cL_law, 7, (some .boolean), 6, none, 0, 0, 1, [], ex_p_L_law)
def ex_p_J7_fill_53178 : List (Nat × Instr × Nat) := [(0, .iconst 0, 1), (1, .istore_n 2, 1), (2, .aload_n 0, 1), (3, .arraylength, 1), (4, .istore_n 3, 1), (5, .iload_n 2, 1), (6, .iload_n 3, 1), (7, .if_icmp .ge 13, 3), (10, .aload_n 0, 1), (11, .iload_n 2, 1), (12, .iload_n 1, 1), (13, .iastore, 1), (14, .iinc 2 1, 3), (17, .goto (-12), 3), (20, .return_, 1)]
def ex_m_J7_fill_53178 : ex_MD := (yJ7_fill_53178, cJ7_fill_53178, 4, none, 7, none, 0, 0, 2, [], ex_p_J7_fill_53178)
def ex_mds : List ex_MD := [ex_m_X0_fall, ex_m_X0_stage, ex_m_X0_freeHands, ex_m_X0_launch, ex_m_X0_pass, ex_m_X0_passOne, ex_m_X0_stumble, ex_m_X0_strike, ex_m_X0_thoseThatStand, ex_m_X0_stopThose, ex_m_X1_makePlan, ex_m_X1_fitsHands, ex_m_X1_sortByNeed, ex_m_X1_sortByWorth, ex_m_X1_isWorthMore, ex_m_X1_explore, ex_m_X1_hope, ex_m_X1_earliest, ex_m_X1_isOutdone, ex_m_X1_occupy, ex_m_X1_awayBy, ex_m_X1_keyOf, ex_m_X1_shiftOf, ex_m_X1_isLess, ex_m_X2_addStore, ex_m_X2_addCopy, ex_m_X2_setTorn, ex_m_X2_addLetter, ex_m_X2_addChange, ex_m_X2_greatestUpTo, ex_m_X2_choose, ex_m_X2_isGotButNotSent, ex_m_X2_changesBehind, ex_m_X3_addWork, ex_m_X3_addNeed, ex_m_X3_everyWork, ex_m_X3_canBeThin, ex_m_X3_thoseThatCan, ex_m_X3_needsOf, ex_m_X3_needsOfAll, ex_m_X3_reachOf, ex_m_X3_leastSteps, ex_m_X3_inRings, ex_m_X3_hasRing, ex_m_X3_cheapestCut, ex_m_X3_costOf, ex_m_X4_work, ex_m_X4_need, ex_m_X4_hangs, ex_m_X4_steps, ex_m_X4_rings, ex_m_X4_cut, ex_m_X4_store, ex_m_X4_copy, ex_m_X4_torn, ex_m_X4_letter, ex_m_X4_change, ex_m_X4_together, ex_m_X4_state, ex_m_X4_lost, ex_m_X4_plan, ex_m_X4_begins, ex_m_X4_night, ex_m_X4_begin, ex_m_X4_tick, ex_m_X4_fail, ex_m_X4_blow, ex_m_X4_look, ex_m_X4_now, ex_m_X4_count, ex_m_X4_endPlanAndNight, ex_m_X4_isWithin, ex_m_X4_requireWork, ex_m_X4_requireStore, ex_m_X4_requireTick, ex_m_X4_requireHands, ex_m_X4_requireNight, ex_m_X5_thrown, ex_m_X5_throwsIf, ex_m_X5_in, ex_m_X5_noWork, ex_m_X5_ends, ex_m_X5_work, ex_m_X5_need, ex_m_X5_canBeThin, ex_m_X5_counts, ex_m_X5_measures, ex_m_X5_hangs, ex_m_X5_steps, ex_m_X5_ringsOf, ex_m_X5_rings, ex_m_X5_cut, ex_m_X5_noStore, ex_m_X5_isTick, ex_m_X5_store, ex_m_X5_copy, ex_m_X5_torn, ex_m_X5_letter, ex_m_X5_change, ex_m_X5_upTo, ex_m_X5_chooses, ex_m_X5_together, ex_m_X5_state, ex_m_X5_lost, ex_m_X5_earliest, ex_m_X5_firstFree, ex_m_X5_isReady, ex_m_X5_isBetter, ex_m_X5_seeks, ex_m_X5_plan, ex_m_X5_begins, ex_m_X5_night, ex_m_X5_free, ex_m_X5_stands, ex_m_X5_begin, ex_m_X5_tick, ex_m_X5_fail, ex_m_X5_falls, ex_m_X5_blow, ex_m_X5_look, ex_m_X5_now, ex_m_X5_count, ex_m_L_work, ex_m_L_need, ex_m_L_hangs, ex_m_L_steps, ex_m_L_store, ex_m_L_copy, ex_m_L_torn, ex_m_L_letter, ex_m_L_change, ex_m_L_state, ex_m_L_lost, ex_m_L_plan, ex_m_L_begins, ex_m_L_night, ex_m_L_begin, ex_m_L_tick, ex_m_L_fail, ex_m_L_blow, ex_m_L_look, ex_m_L_now, ex_m_L_law, ex_m_J7_fill_53178]
end
section
/-! ===== the pure machine ===== -/
/-- ints, longs, rows of ints (and of booleans), rows of longs: by their numbers -/
abbrev ex_S : Type := (Nat → Int32) × (Nat → Int64) × (Nat → Nat → Int32) × (Nat → Nat → Int64)
/-- an answer, or the name of what was thrown -/
abbrev ex_O : Type := Option Value ⊕ String
/-- pc, locals, stack, state, cells that may be made -/
abbrev ex_Q : Type := Nat × List Value × List Value × ex_S × Nat
def ex_sF (σ : ex_S) (i : Nat) (v : Int32) : ex_S := (upd σ.1 i v, σ.2)
def ex_sG (σ : ex_S) (i : Nat) (v : Int64) : ex_S := (σ.1, vp_updL σ.2.1 i v, σ.2.2)
def ex_row (σ : ex_S) (a : Nat) (f : Nat → Int32) : ex_S := (σ.1, σ.2.1, fun k => if k = a then f else σ.2.2.1 k, σ.2.2.2)
def ex_sA (σ : ex_S) (a i : Nat) (v : Int32) : ex_S := ex_row σ a (upd (σ.2.2.1 a) i v)
def ex_sB (σ : ex_S) (a i : Nat) (v : Int64) : ex_S := (σ.1, σ.2.1, σ.2.2.1, fun k => if k = a then vp_updL (σ.2.2.2 a) i v else σ.2.2.2 k)
/-- what a field holds, in the pure machine -/
def ex_fa (σ : ex_S) (q : Nat × Nat) : Value := match q.1 with
  | 0 => .int (σ.1 q.2)
  | 1 => .long (σ.2.1 q.2)
  | _ => .ref q.2
def ex_y (μ : ex_MD) : MethodName := μ.1
def ex_bytes (μ : ex_MD) : ByteArray := μ.2.1
def ex_maxL (μ : ex_MD) : Nat := μ.2.2.1
def ex_ret (μ : ex_MD) : Option FieldType := μ.2.2.2.1
def ex_K (μ : ex_MD) : Nat := μ.2.2.2.2.1
def ex_hh (μ : ex_MD) : Option (List (Nat × Nat × Nat × Nat)) := μ.2.2.2.2.2.1
def ex_mc (μ : ex_MD) : Nat := μ.2.2.2.2.2.2.1
def ex_inst (μ : ex_MD) : Nat := μ.2.2.2.2.2.2.2.1
def ex_np (μ : ex_MD) : Nat := μ.2.2.2.2.2.2.2.2.1
def ex_lg (μ : ex_MD) : List Nat := μ.2.2.2.2.2.2.2.2.2.1
def ex_prog (μ : ex_MD) : List (Nat × Instr × Nat) := μ.2.2.2.2.2.2.2.2.2.2
def ex_find {α : Type} : List (Nat × α) → Nat → Option α
  | [], _ => none
  | (k, a) :: t, n => if k == n then some a else ex_find t n
def ex_at (μ : ex_MD) (pc : Nat) : Option (Instr × Nat) := ex_find (ex_prog μ) pc
def ex_md (M : Nat) : Option ex_MD := ex_mds[M]?
def ex_p1 (st : List Value) (k : Int32 → List Value → Prop) : Prop := match st with
  | .int x :: r => k x r
  | _ => False
def ex_p2 (st : List Value) (k : Int32 → Int32 → List Value → Prop) : Prop := match st with
  | .int y :: .int x :: r => k x y r
  | _ => False
def ex_pl (st : List Value) (k : Int64 → List Value → Prop) : Prop := match st with
  | .long x :: r => k x r
  | _ => False
def ex_pll (st : List Value) (k : Int64 → Int64 → List Value → Prop) : Prop := match st with
  | .long y :: .long x :: r => k x y r
  | _ => False
def ex_pli (st : List Value) (k : Int64 → Int32 → List Value → Prop) : Prop := match st with
  | .int y :: .long x :: r => k x y r
  | _ => False
def ex_pr (st : List Value) (k : Nat → List Value → Prop) : Prop := match st with
  | .ref a :: r => k a r
  | _ => False
/-- a row and a place in it -/
def ex_pa (st : List Value) (k : Nat → Int32 → List Value → Prop) : Prop := match st with
  | .int i :: .ref a :: r => k a i r
  | _ => False
def ex_pai (st : List Value) (k : Nat → Int32 → Int32 → List Value → Prop) : Prop := match st with
  | .int v :: .int i :: .ref a :: r => k a i v r
  | _ => False
def ex_pal (st : List Value) (k : Nat → Int32 → Int64 → List Value → Prop) : Prop := match st with
  | .long v :: .int i :: .ref a :: r => k a i v r
  | _ => False
def ex_jmp (pc : Nat) (off : Int) (k : Nat → Prop) : Prop := match (pc : Int) + off with
  | .ofNat t => k t
  | .negSucc _ => False
def ex_br (c : ClassFile.Cond) (x y : Int32) (A B : Prop) : Prop := match c with
  | .eq => if x = y then A else B
  | .ne => if x = y then B else A
  | .lt => if x < y then A else B
  | .ge => if y ≤ x then A else B
  | .gt => if y < x then A else B
  | .le => if x ≤ y then A else B
def ex_ldI (lv : List Value) (i : Nat) (k : Int32 → Prop) : Prop := match lv[i]? with
  | some (.int x) => k x
  | _ => False
def ex_ldL (lv : List Value) (i : Nat) (k : Int64 → Prop) : Prop := match lv[i]? with
  | some (.long x) => k x
  | _ => False
def ex_ldR (lv : List Value) (i : Nat) (k : Nat → Prop) : Prop := match lv[i]? with
  | some (.ref x) => k x
  | _ => False
/-- a place that may be stored to: it is there, and isn't a long's second half -/
def ex_can (lg : List Nat) (n i : Nat) : Bool := Nat.blt i n && !lg.contains i
def ex_put (lg : List Nat) (lv : List Value) (i : Nat) (v : Value) (k : List Value → Prop) : Prop := match ex_can lg lv.length i with
  | true => k (lv.set i v)
  | false => False
def ex_getf (K idx a : Nat) (σ : ex_S) (k : Value → Prop) : Prop := match ex_find (ex_fld K) idx with
  | some (ci, j, _) => match ex_lay[a]? with
    | some (.inr (cj, fs)) => if cj = ci then (match fs[j]? with
      | some q => k (ex_fa σ q)
      | none => False) else False
    | _ => False
  | none => False
def ex_bool (v : Int32) : Prop := v = 0 ∨ v = 1
/-- a field is set: which (tag, number) it is, and whether it is a boolean -/
def ex_putf (K idx a : Nat) (k : Nat → Nat → Bool → Prop) : Prop := match ex_find (ex_fld K) idx with
  | some (ci, j, _) => match ex_lay[a]? with
    | some (.inr (cj, fs)) => if cj = ci then (match fs[j]? with
      | some (0, n) => (match ex_cl[ci]? with
        | some q => if (q.2.1 j).2.2.2 then False else if (q.2.1 j).2.2.1 == "I" then k 0 n false else if (q.2.1 j).2.2.1 == "Z" then k 0 n true else False
        | none => False)
      | some (1, n) => (match ex_cl[ci]? with
        | some q => if (q.2.1 j).2.2.2 then False else if (q.2.1 j).2.2.1 == "J" then k 1 n false else False
        | none => False)
      | _ => False) else False
    | _ => False
  | none => False
def ex_arr (kind a : Nat) (k : Nat → Nat → Prop) : Prop := match ex_lay[a]? with
  | some (.inl (kd, n, id)) => if kd = kind then k n id else False
  | _ => False
/-- a row of ints of the world, or the script -/
def ex_ild (X : Option (Nat × (Nat → Int32))) (a : Nat) (i : Int32) (σ : ex_S) (k : Int32 → Prop) : Prop := match a with
  | 999 => (match X with
    | some (L, xs) => vp_in i L ∧ k (xs i.toNatClampNeg)
    | none => False)
  | a => ex_arr 0 a (fun n id => vp_in i n ∧ k (σ.2.2.1 id i.toNatClampNeg))
def ex_len (X : Option (Nat × (Nat → Int32))) (a : Nat) (k : Int32 → Prop) : Prop := match a with
  | 999 => (match X with
    | some (L, _) => k (Int32.ofNat L)
    | none => False)
  | a => (match ex_lay[a]? with
    | some (.inl (_, n, _)) => k (Int32.ofNat n)
    | _ => False)
/-- 'throw new E("text")' begins here -/
def ex_site (μ : ex_MD) (pc ik : Nat) : Option String := match ex_at μ (pc + 3), ex_at μ (pc + 4), ex_at μ (pc + 6), ex_at μ (pc + 9) with
  | some (.dup, 1), some (.ldc s, 2), some (.invokespecial ic, 3), some (.athrow, 1) => ((ex_thr (ex_K μ)).find? (fun q => q.1 == ik && q.2.1 == s && q.2.2.1 == ic)).map (fun q => q.2.2.2.1)
  | _, _, _, _ => none
def ex_room (st : List Value) : Bool := Nat.ble ((st.map fun v => v.category).sum) 8
/-- the first row of the table that covers pc and names what was thrown; rows ahead that cover it name others -/
def ex_hnd (K pc : Nat) (x : String) : List (Nat × Nat × Nat × Nat) → Option Nat
  | [] => none
  | (a, b, h, t) :: r => if Nat.ble a pc && Nat.blt pc b then (match ex_find (ex_cat K) t with
    | some n => if n == x then some h else ex_hnd K pc x r
    | none => none) else ex_hnd K pc x r
def ex_pay (mc b : Nat) (k : Nat → Prop) : Prop := match mc with
  | 0 => k b
  | _ => mc ≤ b ∧ k (b - mc)
/-- behind a call that has thrown x -/
def ex_exc (μ : ex_MD) (pc : Nat) (lv : List Value) (x : String) (k : Nat → List Value → List Value → Prop) (out : Prop) : Prop := match ex_hh μ with
  | none => out
  | some hh => (match ex_hnd (ex_K μ) pc x hh with
    | some h => (match ex_at μ h with
      | some (.astore_n i, 1) => ex_put (ex_lg μ) lv i (.retAddr 0) (fun lv' => k (h + 1) lv' [])
      | some (.astore i, 2) => ex_put (ex_lg μ) lv i (.retAddr 0) (fun lv' => k (h + 2) lv' [])
      | _ => False)
    | none => False)
def ex_kn : Value → Bool
  | .int _ => true
  | .long _ => true
  | .ref _ => true
  | _ => false
def ex_args : List Value → List Value
  | [] => []
  | .long x :: t => .long x :: .retAddr 0 :: ex_args t
  | v :: t => v :: ex_args t
/-- arguments that fit the method's places -/
def ex_argok (μ : ex_MD) (a : List Value) : Bool := a.all ex_kn && Nat.ble (ex_args a).length (ex_maxL μ) && (List.range (ex_args a).length).all (fun i => match (ex_args a)[i]? with
  | some (.long _) => (ex_lg μ).contains (i + 1)
  | _ => true)
/-- is the first argument of an instance method an object of its class -/
def ex_self (μ : ex_MD) (a : List Value) : Bool := ex_argok μ a && match ex_inst μ with
  | 0 => a.length == ex_np μ
  | _ => a.length == ex_np μ + 1 && (match a with
    | .ref r :: _ => (match ex_lay[r]? with
      | some (.inr (ci, _)) => ci == ex_K μ
      | _ => false)
    | _ => false)
def ex_call (C : Nat → List Value → ex_S → (ex_O → ex_S → Prop) → Prop) (μ : ex_MD) (inst idx pc : Nat) (lv st : List Value) (σ : ex_S) (b : Nat) (P : ex_Q → Prop) (E : ex_O → ex_S → Prop) : Prop := match ex_find (ex_cal (ex_K μ)) idx with
  | some M => (match ex_md M with
    | some ν => if inst = ex_inst ν then (match ex_self ν (st.take (ex_np ν + inst)).reverse, ex_room (st.drop (ex_np ν + inst)) with
      | true, true => ex_pay (ex_mc ν) b (fun b' => C M (st.take (ex_np ν + inst)).reverse σ (fun o σ' => match o with
        | .inl v => P (pc + 3, lv, v.toList ++ st.drop (ex_np ν + inst), σ', b')
        | .inr x => ex_exc μ pc lv x (fun pc' lv' st' => P (pc', lv', st', σ', b')) (E (.inr x) σ')))
      | _, _ => False) else False
    | none => False)
  | none => False
/-- System.arraycopy(a0, 0, a1, 0, n) of two rows of ints: the only native -/
def ex_copy (st : List Value) (σ : ex_S) (k : List Value → ex_S → Prop) : Prop := match st with
  | .int n :: .int dp :: .ref a1 :: .int sp :: .ref a0 :: r => (match ex_room r with
    | true => ex_arr 0 a0 (fun n0 i0 => ex_arr 0 a1 (fun n1 i1 => ¬ sp < 0 ∧ ¬ dp < 0 ∧ ¬ n < 0 ∧ sp.toNatClampNeg + n.toNatClampNeg ≤ n0 ∧ dp.toNatClampNeg + n.toNatClampNeg ≤ n1 ∧ k r (ex_row σ i1 (va_cpy (σ.2.2.1 i0) (σ.2.2.1 i1) sp.toNatClampNeg dp.toNatClampNeg n.toNatClampNeg))))
    | false => False)
  | _ => False
def ex_ins (X : Option (Nat × (Nat → Int32))) (C : Nat → List Value → ex_S → (ex_O → ex_S → Prop) → Prop) (μ : ex_MD) (ins : Instr) (len pc : Nat) (lv st : List Value) (σ : ex_S) (b : Nat) (P : ex_Q → Prop) (E : ex_O → ex_S → Prop) : Prop := match ins with
  | .iconst i => P (pc + len, lv, .int (Int32.ofInt i) :: st, σ, b)
  | .bipush i => P (pc + len, lv, .int (Int8.ofInt i).toInt32 :: st, σ, b)
  | .sipush i => P (pc + len, lv, .int (Int16.ofInt i).toInt32 :: st, σ, b)
  | .lconst i => P (pc + len, lv, .long (Int64.ofNat (i : Nat)) :: st, σ, b)
  | .ldc idx => (match ex_find (ex_cst (ex_K μ)) idx with
    | some v => P (pc + len, lv, .int v :: st, σ, b)
    | none => False)
  | .iload_n i => ex_ldI lv i (fun x => P (pc + len, lv, .int x :: st, σ, b))
  | .iload i => ex_ldI lv i (fun x => P (pc + len, lv, .int x :: st, σ, b))
  | .lload_n i => ex_ldL lv i (fun x => P (pc + len, lv, .long x :: st, σ, b))
  | .lload i => ex_ldL lv i (fun x => P (pc + len, lv, .long x :: st, σ, b))
  | .aload_n i => ex_ldR lv i (fun x => P (pc + len, lv, .ref x :: st, σ, b))
  | .aload i => ex_ldR lv i (fun x => P (pc + len, lv, .ref x :: st, σ, b))
  | .istore_n i => ex_p1 st (fun x r => ex_put (ex_lg μ) lv i (.int x) (fun lv' => P (pc + len, lv', r, σ, b)))
  | .istore i => ex_p1 st (fun x r => ex_put (ex_lg μ) lv i (.int x) (fun lv' => P (pc + len, lv', r, σ, b)))
  | .iinc i n => ex_ldI lv i (fun x => ex_put (ex_lg μ) lv i (.int (x + Int32.ofInt n)) (fun lv' => P (pc + len, lv', st, σ, b)))
  | .iadd => ex_p2 st (fun x y r => P (pc + len, lv, .int (x + y) :: r, σ, b))
  | .isub => ex_p2 st (fun x y r => P (pc + len, lv, .int (x - y) :: r, σ, b))
  | .imul => ex_p2 st (fun x y r => P (pc + len, lv, .int (x * y) :: r, σ, b))
  | .iand => ex_p2 st (fun x y r => P (pc + len, lv, .int (x &&& y) :: r, σ, b))
  | .ior => ex_p2 st (fun x y r => P (pc + len, lv, .int (x ||| y) :: r, σ, b))
  | .ixor => ex_p2 st (fun x y r => P (pc + len, lv, .int (x ^^^ y) :: r, σ, b))
  | .ishl => ex_p2 st (fun x y r => P (pc + len, lv, .int (x <<< (y &&& 31)) :: r, σ, b))
  | .ishr => ex_p2 st (fun x y r => P (pc + len, lv, .int (x >>> (y &&& 31)) :: r, σ, b))
  | .ineg => ex_p1 st (fun x r => P (pc + len, lv, .int (-x) :: r, σ, b))
  | .ladd => ex_pll st (fun x y r => P (pc + len, lv, .long (x + y) :: r, σ, b))
  | .lshl => ex_pli st (fun x y r => P (pc + len, lv, .long (x <<< (y.toInt64 &&& 63)) :: r, σ, b))
  | .lshr => ex_pli st (fun x y r => P (pc + len, lv, .long (x >>> (y.toInt64 &&& 63)) :: r, σ, b))
  | .lcmp => ex_pll st (fun x y r => P (pc + len, lv, .int (lg_cmp x y) :: r, σ, b))
  | .i2l => ex_p1 st (fun x r => P (pc + len, lv, .long x.toInt64 :: r, σ, b))
  | .l2i => ex_pl st (fun x r => P (pc + len, lv, .int x.toInt32 :: r, σ, b))
  | .dup => (match st with
    | .int x :: r => P (pc + len, lv, .int x :: .int x :: r, σ, b)
    | .ref x :: r => P (pc + len, lv, .ref x :: .ref x :: r, σ, b)
    | _ => False)
  | .dup2 => ex_pa st (fun a i r => P (pc + len, lv, .int i :: .ref a :: .int i :: .ref a :: r, σ, b))
  | .goto off => ex_jmp pc off (fun t => P (t, lv, st, σ, b))
  | .if_icmp c off => ex_p2 st (fun x y r => ex_jmp pc off (fun t => ex_br c x y (P (t, lv, r, σ, b)) (P (pc + len, lv, r, σ, b))))
  | .ifCond c off => ex_p1 st (fun x r => ex_jmp pc off (fun t => ex_br c x 0 (P (t, lv, r, σ, b)) (P (pc + len, lv, r, σ, b))))
  | .tableswitch dflt lo hi offs => ex_p1 st (fun x r => if x.toInt < lo ∨ hi < x.toInt then ex_jmp pc dflt (fun t => P (t, lv, r, σ, b)) else (match offs[(x.toInt - lo).toNat]? with
    | some off => ex_jmp pc off (fun t => P (t, lv, r, σ, b))
    | none => False))
  | .getfield idx => ex_pr st (fun a r => ex_getf (ex_K μ) idx a σ (fun v => P (pc + len, lv, v :: r, σ, b)))
  | .putfield idx => (match st with
    | .int v :: .ref a :: r => ex_putf (ex_K μ) idx a (fun tag n z => match tag, z with
      | 0, false => P (pc + len, lv, r, ex_sF σ n v, b)
      | 0, true => ex_bool v ∧ P (pc + len, lv, r, ex_sF σ n v, b)
      | _, _ => False)
    | .long v :: .ref a :: r => ex_putf (ex_K μ) idx a (fun tag n z => match tag, z with
      | 1, false => P (pc + len, lv, r, ex_sG σ n v, b)
      | _, _ => False)
    | _ => False)
  | .iaload => ex_pa st (fun a i r => ex_ild X a i σ (fun v => P (pc + len, lv, .int v :: r, σ, b)))
  | .baload => ex_pa st (fun a i r => ex_arr 1 a (fun n id => vp_in i n ∧ P (pc + len, lv, .int (σ.2.2.1 id i.toNatClampNeg) :: r, σ, b)))
  | .laload => ex_pa st (fun a i r => ex_arr 2 a (fun n id => vp_in i n ∧ P (pc + len, lv, .long (σ.2.2.2 id i.toNatClampNeg) :: r, σ, b)))
  | .iastore => ex_pai st (fun a i v r => ex_arr 0 a (fun n id => vp_in i n ∧ P (pc + len, lv, r, ex_sA σ id i.toNatClampNeg v, b)))
  | .bastore => ex_pai st (fun a i v r => ex_arr 1 a (fun n id => vp_in i n ∧ ex_bool v ∧ P (pc + len, lv, r, ex_sA σ id i.toNatClampNeg v, b)))
  | .lastore => ex_pal st (fun a i v r => ex_arr 2 a (fun n id => vp_in i n ∧ P (pc + len, lv, r, ex_sB σ id i.toNatClampNeg v, b)))
  | .arraylength => ex_pr st (fun a r => ex_len X a (fun v => P (pc + len, lv, .int v :: r, σ, b)))
  | .invokevirtual idx => ex_call C μ 1 idx pc lv st σ b P E
  | .invokestatic idx => (match ex_find (ex_nat (ex_K μ)) idx with
    | none => ex_call C μ 0 idx pc lv st σ b P E
    | some 1 => ex_copy st σ (fun r σ' => P (pc + 3, lv, r, σ', b))
    | some 2 => ex_p2 st (fun x y r => match ex_room r with
      | true => P (pc + 3, lv, .int (if x < y then y else x) :: r, σ, b)
      | false => False)
    | some 3 => ex_p2 st (fun x y r => match ex_room r with
      | true => P (pc + 3, lv, .int (if y < x then y else x) :: r, σ, b)
      | false => False)
    | _ => False)
  | .new ik => (match ex_site μ pc ik, ex_room st with
    | some x, true => 1 ≤ b ∧ E (.inr x) σ
    | _, _ => False)
  | .ireturn => (match st with
    | [.int v] => (match ex_ret μ with
      | some .int => E (.inl (some (.int v))) σ
      | some .boolean => ex_bool v ∧ E (.inl (some (.int v))) σ
      | _ => False)
    | _ => False)
  | .lreturn => (match st with
    | [.long v] => (match ex_ret μ with
      | some .long => E (.inl (some (.long v))) σ
      | _ => False)
    | _ => False)
  | .return_ => (match st with
    | [] => (match ex_ret μ with
      | none => E (.inl none) σ
      | _ => False)
    | _ => False)
  | _ => False
def ex_stp (X : Option (Nat × (Nat → Int32))) (C : Nat → List Value → ex_S → (ex_O → ex_S → Prop) → Prop) (μ : ex_MD) (E : ex_O → ex_S → Prop) (P : ex_Q → Prop) (q : ex_Q) : Prop := match ex_at μ q.1 with
  | some (ins, len) => ex_ins X C μ ins len q.1 q.2.1 q.2.2.1 q.2.2.2.1 q.2.2.2.2 P E
  | none => False
/-- a run from q comes to an end that E takes: the least such -/
def ex_R (X : Option (Nat × (Nat → Int32))) (C : Nat → List Value → ex_S → (ex_O → ex_S → Prop) → Prop) (μ : ex_MD) (E : ex_O → ex_S → Prop) (q : ex_Q) : Prop := ∀ P : ex_Q → Prop, (∀ q, ex_stp X C μ E P q → P q) → P q
def ex_pad (n : Nat) (l : List Value) : List Value := l ++ List.replicate (n - l.length) (.retAddr 0)
/-- method M, called with these arguments, by at most d frames more -/
def ex_C : Nat → Nat → List Value → ex_S → (ex_O → ex_S → Prop) → Prop
  | 0, _, _, _, _ => False
  | d + 1, M, a, σ, E => match ex_md M with
    | some μ => ex_R none (ex_C d) μ E (0, ex_pad (ex_maxL μ) (ex_args a), [], σ, ex_mc μ)
    | none => False
end
section
/-! ===== the pure machine: what holds of more holds of less ===== -/
section EXM
theorem ex_p1_m {st : List Value} {k k' : Int32 → List Value → Prop} (h : ∀ x r, k x r → k' x r) : ex_p1 st k → ex_p1 st k' := by
  unfold ex_p1; split
  · exact h _ _
  · exact id
theorem ex_p2_m {st : List Value} {k k' : Int32 → Int32 → List Value → Prop} (h : ∀ x y r, k x y r → k' x y r) : ex_p2 st k → ex_p2 st k' := by
  unfold ex_p2; split
  · exact h _ _ _
  · exact id
theorem ex_pl_m {st : List Value} {k k' : Int64 → List Value → Prop} (h : ∀ x r, k x r → k' x r) : ex_pl st k → ex_pl st k' := by
  unfold ex_pl; split
  · exact h _ _
  · exact id
theorem ex_pll_m {st : List Value} {k k' : Int64 → Int64 → List Value → Prop} (h : ∀ x y r, k x y r → k' x y r) : ex_pll st k → ex_pll st k' := by
  unfold ex_pll; split
  · exact h _ _ _
  · exact id
theorem ex_pli_m {st : List Value} {k k' : Int64 → Int32 → List Value → Prop} (h : ∀ x y r, k x y r → k' x y r) : ex_pli st k → ex_pli st k' := by
  unfold ex_pli; split
  · exact h _ _ _
  · exact id
theorem ex_pr_m {st : List Value} {k k' : Nat → List Value → Prop} (h : ∀ x r, k x r → k' x r) : ex_pr st k → ex_pr st k' := by
  unfold ex_pr; split
  · exact h _ _
  · exact id
theorem ex_pa_m {st : List Value} {k k' : Nat → Int32 → List Value → Prop} (h : ∀ x y r, k x y r → k' x y r) : ex_pa st k → ex_pa st k' := by
  unfold ex_pa; split
  · exact h _ _ _
  · exact id
theorem ex_pai_m {st : List Value} {k k' : Nat → Int32 → Int32 → List Value → Prop} (h : ∀ x y z r, k x y z r → k' x y z r) : ex_pai st k → ex_pai st k' := by
  unfold ex_pai; split
  · exact h _ _ _ _
  · exact id
theorem ex_pal_m {st : List Value} {k k' : Nat → Int32 → Int64 → List Value → Prop} (h : ∀ x y z r, k x y z r → k' x y z r) : ex_pal st k → ex_pal st k' := by
  unfold ex_pal; split
  · exact h _ _ _ _
  · exact id
theorem ex_jmp_m {pc : Nat} {off : Int} {k k' : Nat → Prop} (h : ∀ t, k t → k' t) : ex_jmp pc off k → ex_jmp pc off k' := by
  unfold ex_jmp; split
  · exact h _
  · exact id
theorem ex_br_m {c : ClassFile.Cond} {x y : Int32} {A B A' B' : Prop} (h1 : A → A') (h2 : B → B') : ex_br c x y A B → ex_br c x y A' B' := by
  unfold ex_br; split <;> split <;> first | exact h1 | exact h2
theorem ex_ldI_m {lv : List Value} {i : Nat} {k k' : Int32 → Prop} (h : ∀ x, k x → k' x) : ex_ldI lv i k → ex_ldI lv i k' := by
  unfold ex_ldI; split
  · exact h _
  · exact id
theorem ex_ldL_m {lv : List Value} {i : Nat} {k k' : Int64 → Prop} (h : ∀ x, k x → k' x) : ex_ldL lv i k → ex_ldL lv i k' := by
  unfold ex_ldL; split
  · exact h _
  · exact id
theorem ex_ldR_m {lv : List Value} {i : Nat} {k k' : Nat → Prop} (h : ∀ x, k x → k' x) : ex_ldR lv i k → ex_ldR lv i k' := by
  unfold ex_ldR; split
  · exact h _
  · exact id
theorem ex_put_m {lg : List Nat} {lv : List Value} {i : Nat} {v : Value} {k k' : List Value → Prop} (h : ∀ x, k x → k' x) : ex_put lg lv i v k → ex_put lg lv i v k' := by
  unfold ex_put; split
  · exact h _
  · exact id
theorem ex_getf_m {K idx a : Nat} {σ : ex_S} {k k' : Value → Prop} (h : ∀ x, k x → k' x) : ex_getf K idx a σ k → ex_getf K idx a σ k' := by
  unfold ex_getf; split
  · split
    · split
      · split
        · exact h _
        · exact id
      · exact id
    · exact id
  · exact id
theorem ex_putf_m {K idx a : Nat} {k k' : Nat → Nat → Bool → Prop} (h : ∀ x y z, k x y z → k' x y z) : ex_putf K idx a k → ex_putf K idx a k' := by
  unfold ex_putf; split
  · split
    · split
      · split
        · split
          · split
            · exact id
            · split
              · exact h _ _ _
              · split
                · exact h _ _ _
                · exact id
          · exact id
        · split
          · split
            · exact id
            · split
              · exact h _ _ _
              · exact id
          · exact id
        · exact id
      · exact id
    · exact id
  · exact id
theorem ex_arr_m {kind a : Nat} {k k' : Nat → Nat → Prop} (h : ∀ x y, k x y → k' x y) : ex_arr kind a k → ex_arr kind a k' := by
  unfold ex_arr; split
  · split
    · exact h _ _
    · exact id
  · exact id
theorem ex_ild_m {X : Option (Nat × (Nat → Int32))} {a : Nat} {i : Int32} {σ : ex_S} {k k' : Int32 → Prop} (h : ∀ x, k x → k' x) : ex_ild X a i σ k → ex_ild X a i σ k' := by
  unfold ex_ild; split
  · split
    · exact fun q => ⟨q.1, h _ q.2⟩
    · exact id
  · exact ex_arr_m (fun n id q => ⟨q.1, h _ q.2⟩)
theorem ex_len_m {X : Option (Nat × (Nat → Int32))} {a : Nat} {k k' : Int32 → Prop} (h : ∀ x, k x → k' x) : ex_len X a k → ex_len X a k' := by
  unfold ex_len; split
  · split
    · exact h _
    · exact id
  · split
    · exact h _
    · exact id
theorem ex_pay_m {mc b : Nat} {k k' : Nat → Prop} (h : ∀ x, k x → k' x) : ex_pay mc b k → ex_pay mc b k' := by
  unfold ex_pay; split
  · exact h _
  · exact fun q => ⟨q.1, h _ q.2⟩
theorem ex_exc_m {μ : ex_MD} {pc : Nat} {lv : List Value} {x : String} {k k' : Nat → List Value → List Value → Prop} {o o' : Prop} (h : ∀ a b c, k a b c → k' a b c) (ho : o → o') : ex_exc μ pc lv x k o → ex_exc μ pc lv x k' o' := by
  unfold ex_exc; split
  · exact ho
  · split
    · split
      · exact ex_put_m (fun _ => h _ _ _)
      · exact ex_put_m (fun _ => h _ _ _)
      · exact id
    · exact id
abbrev ex_CT : Type := Nat → List Value → ex_S → (ex_O → ex_S → Prop) → Prop
theorem ex_call_m {C C' : ex_CT} {μ : ex_MD} {inst idx pc : Nat} {lv st : List Value} {σ : ex_S} {b : Nat} {P P' : ex_Q → Prop} {E E' : ex_O → ex_S → Prop} (hC : ∀ M a σ F F', (∀ o σ, F o σ → F' o σ) → C M a σ F → C' M a σ F') (hP : ∀ q, P q → P' q) (hE : ∀ o σ, E o σ → E' o σ) : ex_call C μ inst idx pc lv st σ b P E → ex_call C' μ inst idx pc lv st σ b P' E' := by
  unfold ex_call; split
  · split
    · split
      · split
        · refine ex_pay_m (fun b' => hC _ _ _ _ _ ?_)
          intro o σ'
          cases o with
          | inl v => exact hP _
          | inr x => exact ex_exc_m (fun _ _ _ => hP _) (hE _ _)
        · exact id
      · exact id
    · exact id
  · exact id
theorem ex_copy_m {st : List Value} {σ : ex_S} {k k' : List Value → ex_S → Prop} (h : ∀ r σ, k r σ → k' r σ) : ex_copy st σ k → ex_copy st σ k' := by
  unfold ex_copy; split
  · split
    · exact ex_arr_m (fun _ _ => ex_arr_m (fun _ _ q => ⟨q.1, q.2.1, q.2.2.1, q.2.2.2.1, q.2.2.2.2.1, h _ _ q.2.2.2.2.2⟩))
    · exact id
  · exact id
theorem ex_ins_m {X : Option (Nat × (Nat → Int32))} {C C' : ex_CT} {μ : ex_MD} {ins : Instr} {len pc : Nat} {lv st : List Value} {σ : ex_S} {b : Nat} {P P' : ex_Q → Prop} {E E' : ex_O → ex_S → Prop} (hC : ∀ M a σ F F', (∀ o σ, F o σ → F' o σ) → C M a σ F → C' M a σ F') (hP : ∀ q, P q → P' q) (hE : ∀ o σ, E o σ → E' o σ) : ex_ins X C μ ins len pc lv st σ b P E → ex_ins X C' μ ins len pc lv st σ b P' E' := by
  cases ins
  case iconst => exact hP _
  case bipush => exact hP _
  case sipush => exact hP _
  case lconst => exact hP _
  case ldc => 
    simp only [ex_ins]; split
    · exact hP _
    · exact id
  case iload_n => exact ex_ldI_m (fun _ => hP _)
  case iload => exact ex_ldI_m (fun _ => hP _)
  case lload_n => exact ex_ldL_m (fun _ => hP _)
  case lload => exact ex_ldL_m (fun _ => hP _)
  case aload_n => exact ex_ldR_m (fun _ => hP _)
  case aload => exact ex_ldR_m (fun _ => hP _)
  case istore_n => exact ex_p1_m (fun _ _ => ex_put_m (fun _ => hP _))
  case istore => exact ex_p1_m (fun _ _ => ex_put_m (fun _ => hP _))
  case iinc => exact ex_ldI_m (fun _ => ex_put_m (fun _ => hP _))
  case iadd => exact ex_p2_m (fun _ _ _ => hP _)
  case isub => exact ex_p2_m (fun _ _ _ => hP _)
  case imul => exact ex_p2_m (fun _ _ _ => hP _)
  case iand => exact ex_p2_m (fun _ _ _ => hP _)
  case ior => exact ex_p2_m (fun _ _ _ => hP _)
  case ixor => exact ex_p2_m (fun _ _ _ => hP _)
  case ishl => exact ex_p2_m (fun _ _ _ => hP _)
  case ishr => exact ex_p2_m (fun _ _ _ => hP _)
  case ineg => exact ex_p1_m (fun _ _ => hP _)
  case ladd => exact ex_pll_m (fun _ _ _ => hP _)
  case lshl => exact ex_pli_m (fun _ _ _ => hP _)
  case lshr => exact ex_pli_m (fun _ _ _ => hP _)
  case lcmp => exact ex_pll_m (fun _ _ _ => hP _)
  case i2l => exact ex_p1_m (fun _ _ => hP _)
  case l2i => exact ex_pl_m (fun _ _ => hP _)
  case dup =>
    simp only [ex_ins]; split
    · exact hP _
    · exact hP _
    · exact id
  case dup2 => exact ex_pa_m (fun _ _ _ => hP _)
  case goto => exact ex_jmp_m (fun _ => hP _)
  case if_icmp => exact ex_p2_m (fun _ _ _ => ex_jmp_m (fun _ => ex_br_m (hP _) (hP _)))
  case ifCond => exact ex_p1_m (fun _ _ => ex_jmp_m (fun _ => ex_br_m (hP _) (hP _)))
  case tableswitch =>
    refine ex_p1_m (fun _ _ => ?_)
    split
    · exact ex_jmp_m (fun _ => hP _)
    · split
      · exact ex_jmp_m (fun _ => hP _)
      · exact id
  case getfield => exact ex_pr_m (fun _ _ => ex_getf_m (fun _ => hP _))
  case putfield =>
    simp only [ex_ins]; split
    · refine ex_putf_m (fun _ _ _ => ?_)
      split
      · exact hP _
      · exact fun q => ⟨q.1, hP _ q.2⟩
      · exact id
    · refine ex_putf_m (fun _ _ _ => ?_)
      split
      · exact hP _
      · exact id
    · exact id
  case iaload => exact ex_pa_m (fun _ _ _ => ex_ild_m (fun _ => hP _))
  case baload => exact ex_pa_m (fun _ _ _ => ex_arr_m (fun _ _ q => ⟨q.1, hP _ q.2⟩))
  case laload => exact ex_pa_m (fun _ _ _ => ex_arr_m (fun _ _ q => ⟨q.1, hP _ q.2⟩))
  case iastore => exact ex_pai_m (fun _ _ _ _ => ex_arr_m (fun _ _ q => ⟨q.1, hP _ q.2⟩))
  case bastore => exact ex_pai_m (fun _ _ _ _ => ex_arr_m (fun _ _ q => ⟨q.1, q.2.1, hP _ q.2.2⟩))
  case lastore => exact ex_pal_m (fun _ _ _ _ => ex_arr_m (fun _ _ q => ⟨q.1, hP _ q.2⟩))
  case arraylength => exact ex_pr_m (fun _ _ => ex_len_m (fun _ => hP _))
  case invokevirtual => exact ex_call_m hC hP hE
  case invokestatic =>
    simp only [ex_ins]; split
    · exact ex_call_m hC hP hE
    · exact ex_copy_m (fun _ _ => hP _)
    · refine ex_p2_m (fun _ _ _ => ?_)
      split
      · exact hP _
      · exact id
    · refine ex_p2_m (fun _ _ _ => ?_)
      split
      · exact hP _
      · exact id
    · exact id
  case new =>
    simp only [ex_ins]; split
    · exact fun q => ⟨q.1, hE _ _ q.2⟩
    · exact id
  case ireturn =>
    simp only [ex_ins]; split
    · split
      · exact hE _ _
      · exact fun q => ⟨q.1, hE _ _ q.2⟩
      · exact id
    · exact id
  case lreturn =>
    simp only [ex_ins]; split
    · split
      · exact hE _ _
      · exact id
    · exact id
  case return_ =>
    simp only [ex_ins]; split
    · split
      · exact hE _ _
      · exact id
    · exact id
  all_goals exact fun h => h.elim
theorem ex_stp_m {X : Option (Nat × (Nat → Int32))} {C C' : ex_CT} {μ : ex_MD} {P P' : ex_Q → Prop} {E E' : ex_O → ex_S → Prop} {q : ex_Q} (hC : ∀ M a σ F F', (∀ o σ, F o σ → F' o σ) → C M a σ F → C' M a σ F') (hP : ∀ q, P q → P' q) (hE : ∀ o σ, E o σ → E' o σ) : ex_stp X C μ E P q → ex_stp X C' μ E' P' q := by
  unfold ex_stp; split
  · exact ex_ins_m hC hP hE
  · exact id
theorem ex_R_m {X : Option (Nat × (Nat → Int32))} {C C' : ex_CT} {μ : ex_MD} {E E' : ex_O → ex_S → Prop} {q : ex_Q} (hC : ∀ M a σ F F', (∀ o σ, F o σ → F' o σ) → C M a σ F → C' M a σ F') (hE : ∀ o σ, E o σ → E' o σ) (h : ex_R X C μ E q) : ex_R X C' μ E' q :=
  fun P hP => h P (fun q hq => hP q (ex_stp_m hC (fun _ z => z) hE hq))
theorem ex_C_m : ∀ (d : Nat) (M : Nat) (a : List Value) (σ : ex_S) (F F' : ex_O → ex_S → Prop), (∀ o σ, F o σ → F' o σ) → ex_C d M a σ F → ex_C d M a σ F'
  | 0, _, _, _, _, _, _, h => h
  | d + 1, M, a, σ, F, F', hF, h => by
    unfold ex_C at h ⊢
    split at h
    · exact ex_R_m (ex_C_m d) hF h
    · exact h
theorem ex_C_s : ∀ (d : Nat) (M : Nat) (a : List Value) (σ : ex_S) (F F' : ex_O → ex_S → Prop), (∀ o σ, F o σ → F' o σ) → ex_C d M a σ F → ex_C (d + 1) M a σ F'
  | 0, _, _, _, _, _, _, h => h.elim
  | d + 1, M, a, σ, F, F', hF, h => by
    unfold ex_C at h ⊢
    split at h
    · exact ex_R_m (ex_C_s d) hF h
    · exact h
theorem ex_C_le {d d' : Nat} (hd : d ≤ d') {M : Nat} {a : List Value} {σ : ex_S} {F : ex_O → ex_S → Prop} (h : ex_C d M a σ F) : ex_C d' M a σ F := by
  induction hd with
  | refl => exact h
  | step _ ih => exact ex_C_s _ _ _ _ _ _ (fun _ _ z => z) ih
theorem ex_R_in {X : Option (Nat × (Nat → Int32))} {d : Nat} {μ : ex_MD} {E : ex_O → ex_S → Prop} {q : ex_Q} (h : ex_stp X (ex_C d) μ E (ex_R X (ex_C d) μ E) q) : ex_R X (ex_C d) μ E q :=
  fun P hP => hP q (ex_stp_m (ex_C_m d) (fun _ z => z P hP) (fun _ _ z => z) h)
theorem ex_R_out {X : Option (Nat × (Nat → Int32))} {d : Nat} {μ : ex_MD} {E : ex_O → ex_S → Prop} {q : ex_Q} (h : ex_R X (ex_C d) μ E q) : ex_stp X (ex_C d) μ E (ex_R X (ex_C d) μ E) q :=
  h (fun q => ex_stp X (ex_C d) μ E (ex_R X (ex_C d) μ E) q) (fun _ hq => ex_stp_m (ex_C_m d) (fun _ z => ex_R_in z) (fun _ _ z => z) hq)
theorem ex_Req (X : Option (Nat × (Nat → Int32))) (d : Nat) (μ : ex_MD) (E : ex_O → ex_S → Prop) (q : ex_Q) : ex_R X (ex_C d) μ E q = ex_stp X (ex_C d) μ E (ex_R X (ex_C d) μ E) q := propext ⟨ex_R_out, ex_R_in⟩
end EXM
end
section
/-! ===== the tables hold: words, lengths, layout ===== -/
set_option maxRecDepth 20000
def ex_tb : List Cond := lw_tbl.filter goodWord
/-- words that a world carries along: they don't stay by themselves -/
def ex_isn : Cond → Bool
  | .fieldLinkNest .. => true
  | .declares _ => true
  | .castable .. => true
  | _ => false
def ex_nw : List Cond := lw_tbl.filter ex_isn
/-- the word stands at this place of the table -/
def ex_wp (i : Nat) (w : Cond) : Bool := match lw_tbl[i]? with
  | some v => decide (v = w)
  | none => false
theorem ex_wp_in {i : Nat} {w : Cond} (h : ex_wp i w = true) : w ∈ lw_tbl := by
  unfold ex_wp at h
  split at h
  · rename_i v hv
    rw [← of_decide_eq_true h]
    exact List.mem_of_getElem? hv
  · cases h
theorem ex_wp_tb {i : Nat} {w : Cond} (h : (ex_wp i w && goodWord w) = true) : w ∈ ex_tb := by
  rw [Bool.and_eq_true] at h
  exact List.mem_filter.mpr ⟨ex_wp_in h.1, h.2⟩
theorem ex_wp_nw {i : Nat} {w : Cond} (h : (ex_wp i w && ex_isn w) = true) : w ∈ ex_nw := by
  rw [Bool.and_eq_true] at h
  exact List.mem_filter.mpr ⟨ex_wp_in h.1, h.2⟩
def ex_all2 {α β : Type} (f : α → β → Bool) : List α → List β → Bool
  | [], _ => true
  | _ :: _, [] => false
  | a :: l, b :: r => f a b && ex_all2 f l r
theorem ex_all2_at {α β : Type} {f : α → β → Bool} : ∀ {l : List α} {r : List β}, ex_all2 f l r = true → ∀ a ∈ l, ∃ b, f a b = true
  | [], _, _, _, h => nomatch h
  | _ :: _, [], h, _, _ => by simp [ex_all2] at h
  | a :: l, b :: r, h, x, hx => by
    simp only [ex_all2, Bool.and_eq_true] at h
    rcases List.mem_cons.mp hx with rfl | hx
    · exact ⟨b, h.1⟩
    · exact ex_all2_at h.2 x hx
def ex_cw (μ : ex_MD) : Cond := match ex_hh μ with
  | none => .code (ex_y μ) (ex_bytes μ) (ex_maxL μ) (ex_ret μ)
  | some hh => .codeWith (ex_y μ) (ex_bytes μ) (ex_maxL μ) (ex_ret μ) hh
def ex_lenok (ins : Instr) (len : Nat) : Bool := match ins with
  | .bipush _ | .ldc _ | .iload _ | .lload _ | .aload _ | .istore _ | .astore _ | .newarray _ => len == 2
  | .sipush _ | .iinc _ _ | .goto _ | .if_icmp _ _ | .ifCond _ _ | .getfield _ | .putfield _ | .invokevirtual _ | .invokestatic _ | .new _ | .invokespecial _ => len == 3
  | .tableswitch _ _ _ _ => true
  | _ => len == 1
def ex_okp (b : ByteArray) (l : List (Nat × Instr × Nat)) : Prop := ∀ q ∈ l, decode b q.1 = .ok (q.2.1, q.2.2) ∧ ex_lenok q.2.1 q.2.2 = true
def ex_okf (K : Nat) (q : Nat × Nat × Nat × Bool) (i : Nat) : Bool := match ex_cl[q.2.1]? with
  | some (_, T, N) => decide (q.2.2.1 < N) && (match q.2.2.2 with
    | true => ex_wp i (Cond.fieldLinkNest (ex_own K) q.1 (T q.2.2.1).1 (T q.2.2.1).2.1 (T q.2.2.1).2.2.1 "DarkDesk")
    | false => ex_wp i (Cond.fieldLink (ex_own K) q.1 (T q.2.2.1).1 (T q.2.2.1).2.1 (T q.2.2.1).2.2.1))
  | none => false
def ex_okc (K : Nat) (q : Nat × Nat) (i : Nat × Nat × Nat × Nat) : Bool := match ex_md q.2 with
  | some μ => ex_wp i.1 (Cond.methodLink (ex_own K) q.1 (ex_y μ)) && ex_wp i.2.1 (Cond.initialized (ex_y μ).cls) && (match ex_inst μ with
    | 0 => ex_wp i.2.2.1 (Cond.static (ex_y μ))
    | 1 => ex_wp i.2.2.1 (Cond.instanceMethod (ex_y μ)) && ex_wp i.2.2.2 (Cond.selects (ex_y μ).cls (ex_y μ) (ex_y μ)) && (match ex_cl[ex_K μ]? with
      | some z => z.1 == (ex_y μ).cls
      | none => false)
    | _ => false)
  | none => false
def ex_okm (μ : ex_MD) : Bool := plainName (ex_y μ).cls && (ex_y μ).cls != "java/lang/invoke/MethodHandle" && (ex_y μ).cls != "java/lang/invoke/VarHandle" && decide ((parseMethodDescriptor (ex_y μ).desc).map (fun d => d.parameters.length) = some (ex_np μ)) && Nat.ble (ex_maxL μ) 40 && (ex_own (ex_K μ) == (ex_y μ).cls)
def ex_fldw : Nat → List (Nat)
  | 0 => [232, 231, 234, 236, 237, 239, 241, 243, 244, 85, 74, 70, 79, 77]
  | 1 => [168, 169, 170, 171, 172, 173, 174, 175, 176, 167, 178, 180, 181, 182, 84, 73, 76, 71, 183, 184, 186, 185]
  | 2 => [112, 114, 115, 116, 117, 118, 119, 120, 121, 122, 123, 125, 127, 129]
  | 3 => [69, 72, 75, 78, 80, 81, 82, 87]
  | 4 => [265, 266, 267, 268, 83, 86, 126, 113, 128, 130, 124, 179, 177, 233, 245, 238, 240, 242, 235]
  | 5 => [827, 828, 829, 830, 832, 833, 834, 836, 837, 838, 839, 840, 842, 843, 844, 845, 847, 848, 850, 852, 853, 854, 862, 863, 864, 826, 831, 858, 851, 835, 841, 846, 849, 856, 855, 857, 859, 860, 861]
  | _ => []
def ex_calw : Nat → List (Nat × Nat × Nat × Nat)
  | 0 => [(698, 51, 637, 0), (731, 39, 287, 288), (732, 39, 299, 300), (733, 42, 734, 735), (749, 42, 751, 16), (775, 42, 777, 17), (779, 42, 781, 18)]
  | 1 => [(618, 41, 620, 5), (622, 39, 324, 325), (623, 41, 625, 6), (628, 41, 630, 7), (636, 51, 637, 0), (640, 41, 642, 9), (679, 39, 320, 321), (627, 39, 299, 300), (632, 41, 634, 8), (644, 41, 646, 10), (664, 41, 665, 0), (667, 39, 315, 316), (671, 41, 673, 13), (675, 41, 677, 14), (653, 41, 655, 12), (657, 41, 658, 0), (649, 41, 651, 11), (660, 41, 661, 0)]
  | 2 => [(336, 40, 337, 338), (346, 40, 348, 0)]
  | 3 => [(286, 39, 287, 288), (298, 39, 299, 300), (302, 39, 303, 304), (294, 39, 295, 296), (314, 39, 315, 316), (318, 39, 283, 284), (319, 39, 320, 321), (323, 39, 324, 325)]
  | 4 => [(363, 38, 364, 0), (452, 38, 454, 2), (456, 39, 457, 458), (468, 38, 470, 3), (490, 39, 491, 492), (501, 39, 295, 296), (509, 39, 510, 511), (282, 39, 283, 284), (290, 39, 291, 292), (310, 39, 311, 312), (521, 40, 522, 523), (532, 38, 534, 4), (537, 38, 538, 0), (544, 40, 545, 546), (556, 40, 557, 558), (569, 40, 570, 571), (581, 40, 582, 583), (331, 40, 332, 333), (599, 40, 600, 601), (610, 38, 611, 0), (614, 41, 615, 616), (694, 42, 695, 696), (707, 38, 709, 15), (727, 42, 728, 729), (745, 42, 746, 747), (760, 42, 761, 762), (771, 42, 772, 773), (791, 42, 792, 793), (818, 42, 734, 735)]
  | 5 => [(952, 43, 953, 0), (955, 43, 957, 19), (959, 43, 961, 20), (967, 43, 969, 21), (984, 43, 986, 24), (980, 43, 982, 23), (975, 43, 977, 22), (996, 43, 998, 25), (1012, 43, 1014, 26), (1016, 43, 1017, 0), (1040, 43, 1042, 28), (1036, 43, 1038, 27), (1074, 43, 1076, 33), (1062, 43, 1064, 30), (1066, 43, 1068, 31), (1070, 43, 1072, 32), (1058, 43, 1060, 29), (1090, 43, 1092, 34), (1094, 43, 1096, 35), (1110, 43, 1112, 36)]
  | 6 => [(359, 38, 360, 361), (464, 38, 465, 466), (497, 38, 498, 499), (505, 38, 506, 507), (516, 38, 517, 518), (528, 38, 529, 530), (551, 38, 552, 553), (563, 38, 564, 565), (576, 38, 577, 578), (588, 38, 589, 590), (595, 38, 596, 597), (606, 38, 607, 608), (683, 38, 684, 685), (690, 38, 691, 692), (703, 38, 704, 705), (740, 38, 741, 742), (756, 38, 757, 758), (767, 38, 768, 769), (787, 38, 788, 789), (814, 38, 815, 816), (354, 37, 355, 0), (948, 43, 949, 950), (944, 43, 945, 946), (460, 37, 461, 0), (963, 43, 964, 965), (494, 37, 495, 0), (971, 43, 972, 973), (502, 37, 503, 0), (988, 43, 989, 990), (278, 38, 279, 280), (992, 43, 993, 994), (306, 38, 307, 308), (1000, 43, 1001, 1002), (513, 37, 514, 0), (1004, 43, 1005, 1006), (525, 37, 526, 0), (1008, 43, 1009, 1010), (548, 37, 549, 0), (1020, 43, 1021, 1022), (560, 37, 561, 0), (1024, 43, 1025, 1026), (573, 37, 574, 0), (1028, 43, 1029, 1030), (327, 38, 328, 329), (1032, 43, 1033, 1034), (585, 37, 586, 0), (1046, 43, 1047, 1048), (592, 37, 593, 0), (1050, 43, 1051, 1052), (603, 37, 604, 0), (1054, 43, 1055, 1056), (680, 37, 681, 0), (1078, 43, 1079, 1080), (687, 37, 688, 0), (1082, 43, 1083, 1084), (699, 37, 700, 0), (1086, 43, 1087, 1088), (737, 37, 738, 0), (1098, 43, 1099, 1100), (753, 37, 754, 0), (1102, 43, 1103, 1104), (764, 37, 765, 0), (1106, 43, 1107, 1108), (783, 37, 784, 0), (1114, 43, 1115, 1116), (811, 37, 812, 0), (1118, 43, 1119, 1120), (350, 38, 351, 352), (1122, 43, 1123, 1124)]
  | _ => []
def ex_natw : Nat → List (Nat)
  | 1 => [668, 648, 663]
  | 2 => [340, 343]
  | 5 => [1044, 1045]
  | _ => []
def ex_natn : Nat → MethodName
  | 1 => arraycopyName
  | 2 => Lib.Math.max.name
  | _ => Lib.Math.min.name
theorem ex_okn_all : ∀ K, K < 8 → ex_all2 (fun (q : Nat × Nat) i => ex_wp i (Cond.methodLink (ex_own K) q.1 (ex_natn q.2))) (ex_nat K) (ex_natw K) = true := by decide +kernel
theorem ex_nat_w : (ex_wp 344 (Cond.static Lib.Math.max.name) && ex_wp 341 (Cond.static Lib.Math.min.name) && ex_wp 669 (Cond.static arraycopyName) && ex_wp 670 (Cond.native arraycopyName) && ex_wp 50 (Cond.initialized "java/lang/Math") && ex_wp 52 (Cond.initialized "java/lang/System")) = true := by decide +kernel
theorem ex_nat_max : lw_tbl[345]? = some (Cond.code Lib.Math.max.name Lib.Math.max.code 2 (some .int)) := by decide +kernel
theorem ex_nat_min : lw_tbl[342]? = some (Cond.code Lib.Math.min.name Lib.Math.min.code 2 (some .int)) := by decide +kernel
def ex_cstw : Nat → List (Nat)
  | 1 => [639]
  | 2 => [335]
  | 4 => [540]
  | 5 => [979, 1019]
  | _ => []
def ex_mdw : List Nat := [697, 794, 736, 730, 748, 752, 763, 774, 778, 782, 617, 621, 626, 631, 635, 643, 647, 652, 674, 678, 656, 659, 662, 666, 524, 547, 559, 572, 584, 339, 334, 349, 602, 459, 493, 317, 289, 285, 301, 305, 297, 512, 293, 326, 313, 322, 362, 467, 500, 508, 281, 309, 519, 531, 554, 566, 579, 330, 591, 598, 609, 686, 693, 706, 743, 759, 770, 790, 817, 353, 455, 365, 471, 535, 539, 612, 710, 947, 958, 954, 970, 962, 951, 966, 987, 983, 978, 974, 991, 999, 995, 1003, 1015, 1018, 1007, 1011, 1023, 1027, 1031, 1043, 1039, 1035, 1049, 1053, 1073, 1077, 1069, 1065, 1061, 1057, 1081, 1085, 1093, 1097, 1089, 1101, 1105, 1113, 1109, 1117, 1121, 1125, 356, 462, 496, 504, 515, 527, 550, 562, 575, 587, 594, 605, 682, 689, 701, 739, 755, 766, 785, 813, 0, 638]
theorem ex_okf_all : ∀ K, K < 8 → ex_all2 (ex_okf K) (ex_fld K) (ex_fldw K) = true := by decide +kernel
theorem ex_okc_all : ∀ K, K < 8 → ex_all2 (ex_okc K) (ex_cal K) (ex_calw K) = true := by decide +kernel
theorem ex_ok_cst : ∀ K, K < 8 → ex_all2 (fun (q : Nat × Int32) i => ex_wp i (Cond.constant (ex_own K) q.1 q.2)) (ex_cst K) (ex_cstw K) = true := by decide +kernel
theorem ex_okm_all : ∀ μ ∈ ex_mds, ex_okm μ = true := by decide +kernel
/-- the law itself has no word of its own in the table -/
def ex_law : Nat := 142
def ex_okw (M i : Nat) : Prop := lw_tbl[i]? = (ex_md M).map ex_cw
theorem ex_cw_0 : ex_okw 0 697 := rfl
theorem ex_cw_1 : ex_okw 1 794 := rfl
theorem ex_cw_2 : ex_okw 2 736 := rfl
theorem ex_cw_3 : ex_okw 3 730 := rfl
theorem ex_cw_4 : ex_okw 4 748 := rfl
theorem ex_cw_5 : ex_okw 5 752 := rfl
theorem ex_cw_6 : ex_okw 6 763 := rfl
theorem ex_cw_7 : ex_okw 7 774 := rfl
theorem ex_cw_8 : ex_okw 8 778 := rfl
theorem ex_cw_9 : ex_okw 9 782 := rfl
theorem ex_cw_10 : ex_okw 10 617 := rfl
theorem ex_cw_11 : ex_okw 11 621 := rfl
theorem ex_cw_12 : ex_okw 12 626 := rfl
theorem ex_cw_13 : ex_okw 13 631 := rfl
theorem ex_cw_14 : ex_okw 14 635 := rfl
theorem ex_cw_15 : ex_okw 15 643 := rfl
theorem ex_cw_16 : ex_okw 16 647 := rfl
theorem ex_cw_17 : ex_okw 17 652 := rfl
theorem ex_cw_18 : ex_okw 18 674 := rfl
theorem ex_cw_19 : ex_okw 19 678 := rfl
theorem ex_cw_20 : ex_okw 20 656 := rfl
theorem ex_cw_21 : ex_okw 21 659 := rfl
theorem ex_cw_22 : ex_okw 22 662 := rfl
theorem ex_cw_23 : ex_okw 23 666 := rfl
theorem ex_cw_24 : ex_okw 24 524 := rfl
theorem ex_cw_25 : ex_okw 25 547 := rfl
theorem ex_cw_26 : ex_okw 26 559 := rfl
theorem ex_cw_27 : ex_okw 27 572 := rfl
theorem ex_cw_28 : ex_okw 28 584 := rfl
theorem ex_cw_29 : ex_okw 29 339 := rfl
theorem ex_cw_30 : ex_okw 30 334 := rfl
theorem ex_cw_31 : ex_okw 31 349 := rfl
theorem ex_cw_32 : ex_okw 32 602 := rfl
theorem ex_cw_33 : ex_okw 33 459 := rfl
theorem ex_cw_34 : ex_okw 34 493 := rfl
theorem ex_cw_35 : ex_okw 35 317 := rfl
theorem ex_cw_36 : ex_okw 36 289 := rfl
theorem ex_cw_37 : ex_okw 37 285 := rfl
theorem ex_cw_38 : ex_okw 38 301 := rfl
theorem ex_cw_39 : ex_okw 39 305 := rfl
theorem ex_cw_40 : ex_okw 40 297 := rfl
theorem ex_cw_41 : ex_okw 41 512 := rfl
theorem ex_cw_42 : ex_okw 42 293 := rfl
theorem ex_cw_43 : ex_okw 43 326 := rfl
theorem ex_cw_44 : ex_okw 44 313 := rfl
theorem ex_cw_45 : ex_okw 45 322 := rfl
theorem ex_cw_46 : ex_okw 46 362 := rfl
theorem ex_cw_47 : ex_okw 47 467 := rfl
theorem ex_cw_48 : ex_okw 48 500 := rfl
theorem ex_cw_49 : ex_okw 49 508 := rfl
theorem ex_cw_50 : ex_okw 50 281 := rfl
theorem ex_cw_51 : ex_okw 51 309 := rfl
theorem ex_cw_52 : ex_okw 52 519 := rfl
theorem ex_cw_53 : ex_okw 53 531 := rfl
theorem ex_cw_54 : ex_okw 54 554 := rfl
theorem ex_cw_55 : ex_okw 55 566 := rfl
theorem ex_cw_56 : ex_okw 56 579 := rfl
theorem ex_cw_57 : ex_okw 57 330 := rfl
theorem ex_cw_58 : ex_okw 58 591 := rfl
theorem ex_cw_59 : ex_okw 59 598 := rfl
theorem ex_cw_60 : ex_okw 60 609 := rfl
theorem ex_cw_61 : ex_okw 61 686 := rfl
theorem ex_cw_62 : ex_okw 62 693 := rfl
theorem ex_cw_63 : ex_okw 63 706 := rfl
theorem ex_cw_64 : ex_okw 64 743 := rfl
theorem ex_cw_65 : ex_okw 65 759 := rfl
theorem ex_cw_66 : ex_okw 66 770 := rfl
theorem ex_cw_67 : ex_okw 67 790 := rfl
theorem ex_cw_68 : ex_okw 68 817 := rfl
theorem ex_cw_69 : ex_okw 69 353 := rfl
theorem ex_cw_70 : ex_okw 70 455 := rfl
theorem ex_cw_71 : ex_okw 71 365 := rfl
theorem ex_cw_72 : ex_okw 72 471 := rfl
theorem ex_cw_73 : ex_okw 73 535 := rfl
theorem ex_cw_74 : ex_okw 74 539 := rfl
theorem ex_cw_75 : ex_okw 75 612 := rfl
theorem ex_cw_76 : ex_okw 76 710 := rfl
theorem ex_cw_77 : ex_okw 77 947 := rfl
theorem ex_cw_78 : ex_okw 78 958 := rfl
theorem ex_cw_79 : ex_okw 79 954 := rfl
theorem ex_cw_80 : ex_okw 80 970 := rfl
theorem ex_cw_81 : ex_okw 81 962 := rfl
theorem ex_cw_82 : ex_okw 82 951 := rfl
theorem ex_cw_83 : ex_okw 83 966 := rfl
theorem ex_cw_84 : ex_okw 84 987 := rfl
theorem ex_cw_85 : ex_okw 85 983 := rfl
theorem ex_cw_86 : ex_okw 86 978 := rfl
theorem ex_cw_87 : ex_okw 87 974 := rfl
theorem ex_cw_88 : ex_okw 88 991 := rfl
theorem ex_cw_89 : ex_okw 89 999 := rfl
theorem ex_cw_90 : ex_okw 90 995 := rfl
theorem ex_cw_91 : ex_okw 91 1003 := rfl
theorem ex_cw_92 : ex_okw 92 1015 := rfl
theorem ex_cw_93 : ex_okw 93 1018 := rfl
theorem ex_cw_94 : ex_okw 94 1007 := rfl
theorem ex_cw_95 : ex_okw 95 1011 := rfl
theorem ex_cw_96 : ex_okw 96 1023 := rfl
theorem ex_cw_97 : ex_okw 97 1027 := rfl
theorem ex_cw_98 : ex_okw 98 1031 := rfl
theorem ex_cw_99 : ex_okw 99 1043 := rfl
theorem ex_cw_100 : ex_okw 100 1039 := rfl
theorem ex_cw_101 : ex_okw 101 1035 := rfl
theorem ex_cw_102 : ex_okw 102 1049 := rfl
theorem ex_cw_103 : ex_okw 103 1053 := rfl
theorem ex_cw_104 : ex_okw 104 1073 := rfl
theorem ex_cw_105 : ex_okw 105 1077 := rfl
theorem ex_cw_106 : ex_okw 106 1069 := rfl
theorem ex_cw_107 : ex_okw 107 1065 := rfl
theorem ex_cw_108 : ex_okw 108 1061 := rfl
theorem ex_cw_109 : ex_okw 109 1057 := rfl
theorem ex_cw_110 : ex_okw 110 1081 := rfl
theorem ex_cw_111 : ex_okw 111 1085 := rfl
theorem ex_cw_112 : ex_okw 112 1093 := rfl
theorem ex_cw_113 : ex_okw 113 1097 := rfl
theorem ex_cw_114 : ex_okw 114 1089 := rfl
theorem ex_cw_115 : ex_okw 115 1101 := rfl
theorem ex_cw_116 : ex_okw 116 1105 := rfl
theorem ex_cw_117 : ex_okw 117 1113 := rfl
theorem ex_cw_118 : ex_okw 118 1109 := rfl
theorem ex_cw_119 : ex_okw 119 1117 := rfl
theorem ex_cw_120 : ex_okw 120 1121 := rfl
theorem ex_cw_121 : ex_okw 121 1125 := rfl
theorem ex_cw_122 : ex_okw 122 356 := rfl
theorem ex_cw_123 : ex_okw 123 462 := rfl
theorem ex_cw_124 : ex_okw 124 496 := rfl
theorem ex_cw_125 : ex_okw 125 504 := rfl
theorem ex_cw_126 : ex_okw 126 515 := rfl
theorem ex_cw_127 : ex_okw 127 527 := rfl
theorem ex_cw_128 : ex_okw 128 550 := rfl
theorem ex_cw_129 : ex_okw 129 562 := rfl
theorem ex_cw_130 : ex_okw 130 575 := rfl
theorem ex_cw_131 : ex_okw 131 587 := rfl
theorem ex_cw_132 : ex_okw 132 594 := rfl
theorem ex_cw_133 : ex_okw 133 605 := rfl
theorem ex_cw_134 : ex_okw 134 682 := rfl
theorem ex_cw_135 : ex_okw 135 689 := rfl
theorem ex_cw_136 : ex_okw 136 701 := rfl
theorem ex_cw_137 : ex_okw 137 739 := rfl
theorem ex_cw_138 : ex_okw 138 755 := rfl
theorem ex_cw_139 : ex_okw 139 766 := rfl
theorem ex_cw_140 : ex_okw 140 785 := rfl
theorem ex_cw_141 : ex_okw 141 813 := rfl
theorem ex_cw_143 : ex_okw 143 638 := rfl
theorem ex_okw_all : ∀ M, M < 144 → M ≠ ex_law → ∃ i, ex_okw M i := by
  intro M hM hl
  match M, hM, hl with
  | 0, _, _ => exact ⟨_, ex_cw_0⟩
  | 1, _, _ => exact ⟨_, ex_cw_1⟩
  | 2, _, _ => exact ⟨_, ex_cw_2⟩
  | 3, _, _ => exact ⟨_, ex_cw_3⟩
  | 4, _, _ => exact ⟨_, ex_cw_4⟩
  | 5, _, _ => exact ⟨_, ex_cw_5⟩
  | 6, _, _ => exact ⟨_, ex_cw_6⟩
  | 7, _, _ => exact ⟨_, ex_cw_7⟩
  | 8, _, _ => exact ⟨_, ex_cw_8⟩
  | 9, _, _ => exact ⟨_, ex_cw_9⟩
  | 10, _, _ => exact ⟨_, ex_cw_10⟩
  | 11, _, _ => exact ⟨_, ex_cw_11⟩
  | 12, _, _ => exact ⟨_, ex_cw_12⟩
  | 13, _, _ => exact ⟨_, ex_cw_13⟩
  | 14, _, _ => exact ⟨_, ex_cw_14⟩
  | 15, _, _ => exact ⟨_, ex_cw_15⟩
  | 16, _, _ => exact ⟨_, ex_cw_16⟩
  | 17, _, _ => exact ⟨_, ex_cw_17⟩
  | 18, _, _ => exact ⟨_, ex_cw_18⟩
  | 19, _, _ => exact ⟨_, ex_cw_19⟩
  | 20, _, _ => exact ⟨_, ex_cw_20⟩
  | 21, _, _ => exact ⟨_, ex_cw_21⟩
  | 22, _, _ => exact ⟨_, ex_cw_22⟩
  | 23, _, _ => exact ⟨_, ex_cw_23⟩
  | 24, _, _ => exact ⟨_, ex_cw_24⟩
  | 25, _, _ => exact ⟨_, ex_cw_25⟩
  | 26, _, _ => exact ⟨_, ex_cw_26⟩
  | 27, _, _ => exact ⟨_, ex_cw_27⟩
  | 28, _, _ => exact ⟨_, ex_cw_28⟩
  | 29, _, _ => exact ⟨_, ex_cw_29⟩
  | 30, _, _ => exact ⟨_, ex_cw_30⟩
  | 31, _, _ => exact ⟨_, ex_cw_31⟩
  | 32, _, _ => exact ⟨_, ex_cw_32⟩
  | 33, _, _ => exact ⟨_, ex_cw_33⟩
  | 34, _, _ => exact ⟨_, ex_cw_34⟩
  | 35, _, _ => exact ⟨_, ex_cw_35⟩
  | 36, _, _ => exact ⟨_, ex_cw_36⟩
  | 37, _, _ => exact ⟨_, ex_cw_37⟩
  | 38, _, _ => exact ⟨_, ex_cw_38⟩
  | 39, _, _ => exact ⟨_, ex_cw_39⟩
  | 40, _, _ => exact ⟨_, ex_cw_40⟩
  | 41, _, _ => exact ⟨_, ex_cw_41⟩
  | 42, _, _ => exact ⟨_, ex_cw_42⟩
  | 43, _, _ => exact ⟨_, ex_cw_43⟩
  | 44, _, _ => exact ⟨_, ex_cw_44⟩
  | 45, _, _ => exact ⟨_, ex_cw_45⟩
  | 46, _, _ => exact ⟨_, ex_cw_46⟩
  | 47, _, _ => exact ⟨_, ex_cw_47⟩
  | 48, _, _ => exact ⟨_, ex_cw_48⟩
  | 49, _, _ => exact ⟨_, ex_cw_49⟩
  | 50, _, _ => exact ⟨_, ex_cw_50⟩
  | 51, _, _ => exact ⟨_, ex_cw_51⟩
  | 52, _, _ => exact ⟨_, ex_cw_52⟩
  | 53, _, _ => exact ⟨_, ex_cw_53⟩
  | 54, _, _ => exact ⟨_, ex_cw_54⟩
  | 55, _, _ => exact ⟨_, ex_cw_55⟩
  | 56, _, _ => exact ⟨_, ex_cw_56⟩
  | 57, _, _ => exact ⟨_, ex_cw_57⟩
  | 58, _, _ => exact ⟨_, ex_cw_58⟩
  | 59, _, _ => exact ⟨_, ex_cw_59⟩
  | 60, _, _ => exact ⟨_, ex_cw_60⟩
  | 61, _, _ => exact ⟨_, ex_cw_61⟩
  | 62, _, _ => exact ⟨_, ex_cw_62⟩
  | 63, _, _ => exact ⟨_, ex_cw_63⟩
  | 64, _, _ => exact ⟨_, ex_cw_64⟩
  | 65, _, _ => exact ⟨_, ex_cw_65⟩
  | 66, _, _ => exact ⟨_, ex_cw_66⟩
  | 67, _, _ => exact ⟨_, ex_cw_67⟩
  | 68, _, _ => exact ⟨_, ex_cw_68⟩
  | 69, _, _ => exact ⟨_, ex_cw_69⟩
  | 70, _, _ => exact ⟨_, ex_cw_70⟩
  | 71, _, _ => exact ⟨_, ex_cw_71⟩
  | 72, _, _ => exact ⟨_, ex_cw_72⟩
  | 73, _, _ => exact ⟨_, ex_cw_73⟩
  | 74, _, _ => exact ⟨_, ex_cw_74⟩
  | 75, _, _ => exact ⟨_, ex_cw_75⟩
  | 76, _, _ => exact ⟨_, ex_cw_76⟩
  | 77, _, _ => exact ⟨_, ex_cw_77⟩
  | 78, _, _ => exact ⟨_, ex_cw_78⟩
  | 79, _, _ => exact ⟨_, ex_cw_79⟩
  | 80, _, _ => exact ⟨_, ex_cw_80⟩
  | 81, _, _ => exact ⟨_, ex_cw_81⟩
  | 82, _, _ => exact ⟨_, ex_cw_82⟩
  | 83, _, _ => exact ⟨_, ex_cw_83⟩
  | 84, _, _ => exact ⟨_, ex_cw_84⟩
  | 85, _, _ => exact ⟨_, ex_cw_85⟩
  | 86, _, _ => exact ⟨_, ex_cw_86⟩
  | 87, _, _ => exact ⟨_, ex_cw_87⟩
  | 88, _, _ => exact ⟨_, ex_cw_88⟩
  | 89, _, _ => exact ⟨_, ex_cw_89⟩
  | 90, _, _ => exact ⟨_, ex_cw_90⟩
  | 91, _, _ => exact ⟨_, ex_cw_91⟩
  | 92, _, _ => exact ⟨_, ex_cw_92⟩
  | 93, _, _ => exact ⟨_, ex_cw_93⟩
  | 94, _, _ => exact ⟨_, ex_cw_94⟩
  | 95, _, _ => exact ⟨_, ex_cw_95⟩
  | 96, _, _ => exact ⟨_, ex_cw_96⟩
  | 97, _, _ => exact ⟨_, ex_cw_97⟩
  | 98, _, _ => exact ⟨_, ex_cw_98⟩
  | 99, _, _ => exact ⟨_, ex_cw_99⟩
  | 100, _, _ => exact ⟨_, ex_cw_100⟩
  | 101, _, _ => exact ⟨_, ex_cw_101⟩
  | 102, _, _ => exact ⟨_, ex_cw_102⟩
  | 103, _, _ => exact ⟨_, ex_cw_103⟩
  | 104, _, _ => exact ⟨_, ex_cw_104⟩
  | 105, _, _ => exact ⟨_, ex_cw_105⟩
  | 106, _, _ => exact ⟨_, ex_cw_106⟩
  | 107, _, _ => exact ⟨_, ex_cw_107⟩
  | 108, _, _ => exact ⟨_, ex_cw_108⟩
  | 109, _, _ => exact ⟨_, ex_cw_109⟩
  | 110, _, _ => exact ⟨_, ex_cw_110⟩
  | 111, _, _ => exact ⟨_, ex_cw_111⟩
  | 112, _, _ => exact ⟨_, ex_cw_112⟩
  | 113, _, _ => exact ⟨_, ex_cw_113⟩
  | 114, _, _ => exact ⟨_, ex_cw_114⟩
  | 115, _, _ => exact ⟨_, ex_cw_115⟩
  | 116, _, _ => exact ⟨_, ex_cw_116⟩
  | 117, _, _ => exact ⟨_, ex_cw_117⟩
  | 118, _, _ => exact ⟨_, ex_cw_118⟩
  | 119, _, _ => exact ⟨_, ex_cw_119⟩
  | 120, _, _ => exact ⟨_, ex_cw_120⟩
  | 121, _, _ => exact ⟨_, ex_cw_121⟩
  | 122, _, _ => exact ⟨_, ex_cw_122⟩
  | 123, _, _ => exact ⟨_, ex_cw_123⟩
  | 124, _, _ => exact ⟨_, ex_cw_124⟩
  | 125, _, _ => exact ⟨_, ex_cw_125⟩
  | 126, _, _ => exact ⟨_, ex_cw_126⟩
  | 127, _, _ => exact ⟨_, ex_cw_127⟩
  | 128, _, _ => exact ⟨_, ex_cw_128⟩
  | 129, _, _ => exact ⟨_, ex_cw_129⟩
  | 130, _, _ => exact ⟨_, ex_cw_130⟩
  | 131, _, _ => exact ⟨_, ex_cw_131⟩
  | 132, _, _ => exact ⟨_, ex_cw_132⟩
  | 133, _, _ => exact ⟨_, ex_cw_133⟩
  | 134, _, _ => exact ⟨_, ex_cw_134⟩
  | 135, _, _ => exact ⟨_, ex_cw_135⟩
  | 136, _, _ => exact ⟨_, ex_cw_136⟩
  | 137, _, _ => exact ⟨_, ex_cw_137⟩
  | 138, _, _ => exact ⟨_, ex_cw_138⟩
  | 139, _, _ => exact ⟨_, ex_cw_139⟩
  | 140, _, _ => exact ⟨_, ex_cw_140⟩
  | 141, _, _ => exact ⟨_, ex_cw_141⟩
  | 142, _, hl => exact absurd rfl hl
  | 143, _, _ => exact ⟨_, ex_cw_143⟩
  | n + 144, h, _ => exact absurd h (by omega)
theorem ex_mds_len : ex_mds.length = 144 := by decide +kernel
theorem ex_ok_lays_0 : ex_all2 (fun w i => ex_wp i w && goodWord w) (u_ws RX0 TX0 9) [246, 248, 250, 252, 254, 256, 258, 260, 262] = true := by decide +kernel
theorem ex_ok_lays_1 : ex_all2 (fun w i => ex_wp i w && goodWord w) (u_ws RX1 TX1 18) [187, 189, 191, 193, 195, 197, 199, 201, 203, 205, 207, 209, 211, 213, 215, 217, 219, 221] = true := by decide +kernel
theorem ex_ok_lays_2 : ex_all2 (fun w i => ex_wp i w && goodWord w) (u_ws RX2 TX2 14) [131, 133, 135, 137, 139, 141, 143, 145, 147, 149, 151, 153, 155, 157] = true := by decide +kernel
theorem ex_ok_lays_3 : ex_all2 (fun w i => ex_wp i w && goodWord w) (u_ws RX3 TX3 8) [88, 90, 92, 94, 96, 98, 100, 102] = true := by decide +kernel
theorem ex_ok_lays_4 : ex_all2 (fun w i => ex_wp i w && goodWord w) (u_ws RX4 TX4 4) [269, 271, 273, 275] = true := by decide +kernel
theorem ex_ok_lays_5 : ex_all2 (fun w i => ex_wp i w && goodWord w) (u_ws RX5 TX5 39) [865, 867, 869, 871, 873, 875, 877, 879, 881, 883, 885, 887, 889, 891, 893, 895, 897, 899, 901, 903, 905, 907, 909, 911, 913, 915, 917, 919, 921, 923, 925, 927, 929, 931, 933, 935, 937, 939, 941] = true := by decide +kernel
/-- where cells lie, and what numbers their fields bear -/
def ex_okl (k : Nat) : Bool := match ex_lay[k]? with
  | some (.inr (ci, fs)) => ci == k && Nat.blt ci 6 && Nat.blt fs.length 100 && (List.range fs.length).all (fun j => match fs[j]? with
    | some (t, n) => (match t with
      | 0 => n == 100 * k + j
      | 1 => n == 100 * k + j
      | _ => true)
    | none => false)
  | some (.inl (kd, n, id)) => id == k && Nat.blt kd 3 && Nat.blt n 1000
  | none => true
theorem ex_okl_all : ∀ k, k < 59 → ex_okl k = true := by decide +kernel
theorem ex_lay_len : ex_lay.length = 59 := by decide +kernel
end
section
/-! ===== every instruction decodes as the tables say ===== -/
set_option maxRecDepth 20000
theorem ex_dp_X0_fall : ex_okp cX0_fall ex_p_X0_fall := by unfold ex_okp; decide +kernel
theorem ex_dp_X0_stage : ex_okp cX0_stage ex_p_X0_stage := by unfold ex_okp; decide +kernel
theorem ex_dp_X0_freeHands : ex_okp cX0_freeHands ex_p_X0_freeHands := by unfold ex_okp; decide +kernel
theorem ex_dp_X0_launch : ex_okp cX0_launch ex_p_X0_launch := by unfold ex_okp; decide +kernel
theorem ex_dp_X0_pass : ex_okp cX0_pass ex_p_X0_pass := by unfold ex_okp; decide +kernel
theorem ex_dp_X0_passOne : ex_okp cX0_passOne ex_p_X0_passOne := by unfold ex_okp; decide +kernel
theorem ex_dp_X0_stumble : ex_okp cX0_stumble ex_p_X0_stumble := by unfold ex_okp; decide +kernel
theorem ex_dp_X0_strike : ex_okp cX0_strike ex_p_X0_strike := by unfold ex_okp; decide +kernel
theorem ex_dp_X0_thoseThatStand : ex_okp cX0_thoseThatStand ex_p_X0_thoseThatStand := by unfold ex_okp; decide +kernel
theorem ex_dp_X0_stopThose : ex_okp cX0_stopThose ex_p_X0_stopThose := by unfold ex_okp; decide +kernel
theorem ex_dp_X1_makePlan : ex_okp cX1_makePlan ex_p_X1_makePlan := by unfold ex_okp; decide +kernel
theorem ex_dp_X1_fitsHands : ex_okp cX1_fitsHands ex_p_X1_fitsHands := by unfold ex_okp; decide +kernel
theorem ex_dp_X1_sortByNeed : ex_okp cX1_sortByNeed ex_p_X1_sortByNeed := by unfold ex_okp; decide +kernel
theorem ex_dp_X1_sortByWorth : ex_okp cX1_sortByWorth ex_p_X1_sortByWorth := by unfold ex_okp; decide +kernel
theorem ex_dp_X1_isWorthMore : ex_okp cX1_isWorthMore ex_p_X1_isWorthMore := by unfold ex_okp; decide +kernel
theorem ex_dp_X1_explore : ex_okp cX1_explore ex_p_X1_explore := by unfold ex_okp; decide +kernel
theorem ex_dp_X1_hope : ex_okp cX1_hope ex_p_X1_hope := by unfold ex_okp; decide +kernel
theorem ex_dp_X1_earliest : ex_okp cX1_earliest ex_p_X1_earliest := by unfold ex_okp; decide +kernel
theorem ex_dp_X1_isOutdone : ex_okp cX1_isOutdone ex_p_X1_isOutdone := by unfold ex_okp; decide +kernel
theorem ex_dp_X1_occupy : ex_okp cX1_occupy ex_p_X1_occupy := by unfold ex_okp; decide +kernel
theorem ex_dp_X1_awayBy : ex_okp cX1_awayBy ex_p_X1_awayBy := by unfold ex_okp; decide +kernel
theorem ex_dp_X1_keyOf : ex_okp cX1_keyOf ex_p_X1_keyOf := by unfold ex_okp; decide +kernel
theorem ex_dp_X1_shiftOf : ex_okp cX1_shiftOf ex_p_X1_shiftOf := by unfold ex_okp; decide +kernel
theorem ex_dp_X1_isLess : ex_okp cX1_isLess ex_p_X1_isLess := by unfold ex_okp; decide +kernel
theorem ex_dp_X2_addStore : ex_okp cX2_addStore ex_p_X2_addStore := by unfold ex_okp; decide +kernel
theorem ex_dp_X2_addCopy : ex_okp cX2_addCopy ex_p_X2_addCopy := by unfold ex_okp; decide +kernel
theorem ex_dp_X2_setTorn : ex_okp cX2_setTorn ex_p_X2_setTorn := by unfold ex_okp; decide +kernel
theorem ex_dp_X2_addLetter : ex_okp cX2_addLetter ex_p_X2_addLetter := by unfold ex_okp; decide +kernel
theorem ex_dp_X2_addChange : ex_okp cX2_addChange ex_p_X2_addChange := by unfold ex_okp; decide +kernel
theorem ex_dp_X2_greatestUpTo : ex_okp cX2_greatestUpTo ex_p_X2_greatestUpTo := by unfold ex_okp; decide +kernel
theorem ex_dp_X2_choose : ex_okp cX2_choose ex_p_X2_choose := by unfold ex_okp; decide +kernel
theorem ex_dp_X2_isGotButNotSent : ex_okp cX2_isGotButNotSent ex_p_X2_isGotButNotSent := by unfold ex_okp; decide +kernel
theorem ex_dp_X2_changesBehind : ex_okp cX2_changesBehind ex_p_X2_changesBehind := by unfold ex_okp; decide +kernel
theorem ex_dp_X3_addWork : ex_okp cX3_addWork ex_p_X3_addWork := by unfold ex_okp; decide +kernel
theorem ex_dp_X3_addNeed : ex_okp cX3_addNeed ex_p_X3_addNeed := by unfold ex_okp; decide +kernel
theorem ex_dp_X3_everyWork : ex_okp cX3_everyWork ex_p_X3_everyWork := by unfold ex_okp; decide +kernel
theorem ex_dp_X3_canBeThin : ex_okp cX3_canBeThin ex_p_X3_canBeThin := by unfold ex_okp; decide +kernel
theorem ex_dp_X3_thoseThatCan : ex_okp cX3_thoseThatCan ex_p_X3_thoseThatCan := by unfold ex_okp; decide +kernel
theorem ex_dp_X3_needsOf : ex_okp cX3_needsOf ex_p_X3_needsOf := by unfold ex_okp; decide +kernel
theorem ex_dp_X3_needsOfAll : ex_okp cX3_needsOfAll ex_p_X3_needsOfAll := by unfold ex_okp; decide +kernel
theorem ex_dp_X3_reachOf : ex_okp cX3_reachOf ex_p_X3_reachOf := by unfold ex_okp; decide +kernel
theorem ex_dp_X3_leastSteps : ex_okp cX3_leastSteps ex_p_X3_leastSteps := by unfold ex_okp; decide +kernel
theorem ex_dp_X3_inRings : ex_okp cX3_inRings ex_p_X3_inRings := by unfold ex_okp; decide +kernel
theorem ex_dp_X3_hasRing : ex_okp cX3_hasRing ex_p_X3_hasRing := by unfold ex_okp; decide +kernel
theorem ex_dp_X3_cheapestCut : ex_okp cX3_cheapestCut ex_p_X3_cheapestCut := by unfold ex_okp; decide +kernel
theorem ex_dp_X3_costOf : ex_okp cX3_costOf ex_p_X3_costOf := by unfold ex_okp; decide +kernel
theorem ex_dp_X4_work : ex_okp cX4_work ex_p_X4_work := by unfold ex_okp; decide +kernel
theorem ex_dp_X4_need : ex_okp cX4_need ex_p_X4_need := by unfold ex_okp; decide +kernel
theorem ex_dp_X4_hangs : ex_okp cX4_hangs ex_p_X4_hangs := by unfold ex_okp; decide +kernel
theorem ex_dp_X4_steps : ex_okp cX4_steps ex_p_X4_steps := by unfold ex_okp; decide +kernel
theorem ex_dp_X4_rings : ex_okp cX4_rings ex_p_X4_rings := by unfold ex_okp; decide +kernel
theorem ex_dp_X4_cut : ex_okp cX4_cut ex_p_X4_cut := by unfold ex_okp; decide +kernel
theorem ex_dp_X4_store : ex_okp cX4_store ex_p_X4_store := by unfold ex_okp; decide +kernel
theorem ex_dp_X4_copy : ex_okp cX4_copy ex_p_X4_copy := by unfold ex_okp; decide +kernel
theorem ex_dp_X4_torn : ex_okp cX4_torn ex_p_X4_torn := by unfold ex_okp; decide +kernel
theorem ex_dp_X4_letter : ex_okp cX4_letter ex_p_X4_letter := by unfold ex_okp; decide +kernel
theorem ex_dp_X4_change : ex_okp cX4_change ex_p_X4_change := by unfold ex_okp; decide +kernel
theorem ex_dp_X4_together : ex_okp cX4_together ex_p_X4_together := by unfold ex_okp; decide +kernel
theorem ex_dp_X4_state : ex_okp cX4_state ex_p_X4_state := by unfold ex_okp; decide +kernel
theorem ex_dp_X4_lost : ex_okp cX4_lost ex_p_X4_lost := by unfold ex_okp; decide +kernel
theorem ex_dp_X4_plan : ex_okp cX4_plan ex_p_X4_plan := by unfold ex_okp; decide +kernel
theorem ex_dp_X4_begins : ex_okp cX4_begins ex_p_X4_begins := by unfold ex_okp; decide +kernel
theorem ex_dp_X4_night : ex_okp cX4_night ex_p_X4_night := by unfold ex_okp; decide +kernel
theorem ex_dp_X4_begin : ex_okp cX4_begin ex_p_X4_begin := by unfold ex_okp; decide +kernel
theorem ex_dp_X4_tick : ex_okp cX4_tick ex_p_X4_tick := by unfold ex_okp; decide +kernel
theorem ex_dp_X4_fail : ex_okp cX4_fail ex_p_X4_fail := by unfold ex_okp; decide +kernel
theorem ex_dp_X4_blow : ex_okp cX4_blow ex_p_X4_blow := by unfold ex_okp; decide +kernel
theorem ex_dp_X4_look : ex_okp cX4_look ex_p_X4_look := by unfold ex_okp; decide +kernel
theorem ex_dp_X4_now : ex_okp cX4_now ex_p_X4_now := by unfold ex_okp; decide +kernel
theorem ex_dp_X4_count : ex_okp cX4_count ex_p_X4_count := by unfold ex_okp; decide +kernel
theorem ex_dp_X4_endPlanAndNight : ex_okp cX4_endPlanAndNight ex_p_X4_endPlanAndNight := by unfold ex_okp; decide +kernel
theorem ex_dp_X4_isWithin : ex_okp cX4_isWithin ex_p_X4_isWithin := by unfold ex_okp; decide +kernel
theorem ex_dp_X4_requireWork : ex_okp cX4_requireWork ex_p_X4_requireWork := by unfold ex_okp; decide +kernel
theorem ex_dp_X4_requireStore : ex_okp cX4_requireStore ex_p_X4_requireStore := by unfold ex_okp; decide +kernel
theorem ex_dp_X4_requireTick : ex_okp cX4_requireTick ex_p_X4_requireTick := by unfold ex_okp; decide +kernel
theorem ex_dp_X4_requireHands : ex_okp cX4_requireHands ex_p_X4_requireHands := by unfold ex_okp; decide +kernel
theorem ex_dp_X4_requireNight : ex_okp cX4_requireNight ex_p_X4_requireNight := by unfold ex_okp; decide +kernel
theorem ex_dp_X5_thrown : ex_okp cX5_thrown ex_p_X5_thrown := by unfold ex_okp; decide +kernel
theorem ex_dp_X5_throwsIf : ex_okp cX5_throwsIf ex_p_X5_throwsIf := by unfold ex_okp; decide +kernel
theorem ex_dp_X5_in : ex_okp cX5_in ex_p_X5_in := by unfold ex_okp; decide +kernel
theorem ex_dp_X5_noWork : ex_okp cX5_noWork ex_p_X5_noWork := by unfold ex_okp; decide +kernel
theorem ex_dp_X5_ends : ex_okp cX5_ends ex_p_X5_ends := by unfold ex_okp; decide +kernel
theorem ex_dp_X5_work : ex_okp cX5_work ex_p_X5_work := by unfold ex_okp; decide +kernel
theorem ex_dp_X5_need : ex_okp cX5_need ex_p_X5_need := by unfold ex_okp; decide +kernel
theorem ex_dp_X5_canBeThin : ex_okp cX5_canBeThin ex_p_X5_canBeThin := by unfold ex_okp; decide +kernel
theorem ex_dp_X5_counts : ex_okp cX5_counts ex_p_X5_counts := by unfold ex_okp; decide +kernel
theorem ex_dp_X5_measures : ex_okp cX5_measures ex_p_X5_measures := by unfold ex_okp; decide +kernel
theorem ex_dp_X5_hangs : ex_okp cX5_hangs ex_p_X5_hangs := by unfold ex_okp; decide +kernel
theorem ex_dp_X5_steps : ex_okp cX5_steps ex_p_X5_steps := by unfold ex_okp; decide +kernel
theorem ex_dp_X5_ringsOf : ex_okp cX5_ringsOf ex_p_X5_ringsOf := by unfold ex_okp; decide +kernel
theorem ex_dp_X5_rings : ex_okp cX5_rings ex_p_X5_rings := by unfold ex_okp; decide +kernel
theorem ex_dp_X5_cut : ex_okp cX5_cut ex_p_X5_cut := by unfold ex_okp; decide +kernel
theorem ex_dp_X5_noStore : ex_okp cX5_noStore ex_p_X5_noStore := by unfold ex_okp; decide +kernel
theorem ex_dp_X5_isTick : ex_okp cX5_isTick ex_p_X5_isTick := by unfold ex_okp; decide +kernel
theorem ex_dp_X5_store : ex_okp cX5_store ex_p_X5_store := by unfold ex_okp; decide +kernel
theorem ex_dp_X5_copy : ex_okp cX5_copy ex_p_X5_copy := by unfold ex_okp; decide +kernel
theorem ex_dp_X5_torn : ex_okp cX5_torn ex_p_X5_torn := by unfold ex_okp; decide +kernel
theorem ex_dp_X5_letter : ex_okp cX5_letter ex_p_X5_letter := by unfold ex_okp; decide +kernel
theorem ex_dp_X5_change : ex_okp cX5_change ex_p_X5_change := by unfold ex_okp; decide +kernel
theorem ex_dp_X5_upTo : ex_okp cX5_upTo ex_p_X5_upTo := by unfold ex_okp; decide +kernel
theorem ex_dp_X5_chooses : ex_okp cX5_chooses ex_p_X5_chooses := by unfold ex_okp; decide +kernel
theorem ex_dp_X5_together : ex_okp cX5_together ex_p_X5_together := by unfold ex_okp; decide +kernel
theorem ex_dp_X5_state : ex_okp cX5_state ex_p_X5_state := by unfold ex_okp; decide +kernel
theorem ex_dp_X5_lost : ex_okp cX5_lost ex_p_X5_lost := by unfold ex_okp; decide +kernel
theorem ex_dp_X5_earliest : ex_okp cX5_earliest ex_p_X5_earliest := by unfold ex_okp; decide +kernel
theorem ex_dp_X5_firstFree : ex_okp cX5_firstFree ex_p_X5_firstFree := by unfold ex_okp; decide +kernel
theorem ex_dp_X5_isReady : ex_okp cX5_isReady ex_p_X5_isReady := by unfold ex_okp; decide +kernel
theorem ex_dp_X5_isBetter : ex_okp cX5_isBetter ex_p_X5_isBetter := by unfold ex_okp; decide +kernel
theorem ex_dp_X5_seeks : ex_okp cX5_seeks ex_p_X5_seeks := by unfold ex_okp; decide +kernel
theorem ex_dp_X5_plan : ex_okp cX5_plan ex_p_X5_plan := by unfold ex_okp; decide +kernel
theorem ex_dp_X5_begins : ex_okp cX5_begins ex_p_X5_begins := by unfold ex_okp; decide +kernel
theorem ex_dp_X5_night : ex_okp cX5_night ex_p_X5_night := by unfold ex_okp; decide +kernel
theorem ex_dp_X5_free : ex_okp cX5_free ex_p_X5_free := by unfold ex_okp; decide +kernel
theorem ex_dp_X5_stands : ex_okp cX5_stands ex_p_X5_stands := by unfold ex_okp; decide +kernel
theorem ex_dp_X5_begin : ex_okp cX5_begin ex_p_X5_begin := by unfold ex_okp; decide +kernel
theorem ex_dp_X5_tick : ex_okp cX5_tick ex_p_X5_tick := by unfold ex_okp; decide +kernel
theorem ex_dp_X5_fail : ex_okp cX5_fail ex_p_X5_fail := by unfold ex_okp; decide +kernel
theorem ex_dp_X5_falls : ex_okp cX5_falls ex_p_X5_falls := by unfold ex_okp; decide +kernel
theorem ex_dp_X5_blow : ex_okp cX5_blow ex_p_X5_blow := by unfold ex_okp; decide +kernel
theorem ex_dp_X5_look : ex_okp cX5_look ex_p_X5_look := by unfold ex_okp; decide +kernel
theorem ex_dp_X5_now : ex_okp cX5_now ex_p_X5_now := by unfold ex_okp; decide +kernel
theorem ex_dp_X5_count : ex_okp cX5_count ex_p_X5_count := by unfold ex_okp; decide +kernel
theorem ex_dp_L_work : ex_okp cL_work ex_p_L_work := by unfold ex_okp; decide +kernel
theorem ex_dp_L_need : ex_okp cL_need ex_p_L_need := by unfold ex_okp; decide +kernel
theorem ex_dp_L_hangs : ex_okp cL_hangs ex_p_L_hangs := by unfold ex_okp; decide +kernel
theorem ex_dp_L_steps : ex_okp cL_steps ex_p_L_steps := by unfold ex_okp; decide +kernel
theorem ex_dp_L_store : ex_okp cL_store ex_p_L_store := by unfold ex_okp; decide +kernel
theorem ex_dp_L_copy : ex_okp cL_copy ex_p_L_copy := by unfold ex_okp; decide +kernel
theorem ex_dp_L_torn : ex_okp cL_torn ex_p_L_torn := by unfold ex_okp; decide +kernel
theorem ex_dp_L_letter : ex_okp cL_letter ex_p_L_letter := by unfold ex_okp; decide +kernel
theorem ex_dp_L_change : ex_okp cL_change ex_p_L_change := by unfold ex_okp; decide +kernel
theorem ex_dp_L_state : ex_okp cL_state ex_p_L_state := by unfold ex_okp; decide +kernel
theorem ex_dp_L_lost : ex_okp cL_lost ex_p_L_lost := by unfold ex_okp; decide +kernel
theorem ex_dp_L_plan : ex_okp cL_plan ex_p_L_plan := by unfold ex_okp; decide +kernel
theorem ex_dp_L_begins : ex_okp cL_begins ex_p_L_begins := by unfold ex_okp; decide +kernel
theorem ex_dp_L_night : ex_okp cL_night ex_p_L_night := by unfold ex_okp; decide +kernel
theorem ex_dp_L_begin : ex_okp cL_begin ex_p_L_begin := by unfold ex_okp; decide +kernel
theorem ex_dp_L_tick : ex_okp cL_tick ex_p_L_tick := by unfold ex_okp; decide +kernel
theorem ex_dp_L_fail : ex_okp cL_fail ex_p_L_fail := by unfold ex_okp; decide +kernel
theorem ex_dp_L_blow : ex_okp cL_blow ex_p_L_blow := by unfold ex_okp; decide +kernel
theorem ex_dp_L_look : ex_okp cL_look ex_p_L_look := by unfold ex_okp; decide +kernel
theorem ex_dp_L_now : ex_okp cL_now ex_p_L_now := by unfold ex_okp; decide +kernel
theorem ex_dp_L_law_0 : ex_okp cL_law ex_p_L_law_0 := by unfold ex_okp; decide +kernel
theorem ex_dp_L_law_1 : ex_okp cL_law ex_p_L_law_1 := by unfold ex_okp; decide +kernel
theorem ex_dp_L_law_2 : ex_okp cL_law ex_p_L_law_2 := by unfold ex_okp; decide +kernel
theorem ex_dp_L_law_3 : ex_okp cL_law ex_p_L_law_3 := by unfold ex_okp; decide +kernel
theorem ex_dp_L_law_4 : ex_okp cL_law ex_p_L_law_4 := by unfold ex_okp; decide +kernel
theorem ex_dp_L_law_5 : ex_okp cL_law ex_p_L_law_5 := by unfold ex_okp; decide +kernel
theorem ex_dp_L_law_6 : ex_okp cL_law ex_p_L_law_6 := by unfold ex_okp; decide +kernel
theorem ex_dp_L_law_7 : ex_okp cL_law ex_p_L_law_7 := by unfold ex_okp; decide +kernel
theorem ex_dp_L_law_8 : ex_okp cL_law ex_p_L_law_8 := by unfold ex_okp; decide +kernel
theorem ex_dp_L_law_9 : ex_okp cL_law ex_p_L_law_9 := by unfold ex_okp; decide +kernel
theorem ex_okp_app {b : ByteArray} {l r : List (Nat × Instr × Nat)} (h1 : ex_okp b l) (h2 : ex_okp b r) : ex_okp b (l ++ r) := fun q h => (List.mem_append.mp h).elim (h1 q) (h2 q)
theorem ex_dp_L_law : ex_okp cL_law ex_p_L_law := ex_okp_app (ex_okp_app (ex_okp_app (ex_okp_app (ex_okp_app (ex_okp_app (ex_okp_app (ex_okp_app (ex_okp_app (ex_dp_L_law_0) ex_dp_L_law_1) ex_dp_L_law_2) ex_dp_L_law_3) ex_dp_L_law_4) ex_dp_L_law_5) ex_dp_L_law_6) ex_dp_L_law_7) ex_dp_L_law_8) ex_dp_L_law_9
theorem ex_dp_J7_fill_53178 : ex_okp cJ7_fill_53178 ex_p_J7_fill_53178 := by unfold ex_okp; decide +kernel
theorem ex_okp_all : ∀ μ ∈ ex_mds, ex_okp (ex_bytes μ) (ex_prog μ) := by
  unfold ex_mds
  exact List.forall_mem_cons.mpr ⟨ex_dp_X0_fall, List.forall_mem_cons.mpr ⟨ex_dp_X0_stage, List.forall_mem_cons.mpr ⟨ex_dp_X0_freeHands, List.forall_mem_cons.mpr ⟨ex_dp_X0_launch, List.forall_mem_cons.mpr ⟨ex_dp_X0_pass, List.forall_mem_cons.mpr ⟨ex_dp_X0_passOne, List.forall_mem_cons.mpr ⟨ex_dp_X0_stumble, List.forall_mem_cons.mpr ⟨ex_dp_X0_strike, List.forall_mem_cons.mpr ⟨ex_dp_X0_thoseThatStand, List.forall_mem_cons.mpr ⟨ex_dp_X0_stopThose, List.forall_mem_cons.mpr ⟨ex_dp_X1_makePlan, List.forall_mem_cons.mpr ⟨ex_dp_X1_fitsHands, List.forall_mem_cons.mpr ⟨ex_dp_X1_sortByNeed, List.forall_mem_cons.mpr ⟨ex_dp_X1_sortByWorth, List.forall_mem_cons.mpr ⟨ex_dp_X1_isWorthMore, List.forall_mem_cons.mpr ⟨ex_dp_X1_explore, List.forall_mem_cons.mpr ⟨ex_dp_X1_hope, List.forall_mem_cons.mpr ⟨ex_dp_X1_earliest, List.forall_mem_cons.mpr ⟨ex_dp_X1_isOutdone, List.forall_mem_cons.mpr ⟨ex_dp_X1_occupy, List.forall_mem_cons.mpr ⟨ex_dp_X1_awayBy, List.forall_mem_cons.mpr ⟨ex_dp_X1_keyOf, List.forall_mem_cons.mpr ⟨ex_dp_X1_shiftOf, List.forall_mem_cons.mpr ⟨ex_dp_X1_isLess, List.forall_mem_cons.mpr ⟨ex_dp_X2_addStore, List.forall_mem_cons.mpr ⟨ex_dp_X2_addCopy, List.forall_mem_cons.mpr ⟨ex_dp_X2_setTorn, List.forall_mem_cons.mpr ⟨ex_dp_X2_addLetter, List.forall_mem_cons.mpr ⟨ex_dp_X2_addChange, List.forall_mem_cons.mpr ⟨ex_dp_X2_greatestUpTo, List.forall_mem_cons.mpr ⟨ex_dp_X2_choose, List.forall_mem_cons.mpr ⟨ex_dp_X2_isGotButNotSent, List.forall_mem_cons.mpr ⟨ex_dp_X2_changesBehind, List.forall_mem_cons.mpr ⟨ex_dp_X3_addWork, List.forall_mem_cons.mpr ⟨ex_dp_X3_addNeed, List.forall_mem_cons.mpr ⟨ex_dp_X3_everyWork, List.forall_mem_cons.mpr ⟨ex_dp_X3_canBeThin, List.forall_mem_cons.mpr ⟨ex_dp_X3_thoseThatCan, List.forall_mem_cons.mpr ⟨ex_dp_X3_needsOf, List.forall_mem_cons.mpr ⟨ex_dp_X3_needsOfAll, List.forall_mem_cons.mpr ⟨ex_dp_X3_reachOf, List.forall_mem_cons.mpr ⟨ex_dp_X3_leastSteps, List.forall_mem_cons.mpr ⟨ex_dp_X3_inRings, List.forall_mem_cons.mpr ⟨ex_dp_X3_hasRing, List.forall_mem_cons.mpr ⟨ex_dp_X3_cheapestCut, List.forall_mem_cons.mpr ⟨ex_dp_X3_costOf, List.forall_mem_cons.mpr ⟨ex_dp_X4_work, List.forall_mem_cons.mpr ⟨ex_dp_X4_need, List.forall_mem_cons.mpr ⟨ex_dp_X4_hangs, List.forall_mem_cons.mpr ⟨ex_dp_X4_steps, List.forall_mem_cons.mpr ⟨ex_dp_X4_rings, List.forall_mem_cons.mpr ⟨ex_dp_X4_cut, List.forall_mem_cons.mpr ⟨ex_dp_X4_store, List.forall_mem_cons.mpr ⟨ex_dp_X4_copy, List.forall_mem_cons.mpr ⟨ex_dp_X4_torn, List.forall_mem_cons.mpr ⟨ex_dp_X4_letter, List.forall_mem_cons.mpr ⟨ex_dp_X4_change, List.forall_mem_cons.mpr ⟨ex_dp_X4_together, List.forall_mem_cons.mpr ⟨ex_dp_X4_state, List.forall_mem_cons.mpr ⟨ex_dp_X4_lost, List.forall_mem_cons.mpr ⟨ex_dp_X4_plan, List.forall_mem_cons.mpr ⟨ex_dp_X4_begins, List.forall_mem_cons.mpr ⟨ex_dp_X4_night, List.forall_mem_cons.mpr ⟨ex_dp_X4_begin, List.forall_mem_cons.mpr ⟨ex_dp_X4_tick, List.forall_mem_cons.mpr ⟨ex_dp_X4_fail, List.forall_mem_cons.mpr ⟨ex_dp_X4_blow, List.forall_mem_cons.mpr ⟨ex_dp_X4_look, List.forall_mem_cons.mpr ⟨ex_dp_X4_now, List.forall_mem_cons.mpr ⟨ex_dp_X4_count, List.forall_mem_cons.mpr ⟨ex_dp_X4_endPlanAndNight, List.forall_mem_cons.mpr ⟨ex_dp_X4_isWithin, List.forall_mem_cons.mpr ⟨ex_dp_X4_requireWork, List.forall_mem_cons.mpr ⟨ex_dp_X4_requireStore, List.forall_mem_cons.mpr ⟨ex_dp_X4_requireTick, List.forall_mem_cons.mpr ⟨ex_dp_X4_requireHands, List.forall_mem_cons.mpr ⟨ex_dp_X4_requireNight, List.forall_mem_cons.mpr ⟨ex_dp_X5_thrown, List.forall_mem_cons.mpr ⟨ex_dp_X5_throwsIf, List.forall_mem_cons.mpr ⟨ex_dp_X5_in, List.forall_mem_cons.mpr ⟨ex_dp_X5_noWork, List.forall_mem_cons.mpr ⟨ex_dp_X5_ends, List.forall_mem_cons.mpr ⟨ex_dp_X5_work, List.forall_mem_cons.mpr ⟨ex_dp_X5_need, List.forall_mem_cons.mpr ⟨ex_dp_X5_canBeThin, List.forall_mem_cons.mpr ⟨ex_dp_X5_counts, List.forall_mem_cons.mpr ⟨ex_dp_X5_measures, List.forall_mem_cons.mpr ⟨ex_dp_X5_hangs, List.forall_mem_cons.mpr ⟨ex_dp_X5_steps, List.forall_mem_cons.mpr ⟨ex_dp_X5_ringsOf, List.forall_mem_cons.mpr ⟨ex_dp_X5_rings, List.forall_mem_cons.mpr ⟨ex_dp_X5_cut, List.forall_mem_cons.mpr ⟨ex_dp_X5_noStore, List.forall_mem_cons.mpr ⟨ex_dp_X5_isTick, List.forall_mem_cons.mpr ⟨ex_dp_X5_store, List.forall_mem_cons.mpr ⟨ex_dp_X5_copy, List.forall_mem_cons.mpr ⟨ex_dp_X5_torn, List.forall_mem_cons.mpr ⟨ex_dp_X5_letter, List.forall_mem_cons.mpr ⟨ex_dp_X5_change, List.forall_mem_cons.mpr ⟨ex_dp_X5_upTo, List.forall_mem_cons.mpr ⟨ex_dp_X5_chooses, List.forall_mem_cons.mpr ⟨ex_dp_X5_together, List.forall_mem_cons.mpr ⟨ex_dp_X5_state, List.forall_mem_cons.mpr ⟨ex_dp_X5_lost, List.forall_mem_cons.mpr ⟨ex_dp_X5_earliest, List.forall_mem_cons.mpr ⟨ex_dp_X5_firstFree, List.forall_mem_cons.mpr ⟨ex_dp_X5_isReady, List.forall_mem_cons.mpr ⟨ex_dp_X5_isBetter, List.forall_mem_cons.mpr ⟨ex_dp_X5_seeks, List.forall_mem_cons.mpr ⟨ex_dp_X5_plan, List.forall_mem_cons.mpr ⟨ex_dp_X5_begins, List.forall_mem_cons.mpr ⟨ex_dp_X5_night, List.forall_mem_cons.mpr ⟨ex_dp_X5_free, List.forall_mem_cons.mpr ⟨ex_dp_X5_stands, List.forall_mem_cons.mpr ⟨ex_dp_X5_begin, List.forall_mem_cons.mpr ⟨ex_dp_X5_tick, List.forall_mem_cons.mpr ⟨ex_dp_X5_fail, List.forall_mem_cons.mpr ⟨ex_dp_X5_falls, List.forall_mem_cons.mpr ⟨ex_dp_X5_blow, List.forall_mem_cons.mpr ⟨ex_dp_X5_look, List.forall_mem_cons.mpr ⟨ex_dp_X5_now, List.forall_mem_cons.mpr ⟨ex_dp_X5_count, List.forall_mem_cons.mpr ⟨ex_dp_L_work, List.forall_mem_cons.mpr ⟨ex_dp_L_need, List.forall_mem_cons.mpr ⟨ex_dp_L_hangs, List.forall_mem_cons.mpr ⟨ex_dp_L_steps, List.forall_mem_cons.mpr ⟨ex_dp_L_store, List.forall_mem_cons.mpr ⟨ex_dp_L_copy, List.forall_mem_cons.mpr ⟨ex_dp_L_torn, List.forall_mem_cons.mpr ⟨ex_dp_L_letter, List.forall_mem_cons.mpr ⟨ex_dp_L_change, List.forall_mem_cons.mpr ⟨ex_dp_L_state, List.forall_mem_cons.mpr ⟨ex_dp_L_lost, List.forall_mem_cons.mpr ⟨ex_dp_L_plan, List.forall_mem_cons.mpr ⟨ex_dp_L_begins, List.forall_mem_cons.mpr ⟨ex_dp_L_night, List.forall_mem_cons.mpr ⟨ex_dp_L_begin, List.forall_mem_cons.mpr ⟨ex_dp_L_tick, List.forall_mem_cons.mpr ⟨ex_dp_L_fail, List.forall_mem_cons.mpr ⟨ex_dp_L_blow, List.forall_mem_cons.mpr ⟨ex_dp_L_look, List.forall_mem_cons.mpr ⟨ex_dp_L_now, List.forall_mem_cons.mpr ⟨ex_dp_L_law, List.forall_mem_cons.mpr ⟨ex_dp_J7_fill_53178, fun _ h => absurd h List.not_mem_nil⟩⟩⟩⟩⟩⟩⟩⟩⟩⟩⟩⟩⟩⟩⟩⟩⟩⟩⟩⟩⟩⟩⟩⟩⟩⟩⟩⟩⟩⟩⟩⟩⟩⟩⟩⟩⟩⟩⟩⟩⟩⟩⟩⟩⟩⟩⟩⟩⟩⟩⟩⟩⟩⟩⟩⟩⟩⟩⟩⟩⟩⟩⟩⟩⟩⟩⟩⟩⟩⟩⟩⟩⟩⟩⟩⟩⟩⟩⟩⟩⟩⟩⟩⟩⟩⟩⟩⟩⟩⟩⟩⟩⟩⟩⟩⟩⟩⟩⟩⟩⟩⟩⟩⟩⟩⟩⟩⟩⟩⟩⟩⟩⟩⟩⟩⟩⟩⟩⟩⟩⟩⟩⟩⟩⟩⟩⟩⟩⟩⟩⟩⟩⟩⟩⟩⟩⟩⟩⟩⟩⟩⟩⟩⟩
end
section
set_option maxRecDepth 20000
abbrev ex_nms : List String := ["java/lang/RuntimeException", "java/lang/Exception"]
/-- the words of a throw whose first constructor hands on by another entry of its own file -/
def ex_atX (own : String) (ic : Nat) (x : String) (ix : Nat) (rx : ByteArray) (y : String) (names : List String) : List Cond := (Bundle.throwableAtoms ++ Bundle.throwableSAtoms ++ (Bundle.passSAtoms x y ix rx ++ Bundle.chainSAtoms y names) ++ ([.methodLink own ic (Bundle.initS x), .instantiable x 6, .castable x x, .selects x Bundle.tFill0 Bundle.tFill0, .selects x Bundle.tFill Bundle.tFill, .lays x Bundle.tN "cause" "Ljava/lang/Throwable;", .lays x Bundle.tN "stackTrace" Bundle.steD, .lays x Bundle.tN "suppressedExceptions" Bundle.listD, .lays x Bundle.tN "detailMessage" "Ljava/lang/String;", .isRef (.static Bundle.tN "UNASSIGNED_STACK" Bundle.steD), .isRef (.static Bundle.tN "SUPPRESSED_SENTINEL" Bundle.listD), .fieldLink Bundle.tN 198 Bundle.tN "backtrace" "Ljava/lang/Object;", .lays Bundle.tN Bundle.tN "backtrace" "Ljava/lang/Object;", .lays x Bundle.tN "backtrace" "Ljava/lang/Object;"] : List Cond)).filter vx_no
def ex_rx : ByteArray := ⟨#[0x2a, 0x2b, 0xb7, 0x00, 0x0d, 0xb1]⟩
def ex_atT (ic : Nat) (x : String) : List Cond := if x = "java/util/NoSuchElementException" then ex_atX RX4 ic x 13 ex_rx "java/lang/RuntimeException" ["java/lang/Exception"] else vx_atS RX4 ic x ex_nms
def ex_okx (ik ic : Nat) (x : String) : Prop := (∀ w ∈ Cond.classLink RX4 ik x :: Cond.initialized x :: ex_atT ic x, w ∈ lw_tbl ∧ (goodWord w = true ∨ ex_isn w = true) ∧ vx_ot w = true) ∧ Bundle.fit x = true
theorem ex_okx_0 : ex_okx 43 47 "java/lang/IllegalArgumentException" := by unfold ex_okx; decide +kernel
theorem ex_okx_1 : ex_okx 54 58 "java/lang/UnsupportedOperationException" := by unfold ex_okx; decide +kernel
theorem ex_okx_2 : ex_okx 123 127 "java/lang/IndexOutOfBoundsException" := by unfold ex_okx; decide +kernel
theorem ex_okx_3 : ex_okx 204 208 "java/util/NoSuchElementException" := by unfold ex_okx; decide +kernel
theorem ex_okx_4 : ex_okx 233 237 "java/lang/IllegalStateException" := by unfold ex_okx; decide +kernel
theorem ex_okx_all : ∀ q ∈ ex_thr 4, ex_okx q.1 q.2.2.1 q.2.2.2.1 := by
  unfold ex_thr
  exact List.forall_mem_cons.mpr ⟨ex_okx_0, List.forall_mem_cons.mpr ⟨ex_okx_1, List.forall_mem_cons.mpr ⟨ex_okx_0, List.forall_mem_cons.mpr ⟨ex_okx_1, List.forall_mem_cons.mpr ⟨ex_okx_1, List.forall_mem_cons.mpr ⟨ex_okx_0, List.forall_mem_cons.mpr ⟨ex_okx_1, List.forall_mem_cons.mpr ⟨ex_okx_2, List.forall_mem_cons.mpr ⟨ex_okx_0, List.forall_mem_cons.mpr ⟨ex_okx_1, List.forall_mem_cons.mpr ⟨ex_okx_1, List.forall_mem_cons.mpr ⟨ex_okx_0, List.forall_mem_cons.mpr ⟨ex_okx_3, List.forall_mem_cons.mpr ⟨ex_okx_3, List.forall_mem_cons.mpr ⟨ex_okx_2, List.forall_mem_cons.mpr ⟨ex_okx_2, List.forall_mem_cons.mpr ⟨ex_okx_0, List.forall_mem_cons.mpr ⟨ex_okx_0, List.forall_mem_cons.mpr ⟨ex_okx_4, fun _ h => absurd h List.not_mem_nil⟩⟩⟩⟩⟩⟩⟩⟩⟩⟩⟩⟩⟩⟩⟩⟩⟩⟩⟩
end
section
/-! ===== the world that a pure state stands for ===== -/
section EXW
def ex_cv (ad : Nat → Nat) : Value → Value
  | .ref k => .ref (ad k)
  | v => v
def ex_fc (ad : Nat → Nat) (σ : ex_S) (q : Nat × Nat) : Value := ex_cv ad (ex_fa σ q)
def ex_cell (G : Nat → ClassId) (ad : Nat → Nat) (σ : ex_S) (x : ex_L) : va_E := match x with
  | .inl (0, n, a) => .inl (G 0, n, .inl (σ.2.2.1 a))
  | .inl (1, n, a) => .inl (G 1, n, .inl (σ.2.2.1 a))
  | .inl (_, n, a) => .inl (G 2, n, .inr (.inl (σ.2.2.2 a)))
  | .inr (ci, fs) => .inr (ci, fs.map (ex_fc ad σ))
def ex_W (G : Nat → ClassId) (ad : Nat → Nat) (σ : ex_S) : va_W := ex_lay.mapIdx (fun k x => (ad k, ex_cell G ad σ x))
def ex_tys (G : Nat → ClassId) : List (ClassId × FieldType) := [(G 0, .int), (G 1, .boolean), (G 2, .long)]
def ex_inj (ad : Nat → Nat) : Prop := ∀ i j, i < 59 → j < 59 → ad i = ad j → i = j
def ex_A (ad : Nat → Nat) (sz : Nat) : Nat → Prop := fun q => (∃ k, k < 59 ∧ ad k = q) ∨ sz ≤ q
variable {G : Nat → ClassId} {ad : Nat → Nat} {σ : ex_S}
theorem ex_W_at {k : Nat} {x : ex_L} (h : ex_lay[k]? = some x) : (ex_W G ad σ)[k]? = some (ad k, ex_cell G ad σ x) := by
  unfold ex_W; rw [List.getElem?_mapIdx, h]; rfl
theorem ex_W_of {k : Nat} {q : Nat × va_E} (h : (ex_W G ad σ)[k]? = some q) : ∃ x, ex_lay[k]? = some x ∧ q = (ad k, ex_cell G ad σ x) := by
  unfold ex_W at h
  rw [List.getElem?_mapIdx] at h
  cases hx : ex_lay[k]? with
  | none => rw [hx] at h; cases h
  | some x => rw [hx] at h; exact ⟨x, rfl, (Option.some.inj h).symm⟩
theorem ex_lay_lt {k : Nat} {x : ex_L} (h : ex_lay[k]? = some x) : k < 59 := by
  have := (List.getElem?_eq_some_iff.mp h).1
  rwa [ex_lay_len] at this
theorem ex_W_set {σ' : ex_S} {k : Nat} {x : ex_L} {e : va_E} (h : ex_lay[k]? = some x) (he : e = ex_cell G ad σ' x) (ho : ∀ (k' : Nat) (x' : ex_L), k' ≠ k → ex_lay[k']? = some x' → ex_cell G ad σ' x' = ex_cell G ad σ x') : (ex_W G ad σ).set k (ad k, e) = ex_W G ad σ' := by
  apply List.ext_getElem?
  intro i
  by_cases hi : i = k
  · subst hi
    rw [List.getElem?_set_self (by unfold ex_W; rw [List.length_mapIdx]; exact (List.getElem?_eq_some_iff.mp h).1), ex_W_at h, he]
  · rw [List.getElem?_set_ne (Ne.symm hi)]
    cases hx : ex_lay[i]? with
    | none =>
      unfold ex_W
      rw [List.getElem?_mapIdx, List.getElem?_mapIdx, hx]; rfl
    | some x' => rw [ex_W_at hx, ex_W_at hx, ho i x' hi hx]
theorem ex_W_D {A : Nat → Prop} (hi : ex_inj ad) (hA : ∀ k, k < 59 → A (ad k)) : va_D A (ex_W G ad σ) := by
  refine ⟨fun i j p q hp hq he => ?_, fun k q hq => ?_⟩
  · obtain ⟨x, h1, rfl⟩ := ex_W_of hp
    obtain ⟨y, h2, rfl⟩ := ex_W_of hq
    exact hi i j (ex_lay_lt h1) (ex_lay_lt h2) he
  · obtain ⟨x, h1, rfl⟩ := ex_W_of hq
    exact hA k (ex_lay_lt h1)
theorem ex_lay_obj {k ci : Nat} {fs : List (Nat × Nat)} (h : ex_lay[k]? = some (.inr (ci, fs))) : ci = k ∧ ci < 6 ∧ ∀ (j t n : Nat), fs[j]? = some (t, n) → j < 100 ∧ ((t = 0 ∨ t = 1) → n = 100 * k + j) := by
  have h1 := ex_okl_all k (ex_lay_lt h)
  unfold ex_okl at h1
  rw [h] at h1
  simp only [Bool.and_eq_true, beq_iff_eq, List.all_eq_true, List.mem_range] at h1
  obtain ⟨⟨⟨h2, h3⟩, h4⟩, h5⟩ := h1
  refine ⟨h2, Nat.le_of_ble_eq_true h3, fun j t n hj => ?_⟩
  have hl := (List.getElem?_eq_some_iff.mp hj).1
  have h6 := h5 j hl
  rw [hj] at h6
  refine ⟨Nat.lt_trans hl (Nat.le_of_ble_eq_true h4), fun ht => ?_⟩
  rcases ht with rfl | rfl
  · exact of_decide_eq_true (by simpa using h6)
  · exact of_decide_eq_true (by simpa using h6)
theorem ex_lay_arr {k kd n id : Nat} (h : ex_lay[k]? = some (.inl (kd, n, id))) : id = k ∧ kd < 3 ∧ n < 1000 := by
  have h1 := ex_okl_all k (ex_lay_lt h)
  unfold ex_okl at h1
  rw [h] at h1
  simp only [Bool.and_eq_true, beq_iff_eq] at h1
  exact ⟨h1.1.1, Nat.le_of_ble_eq_true h1.1.2, Nat.le_of_ble_eq_true h1.2⟩
/-- a state that answers alike at an object's fields gives the same cell -/
theorem ex_cell_obj {σ' : ex_S} {ci : Nat} {fs : List (Nat × Nat)} (h : ∀ (j : Nat) (q : Nat × Nat), fs[j]? = some q → ex_fa σ' q = ex_fa σ q) : ex_cell G ad σ' (.inr (ci, fs)) = ex_cell G ad σ (.inr (ci, fs)) := by
  show Sum.inr (ci, fs.map (ex_fc ad σ')) = Sum.inr (ci, fs.map (ex_fc ad σ))
  congr 2
  apply List.map_congr_left
  intro q hq
  obtain ⟨j, hj⟩ := List.getElem?_of_mem hq
  unfold ex_fc
  rw [h j q hj]
theorem ex_cell_arr {σ' : ex_S} {kd n id : Nat} (h1 : σ'.2.2.1 id = σ.2.2.1 id) (h2 : σ'.2.2.2 id = σ.2.2.2 id) : ex_cell G ad σ' (.inl (kd, n, id)) = ex_cell G ad σ (.inl (kd, n, id)) := by
  unfold ex_cell
  split <;> simp_all
theorem ex_fa_sF {n : Nat} {v : Int32} {q : Nat × Nat} (h : ¬ (q.1 = 0 ∧ q.2 = n)) : ex_fa (ex_sF σ n v) q = ex_fa σ q := by
  obtain ⟨t, m⟩ := q
  unfold ex_fa ex_sF
  match t, h with
  | 0, h => simp only; rw [pk_un (fun e => h ⟨rfl, e⟩)]
  | 1, _ => rfl
  | t + 2, _ => rfl
theorem ex_fa_sG {n : Nat} {v : Int64} {q : Nat × Nat} (h : ¬ (q.1 = 1 ∧ q.2 = n)) : ex_fa (ex_sG σ n v) q = ex_fa σ q := by
  obtain ⟨t, m⟩ := q
  unfold ex_fa ex_sG
  match t, h with
  | 0, _ => rfl
  | 1, h => simp only; rw [pk_uLn (fun e => h ⟨rfl, e⟩)]
  | t + 2, _ => rfl
theorem ex_W_sF {k ci j n : Nat} {fs : List (Nat × Nat)} {v : Int32} (h : ex_lay[k]? = some (.inr (ci, fs))) (hj : fs[j]? = some (0, n)) : (ex_W G ad σ).set k (ad k, .inr (ci, (fs.map (ex_fc ad σ)).set j (.int v))) = ex_W G ad (ex_sF σ n v) := by
  obtain ⟨e1, -, hf⟩ := ex_lay_obj h
  have en := (hf j 0 n hj).2 (Or.inl rfl)
  have hj1 := (hf j 0 n hj).1
  refine ex_W_set h ?_ (fun k' x' hk' hx' => ?_)
  · show Sum.inr (ci, (fs.map (ex_fc ad σ)).set j (.int v)) = Sum.inr (ci, fs.map (ex_fc ad (ex_sF σ n v)))
    congr 2
    apply List.ext_getElem?
    intro i
    rw [List.getElem?_map]
    by_cases hi : i = j
    · subst hi
      rw [List.getElem?_set_self (by rw [List.length_map]; exact (List.getElem?_eq_some_iff.mp hj).1), hj]
      show some (Value.int v) = some (ex_cv ad (.int (upd σ.1 n v n)))
      rw [pk_us]; rfl
    · rw [List.getElem?_set_ne (Ne.symm hi), List.getElem?_map]
      cases hq : fs[i]? with
      | none => rfl
      | some q =>
        show some (ex_fc ad σ q) = some (ex_fc ad (ex_sF σ n v) q)
        unfold ex_fc
        rw [ex_fa_sF (fun z => hi ?_)]
        have := (hf i q.1 q.2 hq).2 (Or.inl z.1)
        omega
  · cases x' with
    | inl a =>
      obtain ⟨kd, m, id⟩ := a
      exact ex_cell_arr rfl rfl
    | inr o =>
      obtain ⟨cj, gs⟩ := o
      obtain ⟨e2, -, hg⟩ := ex_lay_obj hx'
      refine ex_cell_obj (fun i q hq => ex_fa_sF (fun z => hk' ?_))
      have h1 := (hg i q.1 q.2 hq).2 (Or.inl z.1)
      have h2 := (hg i q.1 q.2 hq).1
      omega
theorem ex_W_sG {k ci j n : Nat} {fs : List (Nat × Nat)} {v : Int64} (h : ex_lay[k]? = some (.inr (ci, fs))) (hj : fs[j]? = some (1, n)) : (ex_W G ad σ).set k (ad k, .inr (ci, (fs.map (ex_fc ad σ)).set j (.long v))) = ex_W G ad (ex_sG σ n v) := by
  obtain ⟨e1, -, hf⟩ := ex_lay_obj h
  have en := (hf j 1 n hj).2 (Or.inr rfl)
  have hj1 := (hf j 1 n hj).1
  refine ex_W_set h ?_ (fun k' x' hk' hx' => ?_)
  · show Sum.inr (ci, (fs.map (ex_fc ad σ)).set j (.long v)) = Sum.inr (ci, fs.map (ex_fc ad (ex_sG σ n v)))
    congr 2
    apply List.ext_getElem?
    intro i
    rw [List.getElem?_map]
    by_cases hi : i = j
    · subst hi
      rw [List.getElem?_set_self (by rw [List.length_map]; exact (List.getElem?_eq_some_iff.mp hj).1), hj]
      show some (Value.long v) = some (ex_cv ad (.long (vp_updL σ.2.1 n v n)))
      rw [pk_uLs]; rfl
    · rw [List.getElem?_set_ne (Ne.symm hi), List.getElem?_map]
      cases hq : fs[i]? with
      | none => rfl
      | some q =>
        show some (ex_fc ad σ q) = some (ex_fc ad (ex_sG σ n v) q)
        unfold ex_fc
        rw [ex_fa_sG (fun z => hi ?_)]
        have := (hf i q.1 q.2 hq).2 (Or.inr z.1)
        omega
  · cases x' with
    | inl a =>
      obtain ⟨kd, m, id⟩ := a
      exact ex_cell_arr rfl rfl
    | inr o =>
      obtain ⟨cj, gs⟩ := o
      obtain ⟨e2, -, hg⟩ := ex_lay_obj hx'
      refine ex_cell_obj (fun i q hq => ex_fa_sG (fun z => hk' ?_))
      have h1 := (hg i q.1 q.2 hq).2 (Or.inr z.1)
      have h2 := (hg i q.1 q.2 hq).1
      omega
theorem ex_W_row {k n id : Nat} {f : Nat → Int32} (kd : Nat) (hkd : kd < 2) (h : ex_lay[k]? = some (.inl (kd, n, id))) : (ex_W G ad σ).set k (ad k, .inl (G kd, n, .inl f)) = ex_W G ad (ex_row σ id f) := by
  obtain ⟨e1, -, -⟩ := ex_lay_arr h
  have hs : (ex_row σ id f).2.2.1 id = f := if_pos rfl
  refine ex_W_set h ?_ (fun k' x' hk' hx' => ?_)
  · match kd, hkd with
    | 0, _ => show _ = Sum.inl (G 0, n, Sum.inl ((ex_row σ id f).2.2.1 id)); rw [hs]
    | 1, _ => show _ = Sum.inl (G 1, n, Sum.inl ((ex_row σ id f).2.2.1 id)); rw [hs]
  · cases x' with
    | inl a =>
      obtain ⟨kd', m, id'⟩ := a
      obtain ⟨e2, -, -⟩ := ex_lay_arr hx'
      exact ex_cell_arr (if_neg (fun z => hk' (by omega))) rfl
    | inr o => exact ex_cell_obj (fun i q hq => rfl)
theorem ex_W_sB {k n id i : Nat} {v : Int64} (h : ex_lay[k]? = some (.inl (2, n, id))) : (ex_W G ad σ).set k (ad k, .inl (G 2, n, .inr (.inl (vp_updL (σ.2.2.2 id) i v)))) = ex_W G ad (ex_sB σ id i v) := by
  obtain ⟨e1, -, -⟩ := ex_lay_arr h
  have hs : (ex_sB σ id i v).2.2.2 id = vp_updL (σ.2.2.2 id) i v := if_pos rfl
  refine ex_W_set h ?_ (fun k' x' hk' hx' => ?_)
  · show _ = Sum.inl (G 2, n, Sum.inr (Sum.inl ((ex_sB σ id i v).2.2.2 id)))
    rw [hs]
  · cases x' with
    | inl a =>
      obtain ⟨kd', m, id'⟩ := a
      obtain ⟨e2, -, -⟩ := ex_lay_arr hx'
      exact ex_cell_arr rfl (if_neg (fun z => hk' (by omega)))
    | inr o => exact ex_cell_obj (fun i q hq => rfl)
/-! locals -/
def ex_has (ad : Nat → Nat) (ls : Array Slot) (n : Nat) (lg : List Nat) (lv : List Value) : Prop := ls.size = n ∧ lv_wf ls ∧ lv.length = n ∧ (∀ (i : Nat) (v : Value), lv[i]? = some v → ex_kn v = true → ls[i]? = some (.val (ex_cv ad v))) ∧ ∀ (i : Nat) (x : Int64), lv[i]? = some (.long x) → i + 1 ∈ lg
def ex_al (ad : Nat → Nat) (lv : List Value) : List (Nat × Value) := (List.range lv.length).filterMap (fun i => match lv[i]? with
  | some v => if ex_kn v then some (i, ex_cv ad v) else none
  | none => none)
theorem ex_al_in {lv : List Value} {i : Nat} {v : Value} (h : lv[i]? = some v) (hk : ex_kn v = true) : (i, ex_cv ad v) ∈ ex_al ad lv := by
  refine List.mem_filterMap.mpr ⟨i, List.mem_range.mpr (List.getElem?_eq_some_iff.mp h).1, ?_⟩
  rw [h]; simp [hk]
theorem ex_al_of {lv : List Value} {q : Nat × Value} (h : q ∈ ex_al ad lv) : ∃ v, lv[q.1]? = some v ∧ ex_kn v = true ∧ q.2 = ex_cv ad v := by
  obtain ⟨i, -, h2⟩ := List.mem_filterMap.mp h
  cases hv : lv[i]? with
  | none => rw [hv] at h2; cases h2
  | some v =>
    rw [hv] at h2
    by_cases hk : ex_kn v = true
    · simp only [hk, if_true, Option.some.injEq] at h2
      subst h2
      exact ⟨v, hv, hk, rfl⟩
    · simp [hk] at h2
theorem ex_has.lv {ls : Array Slot} {n : Nat} {lg : List Nat} {lv : List Value} (h : ex_has ad ls n lg lv) : lv_has ls n (ex_al ad lv) := ⟨h.1, h.2.1, fun q hq => by
  obtain ⟨v, h1, h2, h3⟩ := ex_al_of hq
  rw [h3]
  exact h.2.2.2.1 q.1 v h1 h2⟩
theorem ex_cvc (v : Value) : (ex_cv ad v).category = v.category := by cases v <;> rfl
/-- behind a store -/
theorem ex_has.put {ls ls' : Array Slot} {n i : Nat} {lg : List Nat} {lv : List Value} {v w : Value} (h : ex_has ad ls n lg lv) (hc : ex_can lg lv.length i = true) (hv : ex_kn v = true → w = ex_cv ad v) (h2 : v.category = 1)
    (hl : lv_has ls' n ((i, w) :: (ex_al ad lv).filter (fun q => !(q.1 == i) && !(q.1 + 1 == i && q.2.category == 2)))) : ex_has ad ls' n lg (lv.set i v) := by
  simp only [ex_can, Bool.and_eq_true, Bool.not_eq_true'] at hc
  have hi : i < lv.length := Nat.le_of_ble_eq_true hc.1
  have hg : i ∉ lg := fun z => by simp [z] at hc
  refine ⟨hl.1, hl.2.1, by rw [List.length_set]; exact h.2.2.1, fun j u hj hk => ?_, fun j x hj => ?_⟩
  · by_cases e : j = i
    · subst e
      rw [List.getElem?_set_self hi] at hj
      cases hj
      exact hl.2.2 (j, ex_cv ad v) (by rw [hv hk]; exact List.mem_cons_self)
    · rw [List.getElem?_set_ne (Ne.symm e)] at hj
      refine hl.2.2 (j, ex_cv ad u) (List.mem_cons_of_mem _ (List.mem_filter.mpr ⟨ex_al_in hj hk, ?_⟩))
      have e1 : (j == i) = false := by simpa using e
      simp only [e1, Bool.not_false, Bool.true_and, Bool.not_eq_true', Bool.and_eq_false_iff, beq_eq_false_iff_ne, ne_eq]
      by_cases e2 : j + 1 = i
      · right
        rw [ex_cvc]
        intro hz
        cases u <;> simp [Value.category, ex_kn] at hz hk
        · exact hg (e2 ▸ h.2.2.2.2 j _ hj)
      · exact Or.inl e2
  · by_cases e : j = i
    · subst e
      rw [List.getElem?_set_self hi] at hj
      cases hj
      simp [Value.category] at h2
    · rw [List.getElem?_set_ne (Ne.symm e)] at hj
      exact h.2.2.2.2 j x hj
end EXW
end
section
/-! ===== what the pure machine's words rest on ===== -/
section EXS
set_option maxRecDepth 20000
def ex_strs : List (String × Nat × String) := (ex_thr 4).map (fun q => (RX4, q.2.1, q.2.2.2.2))
def ex_xs : List String := (ex_cat 6).map Prod.snd
/-- what a method finds around its world: tables, Throwable's statics, texts, words that don't stay by themselves -/
def ex_cx (D : va_G) (G : Nat → ClassId) (A : Nat → Prop) (U : State) (H : Heap) : Prop :=
  va_K D ex_cl (ex_tys G) U ∧ vx_Zq Bundle.tN "UNASSIGNED_STACK" Bundle.steD A U H ∧ vx_Zq Bundle.tN "SUPPRESSED_SENTINEL" Bundle.listD A U H ∧ (∀ w ∈ ex_nw, va_Nw w U) ∧ (∀ q ∈ ex_strs, ∃ sa, vk_R q.1 q.2.1 q.2.2 sa U) ∧ ∀ x ∈ ex_xs, ∀ y ∈ ex_xs, x ≠ y → va_Nc x y U
theorem ex_cx.warm {D : va_G} {G : Nat → ClassId} {A : Nat → Prop} {s U : State} {H : Heap} (hW : s.WarmedH U.vm) (h : ex_cx D G A s H) : ex_cx D G A U H := by
  obtain ⟨h1, h2, h3, h4, h5, h6⟩ := h
  refine ⟨va_K.moved hW.alike h1, h2.moved hW.alike, h3.moved hW.alike, fun w hw => ?_, fun q hq => ?_, fun x hx y hy hn => (h6 x hx y hy hn).moved hW.alike⟩
  · have h7 := h4 w hw
    have h8 := (List.mem_filter.mp hw).2
    cases w <;> simp [ex_isn] at h8
    case fieldLinkNest => exact va_Nw.warmF hW h7
    case declares => exact va_Nw.warmD hW h7
    case castable => exact va_Nw.warmC hW h7
  · obtain ⟨sa, h7⟩ := h5 q hq
    exact ⟨sa, vk_R.warm hW h7⟩
theorem ex_cx.kept {D : va_G} {G : Nat → ClassId} {A : Nat → Prop} {U : State} {H H1 : Heap} (hq : ∀ a : Nat, a < H.size → ¬ A a → H1[a]? = H[a]?) (h : ex_cx D G A U H) : ex_cx D G A U H1 :=
  ⟨h.1, h.2.1.kept hq, h.2.2.1.kept hq, h.2.2.2⟩
theorem ex_cx.narrow {D : va_G} {G : Nat → ClassId} {A B : Nat → Prop} {U : State} {H : Heap} (h : ex_cx D G A U H) (hAB : ∀ q, B q → A q) : ex_cx D G B U H :=
  ⟨h.1, h.2.1.narrow hAB, h.2.2.1.narrow hAB, h.2.2.2⟩
def ex_Pc (D : va_G) (G : Nat → ClassId) (ad : Nat → Nat) (a : List Value) (σ : ex_S) (sz : Nat) : Array Value → State → Prop := va_Pc (a.map (ex_cv ad)) (fun U => U.heap.size = sz ∧ va_P D ex_cl (ex_W G ad σ) U.heap ∧ ex_cx D G (ex_A ad sz) U U.heap)
def ex_Qc (D : va_G) (G : Nat → ClassId) (ad : Nat → Nat) (E : ex_O → ex_S → Prop) (sz : Nat) : Array Value → State → Outcome → State → Prop := fun _ st oc t => (∃ (v : Option Value) (σ' : ex_S), oc = .returned (v.map (ex_cv ad)) ∧ E (.inl v) σ' ∧ va_P D ex_cl (ex_W G ad σ') t.heap) ∧ va_F (ex_A ad sz) st t
def ex_XC (D : va_G) (G : Nat → ClassId) (ad : Nat → Nat) (E : ex_O → ex_S → Prop) (sz : Nat) : String → State → State → Prop := fun x st t => ∃ σ' : ex_S, E (.inr x) σ' ∧ va_P D ex_cl (ex_W G ad σ') t.heap ∧ va_F (ex_A ad sz) st t
def ex_rm (d : Nat) (μ : ex_MD) : Room := { frames := d + 6, cells := ex_mc μ, slots := 6 * ex_mc μ, locals := 60 * d + 200 }
def ex_Met (l : Launch) (D : va_G) (G : Nat → ClassId) (ad : Nat → Nat) (d : Nat) (μ : ex_MD) (a : List Value) (σ : ex_S) (E : ex_O → ex_S → Prop) (sz : Nat) : Prop :=
  vx_Met l (ex_y μ) (ex_cw μ :: ex_tb) (ex_rm d μ) (ex_Pc D G ad a σ sz) (ex_Qc D G ad E sz) (ex_XC D G ad E sz) (ex_mc μ) (6 * ex_mc μ) (ex_A ad sz)
theorem ex_Pc.blind {D : va_G} {G : Nat → ClassId} {ad : Nat → Nat} {a : List Value} {σ : ex_S} {sz : Nat} : FrameBlind (ex_Pc D G ad a σ sz) := fun v U g mk h => ⟨h.1, h.2.1, h.2.2.1, ex_cx.warm (State.WarmedH.refl U) h.2.2.2⟩
/-! tables -/
theorem ex_find_mem {α : Type} : ∀ {l : List (Nat × α)} {n : Nat} {a : α}, ex_find l n = some a → (n, a) ∈ l
  | [], _, _, h => by cases h
  | (k, b) :: t, n, a, h => by
    unfold ex_find at h
    split at h
    · rename_i hk
      cases h
      rw [beq_iff_eq.mp hk]
      exact List.mem_cons_self
    · exact List.mem_cons_of_mem _ (ex_find_mem h)
theorem ex_md_mem {M : Nat} {μ : ex_MD} (h : ex_md M = some μ) : μ ∈ ex_mds := List.mem_of_getElem? h
theorem ex_cls_ok {ci : Nat} {q : vw_C} (h : ex_cl[ci]? = some q) : (∀ w ∈ u_ws q.1 q.2.1 q.2.2, w ∈ ex_tb) ∧ (∃ ty0 : Nat → FieldType, ∀ k, k < q.2.2 → parseFieldDescriptor (q.2.1 k).2.2.1 = some (ty0 k)) ∧ ∀ a, a < q.2.2 → ∀ b, b < q.2.2 → a ≠ b → (q.2.1 a).2.1 ≠ (q.2.1 b).2.1 := by
  have key : ∀ {ws : List Cond} {ps : List Nat}, ex_all2 (fun w i => ex_wp i w && goodWord w) ws ps = true → ∀ w ∈ ws, w ∈ ex_tb := fun h w hw => by
    obtain ⟨i, hi⟩ := ex_all2_at h w hw
    exact ex_wp_tb hi
  match ci, h with
  | 0, h => cases h; exact ⟨key ex_ok_lays_0, ⟨_, tyX0_ok⟩, nmX0⟩
  | 1, h => cases h; exact ⟨key ex_ok_lays_1, ⟨_, tyX1_ok⟩, nmX1⟩
  | 2, h => cases h; exact ⟨key ex_ok_lays_2, ⟨_, tyX2_ok⟩, nmX2⟩
  | 3, h => cases h; exact ⟨key ex_ok_lays_3, ⟨_, tyX3_ok⟩, nmX3⟩
  | 4, h => cases h; exact ⟨key ex_ok_lays_4, ⟨_, tyX4_ok⟩, nmX4⟩
  | 5, h => cases h; exact ⟨key ex_ok_lays_5, ⟨_, tyX5_ok⟩, nmX5⟩
  | n + 6, h => simp at h
theorem ex_fld_ok {K idx ci j : Nat} {ne : Bool} (hK : K < 8) (h : ex_find (ex_fld K) idx = some (ci, j, ne)) : ∃ q : vw_C, ex_cl[ci]? = some q ∧ j < q.2.2 ∧ (ne = false → Cond.fieldLink (ex_own K) idx (q.2.1 j).1 (q.2.1 j).2.1 (q.2.1 j).2.2.1 ∈ ex_tb) ∧ (ne = true → Cond.fieldLinkNest (ex_own K) idx (q.2.1 j).1 (q.2.1 j).2.1 (q.2.1 j).2.2.1 "DarkDesk" ∈ ex_nw) := by
  obtain ⟨i, hi⟩ := ex_all2_at (ex_okf_all K hK) _ (ex_find_mem h)
  unfold ex_okf at hi
  split at hi
  · rename_i C T N hc
    dsimp only at hc hi
    rw [Bool.and_eq_true] at hi
    refine ⟨_, hc, of_decide_eq_true hi.1, fun e => ?_, fun e => ?_⟩
    · subst e
      exact List.mem_filter.mpr ⟨ex_wp_in hi.2, rfl⟩
    · subst e
      exact List.mem_filter.mpr ⟨ex_wp_in hi.2, rfl⟩
  · cases hi
theorem ex_cst_ok {K idx : Nat} {v : Int32} (hK : K < 8) (h : ex_find (ex_cst K) idx = some v) : Cond.constant (ex_own K) idx v ∈ ex_tb := by
  obtain ⟨i, hi⟩ := ex_all2_at (ex_ok_cst K hK) _ (ex_find_mem h)
  exact List.mem_filter.mpr ⟨ex_wp_in hi, rfl⟩
theorem ex_nat_ok {K idx n : Nat} (hK : K < 8) (h : ex_find (ex_nat K) idx = some n) : Cond.methodLink (ex_own K) idx (ex_natn n) ∈ ex_tb := by
  obtain ⟨i, hi⟩ := ex_all2_at (ex_okn_all K hK) _ (ex_find_mem h)
  exact List.mem_filter.mpr ⟨ex_wp_in hi, rfl⟩
theorem ex_nat_ws : Cond.static Lib.Math.max.name ∈ ex_tb ∧ Cond.static Lib.Math.min.name ∈ ex_tb ∧ Cond.static arraycopyName ∈ ex_tb ∧ Cond.native arraycopyName ∈ ex_tb ∧ Cond.initialized "java/lang/Math" ∈ ex_tb ∧ Cond.initialized "java/lang/System" ∈ ex_tb ∧ Cond.code Lib.Math.max.name Lib.Math.max.code 2 (some .int) ∈ ex_tb ∧ Cond.code Lib.Math.min.name Lib.Math.min.code 2 (some .int) ∈ ex_tb := by
  have h := ex_nat_w
  simp only [Bool.and_eq_true] at h
  obtain ⟨⟨⟨⟨⟨h1, h2⟩, h3⟩, h4⟩, h5⟩, h6⟩ := h
  exact ⟨List.mem_filter.mpr ⟨ex_wp_in h1, rfl⟩, List.mem_filter.mpr ⟨ex_wp_in h2, rfl⟩, List.mem_filter.mpr ⟨ex_wp_in h3, rfl⟩, List.mem_filter.mpr ⟨ex_wp_in h4, rfl⟩, List.mem_filter.mpr ⟨ex_wp_in h5, rfl⟩, List.mem_filter.mpr ⟨ex_wp_in h6, rfl⟩, List.mem_filter.mpr ⟨List.mem_of_getElem? ex_nat_max, rfl⟩, List.mem_filter.mpr ⟨List.mem_of_getElem? ex_nat_min, rfl⟩⟩
theorem ex_cal_law : ∀ K, K < 8 → ∀ q ∈ ex_cal K, q.2 ≠ ex_law := by decide +kernel
theorem ex_md_ok {M : Nat} {μ : ex_MD} (h : ex_md M = some μ) : plainName (ex_y μ).cls = true ∧ ((ex_y μ).cls ≠ "java/lang/invoke/MethodHandle" ∧ (ex_y μ).cls ≠ "java/lang/invoke/VarHandle" ∧ (parseMethodDescriptor (ex_y μ).desc).map (fun d => d.parameters.length) = some (ex_np μ)) ∧ ex_maxL μ ≤ 40 ∧ ex_own (ex_K μ) = (ex_y μ).cls := by
  have h1 := ex_okm_all μ (ex_md_mem h)
  simp only [ex_okm, Bool.and_eq_true, bne_iff_ne, ne_eq, decide_eq_true_eq, beq_iff_eq] at h1
  obtain ⟨⟨⟨⟨⟨a1, a2⟩, a3⟩, a4⟩, a5⟩, a6⟩ := h1
  exact ⟨a1, ⟨a2, a3, a4⟩, Nat.le_of_ble_eq_true a5, a6⟩
theorem ex_cw_good (μ : ex_MD) : goodWord (ex_cw μ) = true := by
  unfold ex_cw
  split <;> rfl
theorem ex_cw_ok {M : Nat} {μ : ex_MD} (h : ex_md M = some μ) (hl : M ≠ ex_law) : ex_cw μ ∈ ex_tb := by
  have hM : M < ex_mds.length := (List.getElem?_eq_some_iff.mp h).1
  rw [ex_mds_len] at hM
  obtain ⟨i, hi⟩ := ex_okw_all M hM hl
  unfold ex_okw at hi
  rw [h] at hi
  exact List.mem_filter.mpr ⟨List.mem_of_getElem? hi, ex_cw_good μ⟩
theorem ex_cal_ok {K idx M : Nat} (hK : K < 8) (h : ex_find (ex_cal K) idx = some M) {μ : ex_MD} (hm : ex_md M = some μ) : ex_cw μ ∈ ex_tb ∧ Cond.methodLink (ex_own K) idx (ex_y μ) ∈ ex_tb ∧ Cond.initialized (ex_y μ).cls ∈ ex_tb ∧ (ex_inst μ = 0 → Cond.static (ex_y μ) ∈ ex_tb) ∧ (ex_inst μ = 1 → Cond.instanceMethod (ex_y μ) ∈ ex_tb ∧ Cond.selects (ex_y μ).cls (ex_y μ) (ex_y μ) ∈ ex_tb ∧ ∃ z, ex_cl[ex_K μ]? = some z ∧ z.1 = (ex_y μ).cls) := by
  obtain ⟨i, hi⟩ := ex_all2_at (ex_okc_all K hK) _ (ex_find_mem h)
  unfold ex_okc at hi
  rw [hm] at hi
  simp only [Bool.and_eq_true] at hi
  obtain ⟨⟨h1, h2⟩, h3⟩ := hi
  refine ⟨ex_cw_ok hm (ex_cal_law K hK _ (ex_find_mem h)), List.mem_filter.mpr ⟨ex_wp_in h1, rfl⟩, List.mem_filter.mpr ⟨ex_wp_in h2, rfl⟩, fun e => ?_, fun e => ?_⟩
  · rw [e] at h3
    exact List.mem_filter.mpr ⟨ex_wp_in h3, rfl⟩
  · rw [e] at h3
    simp only [Bool.and_eq_true] at h3
    obtain ⟨⟨h4, h5⟩, h6⟩ := h3
    refine ⟨List.mem_filter.mpr ⟨ex_wp_in h4, rfl⟩, List.mem_filter.mpr ⟨ex_wp_in h5, rfl⟩, ?_⟩
    split at h6
    · rename_i z hz
      exact ⟨z, hz, beq_iff_eq.mp h6⟩
    · cases h6
theorem ex_cat_ok : ∀ K, K < 8 → ∀ q ∈ ex_cat K, (Cond.classLink (ex_own K) q.1 q.2 ∈ lw_tbl) ∧ (Cond.castable q.2 q.2 ∈ lw_tbl) ∧ q.1 ≠ 0 ∧ q.2 ∈ ex_xs := by decide +kernel
theorem ex_K_lt : ∀ μ ∈ ex_mds, ex_K μ < 8 := by decide +kernel
theorem ex_good_in {ws : List Cond} (h : ∀ w ∈ ws, w ∈ ex_tb) : GoodIn ex_tb ws := fun w hw => ⟨h w hw, good_of_word (List.mem_filter.mp (h w hw)).2⟩
end EXS
end
section
/-! ===== the machine does what the pure machine does: one instruction ===== -/
section EXE
theorem ex_p1_e {st : List Value} {k : Int32 → List Value → Prop} (h : ex_p1 st k) : ∃ x r, st = .int x :: r ∧ k x r := by
  unfold ex_p1 at h; split at h
  · exact ⟨_, _, rfl, h⟩
  · exact h.elim
theorem ex_p2_e {st : List Value} {k : Int32 → Int32 → List Value → Prop} (h : ex_p2 st k) : ∃ x y r, st = .int y :: .int x :: r ∧ k x y r := by
  unfold ex_p2 at h; split at h
  · exact ⟨_, _, _, rfl, h⟩
  · exact h.elim
theorem ex_pl_e {st : List Value} {k : Int64 → List Value → Prop} (h : ex_pl st k) : ∃ x r, st = .long x :: r ∧ k x r := by
  unfold ex_pl at h; split at h
  · exact ⟨_, _, rfl, h⟩
  · exact h.elim
theorem ex_pll_e {st : List Value} {k : Int64 → Int64 → List Value → Prop} (h : ex_pll st k) : ∃ x y r, st = .long y :: .long x :: r ∧ k x y r := by
  unfold ex_pll at h; split at h
  · exact ⟨_, _, _, rfl, h⟩
  · exact h.elim
theorem ex_pli_e {st : List Value} {k : Int64 → Int32 → List Value → Prop} (h : ex_pli st k) : ∃ x y r, st = .int y :: .long x :: r ∧ k x y r := by
  unfold ex_pli at h; split at h
  · exact ⟨_, _, _, rfl, h⟩
  · exact h.elim
theorem ex_pr_e {st : List Value} {k : Nat → List Value → Prop} (h : ex_pr st k) : ∃ x r, st = .ref x :: r ∧ k x r := by
  unfold ex_pr at h; split at h
  · exact ⟨_, _, rfl, h⟩
  · exact h.elim
theorem ex_pa_e {st : List Value} {k : Nat → Int32 → List Value → Prop} (h : ex_pa st k) : ∃ a i r, st = .int i :: .ref a :: r ∧ k a i r := by
  unfold ex_pa at h; split at h
  · exact ⟨_, _, _, rfl, h⟩
  · exact h.elim
theorem ex_pai_e {st : List Value} {k : Nat → Int32 → Int32 → List Value → Prop} (h : ex_pai st k) : ∃ a i v r, st = .int v :: .int i :: .ref a :: r ∧ k a i v r := by
  unfold ex_pai at h; split at h
  · exact ⟨_, _, _, _, rfl, h⟩
  · exact h.elim
theorem ex_pal_e {st : List Value} {k : Nat → Int32 → Int64 → List Value → Prop} (h : ex_pal st k) : ∃ a i v r, st = .long v :: .int i :: .ref a :: r ∧ k a i v r := by
  unfold ex_pal at h; split at h
  · exact ⟨_, _, _, _, rfl, h⟩
  · exact h.elim
theorem ex_jmp_e {pc : Nat} {off : Int} {k : Nat → Prop} (h : ex_jmp pc off k) : ∃ t : Nat, (pc : Int) + off = (t : Int) ∧ k t := by
  unfold ex_jmp at h; split at h
  · rename_i t ht
    exact ⟨t, ht, h⟩
  · exact h.elim
theorem ex_ldI_e {lv : List Value} {i : Nat} {k : Int32 → Prop} (h : ex_ldI lv i k) : ∃ x, lv[i]? = some (.int x) ∧ k x := by
  unfold ex_ldI at h; split at h
  · rename_i x hx
    exact ⟨x, hx, h⟩
  · exact h.elim
theorem ex_ldL_e {lv : List Value} {i : Nat} {k : Int64 → Prop} (h : ex_ldL lv i k) : ∃ x, lv[i]? = some (.long x) ∧ k x := by
  unfold ex_ldL at h; split at h
  · rename_i x hx
    exact ⟨x, hx, h⟩
  · exact h.elim
theorem ex_ldR_e {lv : List Value} {i : Nat} {k : Nat → Prop} (h : ex_ldR lv i k) : ∃ x, lv[i]? = some (.ref x) ∧ k x := by
  unfold ex_ldR at h; split at h
  · rename_i x hx
    exact ⟨x, hx, h⟩
  · exact h.elim
theorem ex_put_e {lg : List Nat} {lv : List Value} {i : Nat} {v : Value} {k : List Value → Prop} (h : ex_put lg lv i v k) : ex_can lg lv.length i = true ∧ k (lv.set i v) := by
  unfold ex_put at h; split at h
  · rename_i hx
    exact ⟨hx, h⟩
  · exact h.elim
theorem ex_getf_e {K idx a : Nat} {σ : ex_S} {k : Value → Prop} (h : ex_getf K idx a σ k) : ∃ ci j ne fs q, ex_find (ex_fld K) idx = some (ci, j, ne) ∧ ex_lay[a]? = some (.inr (ci, fs)) ∧ fs[j]? = some q ∧ k (ex_fa σ q) := by
  unfold ex_getf at h
  split at h
  · rename_i ci j ne h1
    split at h
    · rename_i cj fs h2
      split at h
      · rename_i h3
        subst h3
        split at h
        · rename_i q h4
          exact ⟨_, _, _, _, _, h1, h2, h4, h⟩
        · exact h.elim
      · exact h.elim
    · exact h.elim
  · exact h.elim
theorem ex_putf_e {K idx a : Nat} {k : Nat → Nat → Bool → Prop} (h : ex_putf K idx a k) : ∃ ci j ne fs t n z, ex_find (ex_fld K) idx = some (ci, j, ne) ∧ ex_lay[a]? = some (.inr (ci, fs)) ∧ fs[j]? = some (t, n) ∧ k t n z ∧ ∀ q, ex_cl[ci]? = some q → (q.2.1 j).2.2.2 = false ∧ ((t = 0 ∧ z = false ∧ (q.2.1 j).2.2.1 = "I") ∨ (t = 0 ∧ z = true ∧ (q.2.1 j).2.2.1 = "Z") ∨ (t = 1 ∧ z = false ∧ (q.2.1 j).2.2.1 = "J")) := by
  unfold ex_putf at h
  split at h
  · rename_i ci j ne h1
    split at h
    · rename_i cj fs h2
      split at h
      · rename_i h3
        subst h3
        split at h
        · rename_i n h4
          split at h
          · rename_i q hq
            split at h
            · exact h.elim
            · rename_i hf
              split at h
              · rename_i hd
                exact ⟨_, _, _, _, _, _, _, h1, h2, h4, h, fun q' hq' => by cases hq.symm.trans hq'; exact ⟨by simpa using hf, Or.inl ⟨rfl, rfl, beq_iff_eq.mp hd⟩⟩⟩
              · split at h
                · rename_i hd
                  exact ⟨_, _, _, _, _, _, _, h1, h2, h4, h, fun q' hq' => by cases hq.symm.trans hq'; exact ⟨by simpa using hf, Or.inr (Or.inl ⟨rfl, rfl, beq_iff_eq.mp hd⟩)⟩⟩
                · exact h.elim
          · exact h.elim
        · rename_i n h4
          split at h
          · rename_i q hq
            split at h
            · exact h.elim
            · rename_i hf
              split at h
              · rename_i hd
                exact ⟨_, _, _, _, _, _, _, h1, h2, h4, h, fun q' hq' => by cases hq.symm.trans hq'; exact ⟨by simpa using hf, Or.inr (Or.inr ⟨rfl, rfl, beq_iff_eq.mp hd⟩)⟩⟩
              · exact h.elim
          · exact h.elim
        · exact h.elim
      · exact h.elim
    · exact h.elim
  · exact h.elim
theorem ex_arr_e {kind a : Nat} {k : Nat → Nat → Prop} (h : ex_arr kind a k) : ∃ n id, ex_lay[a]? = some (.inl (kind, n, id)) ∧ k n id := by
  unfold ex_arr at h
  split at h
  · rename_i kd n id h1
    split at h
    · rename_i h2
      subst h2
      exact ⟨_, _, h1, h⟩
    · exact h.elim
  · exact h.elim
theorem ex_room_e {st : List Value} (h : ex_room st = true) (ad : Nat → Nat) : ((st.map (ex_cv ad)).map fun v => v.category).sum ≤ 8 := by
  have e : (st.map (ex_cv ad)).map (fun v => v.category) = st.map fun v => v.category := by
    rw [List.map_map]
    exact List.map_congr_left (fun v _ => ex_cvc v)
  rw [e]
  exact Nat.le_of_ble_eq_true h
theorem ex_bool_n {v : Int32} (h : ex_bool v) : narrow .boolean (.int v) = .int v ∧ fits .boolean (.int v) = true ∧ vp_nar .boolean v = v := by
  rcases h with rfl | rfl <;> decide +kernel
theorem ex_hnd_e {K pc : Nat} {x : String} : ∀ {hh : List (Nat × Nat × Nat × Nat)} {h : Nat}, ex_hnd K pc x hh = some h → ∃ pre z suf, hh = pre ++ z :: suf ∧ (z.1 ≤ pc ∧ pc < z.2.1) ∧ z.2.2.1 = h ∧ ex_find (ex_cat K) z.2.2.2 = some x ∧ ∀ y ∈ pre, ¬ (y.1 ≤ pc ∧ pc < y.2.1) ∨ ∃ n, ex_find (ex_cat K) y.2.2.2 = some n ∧ n ≠ x
  | [], _, e => by cases e
  | (a, b, g, t) :: r, h, e => by
    unfold ex_hnd at e
    split at e
    · rename_i hc
      rw [Bool.and_eq_true] at hc
      split at e
      · rename_i n hn
        split at e
        · rename_i hx
          cases e
          exact ⟨[], _, r, rfl, ⟨Nat.le_of_ble_eq_true hc.1, Nat.le_of_ble_eq_true hc.2⟩, rfl, by rw [hn, beq_iff_eq.mp hx], fun _ q => nomatch q⟩
        · rename_i hx
          obtain ⟨pre, z, suf, h1, h2, h3, h4, h5⟩ := ex_hnd_e e
          refine ⟨(a, b, g, t) :: pre, z, suf, by rw [h1]; rfl, h2, h3, h4, fun y hy => ?_⟩
          rcases List.mem_cons.mp hy with rfl | hy
          · exact Or.inr ⟨n, hn, fun q => hx (beq_iff_eq.mpr q)⟩
          · exact h5 y hy
      · cases e
    · rename_i hc
      obtain ⟨pre, z, suf, h1, h2, h3, h4, h5⟩ := ex_hnd_e e
      refine ⟨(a, b, g, t) :: pre, z, suf, by rw [h1]; rfl, h2, h3, h4, fun y hy => ?_⟩
      rcases List.mem_cons.mp hy with rfl | hy
      · refine Or.inl (fun q => hc ?_)
        rw [Bool.and_eq_true]
        exact ⟨Nat.ble_eq_true_of_le q.1, Nat.ble_eq_true_of_le q.2⟩
      · exact h5 y hy
end EXE
end
section
/-! ===== the machine does what the pure machine does ===== -/
section EXC
variable {p : Program} {l : Launch} {e : Env} {R : Room} {s : State} {m : MethodId} {args : Array Value} {below : List Frame} {meth : Method} {c : Code} {Q : State → Prop}
variable {D : va_G} {G : Nat → ClassId} {ad : Nat → Nat} {A : Nat → Prop} {μ : ex_MD} {mcR msR : Nat} {H : Heap} {locs : List Loc} {cells slots : Nat} {pc : Nat} {ls : Array Slot}
theorem ex_AA {sz : Nat} (hsz : s.heap.size ≤ sz) (hA : ∀ q, s.heap.size ≤ q → A q) (hAk : ∀ k, k < 59 → A (ad k)) : ∀ q, ex_A ad sz q → A q := fun q h => by
  rcases h with ⟨k, hk, rfl⟩ | h
  · exact hAk k hk
  · exact hA q (Nat.le_trans hsz h)
theorem ex_callrow {mc ms : Nat} {st0 rest : List Value} {a : Array Value} {E' : ex_O → ex_S → Prop} (hr : vx_Run p l e R s m args below meth c H locs cells slots mc ms (F0 m pc ls st0) rest (ex_Qc D G ad E' H.size a) (ex_XC D G ad E' H.size) (ex_A ad H.size)) (hS : va_S A s.heap H locs) (hA : ∀ q, s.heap.size ≤ q → A q) (hAk : ∀ k, k < 59 → A (ad k))
    (kk : ∀ (v : Option Value) (σ' : ex_S) (H1 : Heap) (locs1 : List Loc), E' (.inl v) σ' → va_P D ex_cl (ex_W G ad σ') H1 → va_S A s.heap H1 locs1 → W p l e R s m args below meth c H1 locs1 (cells + mc) (slots + ms) Q (F0 m (pc + 3) ls ((v.map (ex_cv ad)).toList ++ rest)))
    (kx : ∀ (x : String) (σ' : ex_S) (ce : Cell) (q9 : Addr) (H1 : Heap) (locs1 : List Loc), E' (.inr x) σ' → va_P D ex_cl (ex_W G ad σ') H1 → va_S A s.heap H1 locs1 → H1[q9]? = some ce → ce.vm = .none → s.vm.findClass x = some ce.cls → vx_W p l e R s m args below meth c H1 locs1 (cells + mc) (slots + ms) Q (F0 m pc ls rest) q9) :
    W p l e R s m args below meth c H locs cells slots Q (F0 m pc ls st0) := by
  intro T hT X
  have hAA := ex_AA (A := A) (ad := ad) hS.1 hA hAk
  rcases hr T hT X with ⟨v, st₀, t, T', L, h0, X', hL, e1, e2, ⟨⟨w, σ', hv, hE, hP⟩, hF⟩, st⟩ | ⟨q, st₀, t, T', L, x, ce, h0, X', hL, e1, e2, ⟨σ', hE, hP, hF⟩, hce, hcv, hcl, st⟩
  · cases hv
    obtain ⟨k1, k2, k3⟩ := vx_keep h0 e1 hS (fun q _ h => hAA q h) hAA hL hF
    obtain ⟨t2, a1, b1⟩ := kk w σ' T'.heap (locs ++ L) hE (by rw [e1]; exact hP) k3 T' rfl X'
    exact ⟨t2, st t2 a1, b1⟩
  · obtain ⟨k1, k2, k3⟩ := vx_keep h0 e1 hS (fun q _ h => hAA q h) hAA hL hF
    obtain ⟨t2, a1, b1⟩ := kx x σ' ce q T'.heap (locs ++ L) hE (by rw [e1]; exact hP) k3 (by rw [e1]; exact hce) hcv hcl T' rfl X'
    exact ⟨t2, st.trans a1, b1⟩
theorem ex_pre {a : List Value} {σ : ex_S} (hcx : ex_cx D G A s s.heap) (hP : va_P D ex_cl (ex_W G ad σ) H) (hS : va_S A s.heap H locs) (hA : ∀ q, s.heap.size ≤ q → A q) (hAk : ∀ k, k < 59 → A (ad k)) (U : State) (hU : U.heap = H) (hW : s.WarmedH U.vm) : ex_Pc D G ad a σ H.size (a.map (ex_cv ad)).toArray U := by
  refine ⟨rfl, by rw [hU], by rw [hU]; exact hP, ?_⟩
  rw [hU]
  exact ex_cx.warm hW ((hcx.kept hS.2.1).narrow (ex_AA hS.1 hA hAk))
theorem ex_inst_hh : ∀ μ ∈ ex_mds, ex_inst μ = 1 → ex_hh μ = none := by decide +kernel
/-- a call of a method of the tables -/
theorem ex_run {idx M d inst : Nat} {ν : ex_MD} {a rest : List Value} {σ : ex_S} {E' : ex_O → ex_S → Prop} (hx : p.tables.exec = Jvm.exec) (hb : c.code = ex_bytes μ) (hml : c.maxLocals = ex_maxL μ) (hK : ex_K μ < 8) (hown : s.vm.findClass (ex_own (ex_K μ)) = some m.cls) (hts : ∀ w ∈ ex_tb, w.before args s = true) (hcx : ex_cx D G A s s.heap) (hA : ∀ q, s.heap.size ≤ q → A q) (hAk : ∀ k, k < 59 → A (ad k))
    (hcal : ex_find (ex_cal (ex_K μ)) idx = some M) (hmd : ex_md M = some ν) (hi : inst = ex_inst ν) (hM : ex_Met l D G ad d ν a σ E' H.size) (hself : ex_self ν a = true) (hroom : ex_room rest = true)
    (hP : va_P D ex_cl (ex_W G ad σ) H) (hS : va_S A s.heap H locs) (hsize : ls.size = ex_maxL μ) (hR : d + 7 ≤ R.frames ∧ 60 * d + 259 ≤ R.locals) (hf : cells + ex_mc ν ≤ R.cells ∧ slots + 6 * ex_mc ν ≤ R.slots)
    (hd1 : inst = 1 → decode (ex_bytes μ) pc = .ok (.invokevirtual idx, 3)) (hd0 : inst = 0 → decode (ex_bytes μ) pc = .ok (.invokestatic idx, 3)) (hii : inst = 0 ∨ inst = 1) :
    vx_Run p l e R s m args below meth c H locs cells slots (ex_mc ν) (6 * ex_mc ν) (F0 m pc ls ((a.reverse ++ rest).map (ex_cv ad))) (rest.map (ex_cv ad)) (ex_Qc D G ad E' H.size (a.map (ex_cv ad)).toArray) (ex_XC D G ad E' H.size) (ex_A ad H.size) := by
  obtain ⟨k1, k2, k3, k4, k5⟩ := ex_cal_ok hK hcal hmd
  obtain ⟨o1, o2, o3, o4⟩ := ex_md_ok hmd
  have hRR : (ex_rm d ν).frames + 1 ≤ R.frames ∧ 8 + (ex_maxL ν + 11) + (ex_rm d ν).locals ≤ R.locals := by
    show d + 6 + 1 ≤ R.frames ∧ 8 + (ex_maxL ν + 11) + (60 * d + 200) ≤ R.locals
    omega
  have hst : (a.reverse ++ rest).map (ex_cv ad) = (a.map (ex_cv ad)).reverse ++ rest.map (ex_cv ad) := by
    rw [List.map_append, List.map_reverse]
  have hroom' := lv_room (m := m) (pc := pc) (ls := ls) (rest := (a.reverse ++ rest).map (ex_cv ad)) (ex_room_e hroom ad)
  rcases hii with rfl | rfl
  · have hlen : (a.map (ex_cv ad)).length = ex_np ν := by
      rw [List.length_map]
      unfold ex_self at hself
      rw [← hi, Bool.and_eq_true] at hself
      exact beq_iff_eq.mp hself.2
    have hpre : PreS s H (ex_Pc D G ad a σ H.size) (a.map (ex_cv ad)) := ⟨ex_Pc.blind, fun U hU hW => ex_pre hcx hP hS hA hAk U hU hW⟩
    cases hh : ex_hh ν with
    | none =>
      have hcw : ex_cw ν = Cond.code (ex_y ν) (ex_bytes ν) (ex_maxL ν) (ex_ret ν) := by unfold ex_cw; rw [hh]
      have hg : GoodIn ex_tb (va_wsS (ex_own (ex_K μ)) idx (ex_y ν) (ex_cw ν :: ex_tb)) := ex_good_in (fun w hw => by
        simp only [va_wsS, List.mem_append, List.mem_cons, List.not_mem_nil, or_false] at hw
        rcases hw with (rfl | rfl | rfl) | rfl | hw
        · exact k2
        · exact k4 hi.symm
        · exact k3
        · exact k1
        · exact hw)
      exact vx_runS (S := ⟨hx, hb, hml, hown, hts⟩) hM (va_cwS (bytes := ex_bytes ν) (maxL := ex_maxL ν) (ret := ex_ret ν) (ex_np ν) hts hg (by rw [hcw]) rfl rfl o2 hRR) hpre rfl hlen hsize hst hroom' (hd0 rfl) hf
    | some hh' =>
      have hcw : ex_cw ν = Cond.codeWith (ex_y ν) (ex_bytes ν) (ex_maxL ν) (ex_ret ν) hh' := by unfold ex_cw; rw [hh]
      have hg : GoodIn ex_tb (va_wsS (ex_own (ex_K μ)) idx (ex_y ν) (ex_cw ν :: ex_tb)) := ex_good_in (fun w hw => by
        simp only [va_wsS, List.mem_append, List.mem_cons, List.not_mem_nil, or_false] at hw
        rcases hw with (rfl | rfl | rfl) | rfl | hw
        · exact k2
        · exact k4 hi.symm
        · exact k3
        · exact k1
        · exact hw)
      exact vx_runSX (S := ⟨hx, hb, hml, hown, hts⟩) hM (vx_cwSW (bytes := ex_bytes ν) (maxL := ex_maxL ν) (ret := ex_ret ν) (ex_np ν) hts hg (by rw [hcw]) rfl rfl o2 hRR) hpre rfl hlen hsize hst hroom' (hd0 rfl) hf
  · have hh : ex_hh ν = none := ex_inst_hh ν (ex_md_mem hmd) hi.symm
    have hcw : ex_cw ν = Cond.code (ex_y ν) (ex_bytes ν) (ex_maxL ν) (ex_ret ν) := by unfold ex_cw; rw [hh]
    obtain ⟨j1, j2, z, j3, j4⟩ := k5 hi.symm
    unfold ex_self at hself
    rw [← hi] at hself
    simp only [Bool.and_eq_true] at hself
    obtain ⟨-, hl1, hself⟩ := hself
    split at hself
    · rename_i r as'
      split at hself
      · rename_i ci fs hlay
        have hci : ci = ex_K ν := beq_iff_eq.mp hself
        subst hci
        have hlen : (as'.map (ex_cv ad)).length = ex_np ν := by
          rw [List.length_map]
          have := beq_iff_eq.mp hl1
          simp only [List.length_cons] at this
          omega
        have hg : GoodIn ex_tb (wsV (ex_own (ex_K μ)) idx (ex_y ν).cls (ex_y ν) (ex_cw ν :: ex_tb)) := ex_good_in (fun w hw => by
          simp only [wsV, List.mem_append, List.mem_cons, List.not_mem_nil, or_false] at hw
          rcases hw with (rfl | rfl | rfl | rfl) | rfl | hw
          · exact k2
          · exact j1
          · exact j2
          · exact k3
          · exact k1
          · exact hw)
        have hrecv := va_recv hcx.1 hP j3 (ex_W_at hlay)
        rw [j4] at hrecv
        have hpre : PreV s H (ex_y ν).cls (ad r) (ex_Pc D G ad (.ref r :: as') σ H.size) (as'.map (ex_cv ad)) := ⟨ex_Pc.blind, hrecv, fun U hU hW => ex_pre hcx hP hS hA hAk U hU hW⟩
        refine vx_runV (S := ⟨hx, hb, hml, hown, hts⟩) hM (cwV (bytes := ex_bytes ν) (maxL := ex_maxL ν) (ret := ex_ret ν) (ex_np ν) hts hg (by rw [hcw]) rfl rfl ⟨rfl, o2⟩ hRR) hpre rfl hlen hsize ?_ hroom' (hd1 rfl) hf
        rw [show (F0 m pc ls (List.map (ex_cv ad) ((Value.ref r :: as').reverse ++ rest))).stack = List.map (ex_cv ad) ((Value.ref r :: as').reverse ++ rest) from rfl, hst]
        simp [ex_cv]
      · cases hself
    · cases hself
theorem ex_pay_e {mc b : Nat} {k : Nat → Prop} (h : ex_pay mc b k) : mc ≤ b ∧ k (b - mc) := by
  unfold ex_pay at h
  split at h
  · exact ⟨Nat.zero_le _, h⟩
  · exact h
theorem ex_call_e {C : ex_CT} {inst idx : Nat} {lv st : List Value} {σ : ex_S} {b : Nat} {P : ex_Q → Prop} {E : ex_O → ex_S → Prop} (h : ex_call C μ inst idx pc lv st σ b P E) : ∃ M ν, ex_find (ex_cal (ex_K μ)) idx = some M ∧ ex_md M = some ν ∧ inst = ex_inst ν ∧ ex_self ν (st.take (ex_np ν + inst)).reverse = true ∧ ex_room (st.drop (ex_np ν + inst)) = true ∧ ex_mc ν ≤ b ∧ C M (st.take (ex_np ν + inst)).reverse σ (fun o σ' => match o with
        | .inl v => P (pc + 3, lv, v.toList ++ st.drop (ex_np ν + inst), σ', b - ex_mc ν)
        | .inr x => ex_exc μ pc lv x (fun pc' lv' st' => P (pc', lv', st', σ', b - ex_mc ν)) (E (.inr x) σ')) := by
  unfold ex_call at h
  split at h
  · rename_i M hM
    split at h
    · rename_i ν hν
      split at h
      · rename_i hi
        split at h
        · rename_i h1 h2
          obtain ⟨h3, h4⟩ := ex_pay_e h
          exact ⟨M, ν, hM, hν, hi, h1, h2, h3, h4⟩
        · exact h.elim
      · exact h.elim
    · exact h.elim
  · exact h.elim
end EXC
end
section
/-! ===== an exception caught behind rows that don't take it, the rows' types resolved or not ===== -/
section CG
theorem cg_row {Q : Handler → Pre} {E : CtlPost} {e : Env} {d : Bool} {acts : List Action} {s : State} {f : JFrame} {a : Addr} {x : ExceptionTableEntry} {t : List ExceptionTableEntry} {c : ClassId} {cell : Cell} (hx : covers x f.pc = true) (h0 : x.catchType ≠ 0) (hl : s.vm.ClassLinks e.platform f.method.cls x.catchType c) (hcell : s.heap[a]? = some cell) (hobj : ∀ k, cell.vm ≠ .statics k) (hk : ∃ k, s.vm.classes[cell.cls]? = some k) (hc : ∃ k, s.vm.classes[c]? = some k) :
    wp (findHandler.go f a (x :: t)) Q E e d acts s ↔ if s.vm.assignable cell.cls c = true then Q (.found x.handlerPc) d acts (s.setVm (s.vm.noted f.method.cls x.catchType (.cls c))) else wp (findHandler.go f a t) Q E e d acts (s.setVm (s.vm.noted f.method.cls x.catchType (.cls c))) := by
  simp only [covers] at hx
  have hres := (resolveClass_links e.toSetting hl).op (op := VmOp.resolveClass f.method.cls x.catchType) rfl
  have hal : s.vm.Alike (s.vm.noted f.method.cls x.catchType (.cls c)) := (Vm.Alike.refl s.vm).noted _ _ _
  obtain ⟨k1, hk1⟩ := hk
  obtain ⟨k2, hk2⟩ := hc
  obtain ⟨k3, hk3, -⟩ := hal.2.2 _ _ hk1
  obtain ⟨k4, hk4, -⟩ := hal.2.2 _ _ hk2
  by_cases hf : s.vm.assignable cell.cls c = true
  · have hf2 : (s.vm.noted f.method.cls x.catchType (.cls c)).assignable cell.cls c = true := by rw [hal.assignable]; exact hf
    rw [if_pos hf]
    simp [findHandler.go, hx, h0, hres.1, hres.2, hcell, hobj, hk3, hk4, hf2, VmOp.dirties, VmOp.acts]
  · have hf2 : (s.vm.noted f.method.cls x.catchType (.cls c)).assignable cell.cls c = false := by rw [hal.assignable]; exact Bool.eq_false_iff.mpr hf
    rw [if_neg hf]
    simp [findHandler.go, hx, h0, hres.1, hres.2, hcell, hobj, hk3, hk4, hf2, VmOp.dirties, VmOp.acts]
theorem cg_link {pl : Platform} {s₀ S : State} {d i : Nat} {c : ClassId} (hW : s₀.WarmedH S.vm) (hl : s₀.vm.ClassLinks pl d i c) : S.vm.ClassLinks pl d i c ∧ (∃ k, S.vm.classes[c]? = some k) ∧ s₀.WarmedH (S.vm.noted d i (.cls c)) := by
  obtain ⟨dk, _, _, kt, hd, _, _, _, _, hkt, _, hopen⟩ := hl.here
  obtain ⟨k, hk, -⟩ := hW.alike.2.2 _ _ hkt
  exact ⟨hW.classLinks hl, ⟨k, hk⟩, hW.noted hd hopen (State.rightAt_cls hl)⟩
theorem cg_go {e : Env} {s₀ : State} {f : JFrame} {a : Addr} {cell : Cell} (hobj : ∀ k, cell.vm ≠ .statics k) (hk0 : ∃ k, s₀.vm.classes[cell.cls]? = some k) (x : ExceptionTableEntry) (rest : List ExceptionTableEntry) (hx : covers x f.pc = true) (h0 : x.catchType ≠ 0) {cx : ClassId} (hlx : s₀.vm.ClassLinks e.platform f.method.cls x.catchType cx) (hfit : s₀.vm.assignable cell.cls cx = true) :
    ∀ (pre : List ExceptionTableEntry) (S : State), s₀.WarmedH S.vm → S.heap[a]? = some cell → (∀ y ∈ pre, covers y f.pc = false ∨ (y.catchType ≠ 0 ∧ ∃ c, s₀.vm.ClassLinks e.platform f.method.cls y.catchType c ∧ s₀.vm.assignable cell.cls c = false)) →
      ∃ vm', s₀.WarmedH vm' ∧ ∀ (Q : Handler → Pre) (E : CtlPost) (d : Bool) (acts : List Action), wp (findHandler.go f a (pre ++ x :: rest)) Q E e d acts S ↔ Q (.found x.handlerPc) d acts (S.setVm vm')
  | [], S, hW, hcell, _ => by
    obtain ⟨k0, hk0⟩ := hk0
    obtain ⟨k1, hk1, -⟩ := hW.alike.2.2 _ _ hk0
    obtain ⟨q1, q2, q3⟩ := cg_link hW hlx
    refine ⟨_, q3, fun Q E d acts => ?_⟩
    rw [List.nil_append, cg_row hx h0 q1 hcell hobj ⟨k1, hk1⟩ q2, if_pos (by rw [hW.alike.assignable]; exact hfit)]
  | y :: ys, S, hW, hcell, hpass => by
    by_cases hcov : covers y f.pc = true
    · rcases hpass y List.mem_cons_self with hn | ⟨hy0, c, hl, hno⟩
      · rw [hn] at hcov; cases hcov
      · obtain ⟨k1, hk1, -⟩ := hW.alike.2.2 _ _ hk0.choose_spec
        obtain ⟨q1, q2, q3⟩ := cg_link hW hl
        obtain ⟨vm', hW', hq⟩ := cg_go hobj hk0 x rest hx h0 hlx hfit ys (S.setVm (S.vm.noted f.method.cls y.catchType (.cls c))) q3 hcell (fun z hz => hpass z (List.mem_cons_of_mem _ hz))
        refine ⟨vm', hW', fun Q E d acts => ?_⟩
        rw [List.cons_append, cg_row hcov hy0 q1 hcell hobj ⟨k1, hk1⟩ q2, if_neg (by rw [hW.alike.assignable, hno]; decide)]
        exact hq Q E d acts
    · obtain ⟨vm', hW', hq⟩ := cg_go hobj hk0 x rest hx h0 hlx hfit ys S hW hcell (fun z hz => hpass z (List.mem_cons_of_mem _ hz))
      refine ⟨vm', hW', fun Q E d acts => ?_⟩
      rw [List.cons_append, Jvm.W.findHandler_go_skip (by simpa using hcov)]
      exact hq Q E d acts
theorem cg_step {tb : Tables} {e : Env} {s target : State} {g : JFrame} {c : Code} {below : List Frame} {a : Addr} (h : At s g.method c below) {pc : Nat} {vm' : Vm}
    (hfind : ∀ (Q : Handler → Pre) (E : CtlPost) (d : Bool) (acts : List Action), wp (findHandler g a) Q E e d acts ((s.setTop g).pushFrame (.throwing a)) ↔ Q (.found pc) d acts (((s.setTop g).pushFrame (.throwing a)).setVm vm')) (hrest : Steps tb e below ((s.setVm vm').setTop { g with pc := pc, stack := [.ref a] }) target) :
    Steps tb e below ((s.setTop g).pushFrame (.throwing a)) target := by
  obtain ⟨g₀, hg⟩ := Option.isSome_iff_exists.mp h.top
  obtain ⟨r, hr⟩ := State.topJava?_eq_some.mp hg
  have hone : ∀ (u : State) (r' : List Frame), (∀ (Q : Handler → Pre) (E : CtlPost) (d : Bool) (acts : List Action), wp (findHandler g a) Q E e d acts u ↔ Q (.found pc) d acts (u.setVm vm')) → (stepThrowing e u a (.java g :: r')).1 = (u.setVm vm').setFrames (.java { g with pc := pc, stack := [.ref a] } :: r') := fun u r' hu => by
    simp only [stepThrowing, searchFrame, vmDo]
    generalize hres : Sem.go _ e false [] u = res
    obtain ⟨as, rfl, -⟩ := Sem.eq_ok_of hres (a := Handler.found pc) (s' := u.setVm vm') (acts' := []) (by simp [hu _ _ _ _])
    rfl
  obtain ⟨hgo, hw⟩ := h.throwing a
  refine Steps.head hgo hw ?_
  rw [stepThread_throwing (frames_entered h.top _), hone _ _ hfind]
  have hr' : (s.setVm vm').frames = .java g₀ :: r := hr
  rw [State.setTop_of_frames _ hr'] at hrest
  have e1 : ∀ (u : State) (F F' : List Frame), ((u.setFrames F).setVm vm').setFrames F' = (u.setVm vm').setFrames F' := fun u F F' => by
    rw [show (u.setFrames F).setVm vm' = (u.setVm vm').setFrames F from rfl, State.setFrames_setFrames]
  rw [hr, List.tail_cons, State.pushFrame, e1, State.setTop_of_frames _ hr, e1]
  exact hrest
variable {p : Program} {l : Launch} {e : Env} {R : Room} {s : State} {m : MethodId} {args : Array Value} {below : List Frame} {meth : Method} {c : Code} {H : Heap} {locs : List Loc} {cells slots : Nat} {Q : State → Prop} {pc : Nat} {ls : Array Slot} {rest : List Value}
theorem cg_catch {own name : String} {E : String} {ce : Cell} {q : Addr} (hown : s.vm.findClass own = some m.cls) (pre : List ExceptionTableEntry) (x : ExceptionTableEntry) (suf : List ExceptionTableEntry) (hsplit : c.exceptionTable.toList = pre ++ x :: suf)
    (hpass : ∀ z ∈ pre, covers z pc = false ∨ (z.catchType ≠ 0 ∧ ∃ nm : String, (Cond.classLink own z.catchType nm).before args s = true ∧ va_Nc E nm s)) (hx : covers x pc = true) (h0 : x.catchType ≠ 0)
    (hlink : (Cond.classLink own x.catchType name).before args s = true) (hcast : (Cond.castable E name).before args s = true) (hcell : H[q]? = some ce) (hv : ce.vm = .none) (hcl : s.vm.findClass E = some ce.cls)
    (kk : W p l e R s m args below meth c H locs cells slots Q (F0 m x.handlerPc ls [.ref q])) : vx_W p l e R s m args below meth c H locs cells slots Q (F0 m pc ls rest) q := by
  intro T hT X
  have hpl : e.platform.magicAccessors = ({} : Platform).magicAccessors := by rw [X.admits.platform]
  obtain ⟨c3, c4, hc3, hc4, hasg⟩ := Cond.castable_spec hcast
  cases Option.some.inj (hc3.symm.trans hcl)
  obtain ⟨c5, hc5, hl5⟩ := Cond.classLink_spec hown hlink e.platform hpl
  cases Option.some.inj (hc4.symm.trans hc5)
  obtain ⟨k9, hk9, -⟩ := Vm.findClass_spec hcl
  obtain ⟨vm', hW', hq⟩ := cg_go (e := e) (s₀ := s) (f := F0 m pc ls rest) (a := q) (cell := ce) (fun k z => by rw [hv] at z; cases z) ⟨k9, hk9⟩ x suf hx h0 hl5 hasg pre ((T.setTop (F0 m pc ls rest)).pushFrame (.throwing q)) X.warmed (by rw [throwing_heap, hT]; exact hcell) (fun z hz => by
    rcases hpass z hz with h | ⟨hz0, nm, hl1, hn1⟩
    · exact Or.inl h
    · obtain ⟨c6, hc6, hl6⟩ := Cond.classLink_spec hown hl1 e.platform hpl
      obtain ⟨a8, b8, h1, h2, h3⟩ := hn1
      cases Option.some.inj (h1.symm.trans hcl)
      cases Option.some.inj (h2.symm.trans hc6)
      exact Or.inr ⟨hz0, _, hl6, h3⟩)
  have X' := X.noted hW'
  obtain ⟨t, a1, b1⟩ := kk (T.setVm vm') hT X'
  refine ⟨t, cg_step (vm' := vm') X.here (fun Q E d acts => ?_) a1, b1⟩
  rw [Jvm.W.findHandler_eq (meth := meth) (code := c) X.method' X.code, hsplit]
  exact hq Q E d acts
end CG
end
section
/-! ===== 'throw new E("text")' where E's own constructor hands on by another entry of its file than its fellows ===== -/
section EXN
def ex_atF (own : String) (ic : Nat) (x : String) (ix : Nat) (rx : ByteArray) (y : String) (names : List String) : List Cond := Bundle.throwableAtoms ++ Bundle.throwableSAtoms ++ (Bundle.passSAtoms x y ix rx ++ Bundle.chainSAtoms y names) ++ ([.methodLink own ic (Bundle.initS x), .instantiable x 6, .castable x x, .selects x Bundle.tFill0 Bundle.tFill0, .selects x Bundle.tFill Bundle.tFill, .lays x Bundle.tN "cause" "Ljava/lang/Throwable;", .lays x Bundle.tN "stackTrace" Bundle.steD, .lays x Bundle.tN "suppressedExceptions" Bundle.listD, .lays x Bundle.tN "detailMessage" "Ljava/lang/String;", .isRef (.static Bundle.tN "UNASSIGNED_STACK" Bundle.steD), .isRef (.static Bundle.tN "SUPPRESSED_SENTINEL" Bundle.listD), .fieldLink Bundle.tN 198 Bundle.tN "backtrace" "Ljava/lang/Object;", .lays Bundle.tN Bundle.tN "backtrace" "Ljava/lang/Object;", .lays x Bundle.tN "backtrace" "Ljava/lang/Object;"] : List Cond)
variable {p : Program} {l : Launch} {e : Env} {R : Room} {s : State} {m : MethodId} {args : Array Value} {below : List Frame} {meth : Method} {c : Code} {V : State} {locs : List Loc} {cells slots : Nat}
set_option maxHeartbeats 4000000 in
theorem ex_ctorX (X : Stand p l e R s m args below meth c V locs cells slots) (hexec : p.tables.exec = Jvm.exec) (htr : e.platform.stackTraces = false) {own cls y : String} {names : List String} {ic ix : Nat} {rx : ByteArray}
    (x0 : decode rx 0 = .ok (.aload_n 0, 1)) (x1 : decode rx 1 = .ok (.aload_n 1, 1)) (x2 : decode rx 2 = .ok (.invokespecial ix, 3)) (x5 : decode rx 5 = .ok (.return_, 1))
    (hown : s.vm.findClass own = some m.cls) (hcls : Bundle.fit cls = true) (hy : Bundle.fit y = true) (hnames : ∀ n ∈ names, Bundle.fit n = true)
    (h : ∀ w ∈ ex_atF own ic cls ix rx y names, w.before args s = true)
    (hlocs : ∀ x ∈ locs, ∀ cell, s.heap[x.base]? = some cell → cell.vm.isStatics = false)
    {a : Addr} {cX : ClassId} {kX : Class} (hfX : s.vm.findClass cls = some cX) (hkX : s.vm.classes[cX]? = some kX) (hcell : V.heap[a]? = some (freshCell cX kX)) (hnew : s.heap.size ≤ a)
    {msg : Value} (hmsg : msg.isRef = true)
    {g : JFrame} (hg : g.method = m) (hsize : g.locals.size = c.maxLocals) (hlocked : g.locked = none) (hentered : g.entered = []) {rest : List Value} (hstack : g.stack = msg :: .ref a :: .ref a :: rest)
    (hd6 : decode c.code g.pc = .ok (.invokespecial ic, 3)) (hd9 : decode c.code (g.pc + 3) = .ok (.athrow, 1)) (hout : ∀ x ∈ c.exceptionTable.toList, covers x (g.pc + 3) = false)
    (hRframes : names.length + 4 < R.frames) (hRlocals : 2 * g.monitorRoom + ((Value.ref a :: rest).map fun v => v.category).sum + (13 * (names.length + 2) + 42) ≤ R.locals) (hlocks : meth.locks = false) :
    ∃ U : State, Steps p.tables e below (V.setTop g) U ∧ U.status = .running ∧ Ended U below (.threw a) ∧ s.WarmedH U.vm ∧ s.sameButNew ({ U with vm := s.vm } : State) locs cells slots ∧ ∃ ce, U.heap[a]? = some ce ∧ ce.vm = .none ∧ ce.cls = cX := by
  have hmon : e.platform.frameOwnsMonitors = true := by rw [X.admits.platform]
  have hfin : e.platform.finalization = false := by rw [X.admits.platform]
  have hpl : e.platform.magicAccessors = ({} : Platform).magicAccessors := by rw [X.admits.platform]
  have k : ∀ w, w ∈ ex_atF own ic cls ix rx y names → w.holds args s none s [] = true := fun w hw => h w hw
  obtain ⟨T, Z0, L, -, Y⟩ := ThrowableC.of_atoms (args := args) hmon hfin hpl (fun w hw => h w (by simp [ex_atF, hw]))
  obtain ⟨Z, M, LZ, LM, hnZ⟩ := Init0T.ofS_atoms (args := args) hpl L Y (fun w hw => h w (by simp [ex_atF, hw]))
  obtain ⟨P0, L0, hP0, hsup0⟩ := PassC.ofS_atoms (args := args) (s := s) hpl (X := cls) (Y := y) (Bundle.fit_spec hcls).1 (Bundle.fit_spec hy).2 x0 x1 x2 x5 (fun w hw => h w (by simp [ex_atF, hw]))
  obtain ⟨P1, Ps, hlen, L1, hL, hP1, hlink1, hlink⟩ := Bundle.chainS (args := args) hpl hnZ names y hy hnames (fun w hw => h w (by simp [ex_atF, hw]))
  have hs01 : P0.sup = P1.m := Option.some.inj (hsup0.symm.trans hP1)
  have hfound : s.vm.findClass cls = some P0.m.cls := findClass_of_methodNamed hP0
  cases Option.some.inj (hfX.symm.trans hfound)
  obtain ⟨c1, kX', hc1, hk, hord, -, -, hn6⟩ := Cond.instantiable_spec (k (.instantiable cls 6) (by simp [ex_atF]))
  cases Option.some.inj (hc1.symm.trans hfound)
  cases Option.some.inj (hkX.symm.trans hk)
  have sel : ∀ {fl : MethodName} {fm : MethodId}, (Cond.selects cls fl fl).holds args s none s [] = true → s.methodNamed? fl = some fm → (fl.cls ≠ "java/lang/invoke/MethodHandle" ∧ fl.cls ≠ "java/lang/invoke/VarHandle") → selectMethod e.platform s.vm P0.m.cls fm = .method fm := fun {fl fm} hw hn hne => by
    obtain ⟨c2, r2, m2, q1, q2, q3, q4, -⟩ := Cond.selects_spec hw
    cases Option.some.inj (q1.symm.trans hfound)
    cases Option.some.inj (q2.symm.trans (State.methodFound?_of_named hn hne))
    cases Option.some.inj (q3.symm.trans hn)
    rw [Launch.admits_selectMethod X.admits]; exact q4
  have hsel0 := sel (k (.selects cls Bundle.tFill0 Bundle.tFill0) (by simp [ex_atF])) Y.fill0 (by decide)
  have hselF := sel (k (.selects cls Bundle.tFill Bundle.tFill) (by simp [ex_atF])) Y.fill (by decide)
  obtain ⟨cellS0, hcS0, hiss⟩ := Y.statics
  obtain ⟨u0, hu0⟩ := Cond.staticRefV Y.unassigned L.unassignedStatic L.statics hcS0 hiss (k (.isRef (.static Bundle.tN "UNASSIGNED_STACK" Bundle.steD)) (by simp [ex_atF]))
  obtain ⟨sen, hsen⟩ := Cond.staticRefV Y.sentinel L.sentinelStatic L.statics hcS0 hiss (k (.isRef (.static Bundle.tN "SUPPRESSED_SENTINEL" Bundle.listD)) (by simp [ex_atF]))
  obtain ⟨ci198, i198, fB, hk198, hg198, ha198, hsB, -, hnB, htB, hffB⟩ := Cond.ownField (t := .object "java/lang/Object") Y.found L.cls (by decide +kernel) (k (.fieldLink Bundle.tN 198 Bundle.tN "backtrace" "Ljava/lang/Object;") (by simp [ex_atF])) (k (.lays Bundle.tN Bundle.tN "backtrace" "Ljava/lang/Object;") (by simp [ex_atF])) e.platform hpl
  obtain ⟨cellS, hcellS, heS, -, hkeep⟩ := X.same.2.2.2.2.2 T.aS cellS0 hcS0
  have hno : ∀ i, (⟨T.aS, i⟩ : Loc) ∉ locs := fun i hm => by
    have h9 := hlocs _ hm cellS0 hcS0
    rw [hiss] at h9; cases h9
  have hknS : cellS.vm ≠ .unknown := by
    rw [heS]
    intro hu
    rw [show cellS0.vm = .unknown from hu] at hiss
    cases hiss
  have hneS : T.aS ≠ a := Nat.ne_of_lt (Nat.lt_of_lt_of_le (Array.getElem?_eq_some_iff.mp hcS0).1 hnew)
  obtain ⟨iM, hffM⟩ := Y.msg
  obtain ⟨tyC, dC, hdC, hdnC⟩ := Cond.laysAt hfound hk Y.cause (k (.lays cls Bundle.tN "cause" "Ljava/lang/Throwable;") (by simp [ex_atF]))
  obtain ⟨tyS, dS, hdS, hdnS⟩ := Cond.laysAt hfound hk Y.stack (k (.lays cls Bundle.tN "stackTrace" Bundle.steD) (by simp [ex_atF]))
  obtain ⟨tyP, dP, hdP, hdnP⟩ := Cond.laysAt hfound hk Y.supp (k (.lays cls Bundle.tN "suppressedExceptions" Bundle.listD) (by simp [ex_atF]))
  obtain ⟨tyM, dM, hdM, hdnM⟩ := Cond.laysAt hfound hk hffM (k (.lays cls Bundle.tN "detailMessage" "Ljava/lang/String;") (by simp [ex_atF]))
  obtain ⟨tyB, dB, hdB, hdnB⟩ := Cond.laysAt hfound hk hffB (k (.lays cls Bundle.tN "backtrace" "Ljava/lang/Object;") (by simp [ex_atF]))
  have bC := Cond.laysApart hdB hdC hdnB hdnC (by rw [hnB, Y.causeName]; decide)
  have bS := Cond.laysApart hdB hdS hdnB hdnS (by rw [hnB, Y.stackName]; decide)
  have bP := Cond.laysApart hdB hdP hdnB hdnP (by rw [hnB, Y.suppName]; decide)
  have hskip : SkipFacts T e.platform s (fun u => u) u0 ((preparedCellV T.toThrowableT (freshCell P0.m.cls kX) a u0 sen).withEntry V.cur) :=
    ⟨{ ci198 := ci198, i198 := i198, fBack := fB }, ⟨hk198, hg198, ha198, hsB⟩, by
      have h9 := fresh_default (c := P0.m.cls) tyB
      rw [htB] at h9
      simpa [preparedCellV, Cell.setSlot, Cell.withEntry, Array.getElem?_setIfInBounds, bC, bS, bP, bC.symm, bS.symm, bP.symm, defaultValue] using h9, fun _ _ => rfl⟩
  obtain ⟨tm, methC, cdC, kC, vm₁, hnC, -, -, -, -, -, -, -, hW₁, st1⟩ := Steps.initColdS (tb := p.tables) (e := e) (below := below) (s := s) (U := V) X.here hexec X.warmed hpl hown (t := Bundle.initS cls) rfl rfl (Bundle.fit_spec hcls).2
    (k (.methodLink own ic (Bundle.initS cls)) (by simp [ex_atF])) (h (.instanceMethod (Bundle.initS cls)) (by simp [ex_atF, Bundle.passSAtoms])) (bytes := rx) (maxL := 2) (h (.code (Bundle.initS cls) rx 2 none) (by simp [ex_atF, Bundle.passSAtoms]))
    (f := g) hg (a := a) (msg := msg) (rest := .ref a :: rest) hstack hd6
  cases Option.some.inj (hnC.symm.trans hP0)
  have X₁ := X.noted hW₁
  obtain ⟨vm₂, X₂, st2⟩ := X₁.ctorMessageOffV hexec (g := { g with stack := .ref a :: rest }) hg hsize T L Z LZ M LM (P0 :: P1 :: Ps)
    (fun P hP => by
      rcases List.mem_cons.mp hP with rfl | hP
      · exact L0
      · rcases List.mem_cons.mp hP with rfl | hP
        · exact L1
        · exact hL P hP) ⟨hs01, hlink1, hlink⟩ (u0 := u0) (sen := sen) (self := a) hmsg (cell := freshCell P0.m.cls kX) (cellS := cellS)
    hcell (fun _ => by simp) (by simp) rfl rfl hsel0 hselF hcellS hneS hknS (by rw [hkeep _ (hno _)]; exact hu0) (by rw [hkeep _ (hno _)]; exact hsen)
    (Takes.of_laid hk hord tyC (by rw [Y.causeType]; rfl)) (Takes.of_laid hk hord tyS (by rw [Y.stackType]; exact fits_refV_array _ u0)) (Takes.of_laid hk hord tyP (by rw [Y.suppType]; exact fits_refV_object _ sen))
    (Takes.of_laid hk hord tyM (by rw [Y.msgType]; exact fits_refV_object _ ⟨msg, hmsg⟩)) Y.objLocals hskip htr [] hd6
    (by simp only [List.length_cons, hlen]; omega) (by simp only [List.length_cons, hlen]; exact hRlocals)
  obtain ⟨hwalk, hrun, hended, hWU, hsame⟩ := X₂.athrowLeaves hexec (g := { g with stack := .ref a :: rest, pc := g.pc + 3 }) hg hlocked hentered hout (a := a) (rest := rest) rfl hd9 hlocks
  have hlt : a < ((V.setVm vm₁).setVm vm₂).heap.size := (Array.getElem?_eq_some_iff.mp hcell).1
  have hU := heapAt_setCell_self (s := (V.setVm vm₁).setVm vm₂) (plainBareV T.toThrowableT (freshCell P0.m.cls kX) a u0 sen msg) hlt
  refine ⟨_, st1 _ (fun acts => ?_), hrun, hended, hWU, hsame.weaken (fun z hz hlt' => ?_) (Nat.le_refl _) (Nat.le_refl _), _, hU, rfl, rfl⟩
  · rw [doInvoke_state]
    exact st2 _ hwalk
  · rcases List.mem_append.mp hz with h1 | h1
    · exact h1
    · exfalso
      have hb : z.base = a := by
        simp only [List.mem_cons, List.not_mem_nil, or_false] at h1
        rcases h1 with rfl | rfl | rfl | rfl | rfl <;> rfl
      rw [hb] at hlt'
      exact Nat.not_lt.mpr hnew hlt'
variable {H : Heap} {free : Addr → Prop} {ls : Array Slot} {rest : List Value} {Qc : Array Value → State → Outcome → State → Prop} {XC : String → State → State → Prop}
set_option maxHeartbeats 4000000 in
theorem ex_throwN {cc : ByteArray} {pc : Nat} (hexec : p.tables.exec = Jvm.exec) (hb : c.code = cc) (hl : l.stackTraces = false) {own cls text y : String} {names : List String} {ik is ic ix mc ms sa : Nat} {rx : ByteArray} {A : Nat → Prop}
    (x0 : decode rx 0 = .ok (.aload_n 0, 1)) (x1 : decode rx 1 = .ok (.aload_n 1, 1)) (x2 : decode rx 2 = .ok (.invokespecial ix, 3)) (x5 : decode rx 5 = .ok (.return_, 1))
    (hown : s.vm.findClass own = some m.cls) (hcls : Bundle.fit cls = true) (hy : Bundle.fit y = true) (hnames : ∀ n ∈ names, Bundle.fit n = true)
    (hk : (Cond.classLink own ik cls).before args s = true) (hini : (Cond.initialized cls).before args s = true) (hstr : vk_R own is text sa s) (hat : ∀ w ∈ ex_atX own ic cls ix rx y names, w.before args s = true)
    (hgood : ∀ w ∈ Cond.classLink own ik cls :: Cond.initialized cls :: ex_atX own ic cls ix rx y names, vx_ot w = true)
    (hU : vx_Zq Bundle.tN "UNASSIGNED_STACK" Bundle.steD A s s.heap) (hN : vx_Zq Bundle.tN "SUPPRESSED_SENTINEL" Bundle.listD A s s.heap) (hS : va_S A s.heap H locs) (hsize : ls.size = c.maxLocals)
    (d0 : decode cc pc = .ok (.new ik, 3)) (d3 : decode cc (pc + 3) = .ok (.dup, 1)) (d4 : decode cc (pc + 4) = .ok (.ldc is, 2)) (d6 : decode cc (pc + 6) = .ok (.invokespecial ic, 3)) (d9 : decode cc (pc + 9) = .ok (.athrow, 1))
    (hout : ∀ x ∈ c.exceptionTable.toList, covers x (pc + 9) = false)
    (hRframes : names.length + 4 < R.frames) (hRlocals : (rest.map fun v => v.category).sum + (13 * (names.length + 2) + 43) ≤ R.locals) (hRcells : cells + 1 ≤ R.cells) (hRslots : slots + 6 ≤ R.slots) (hlocks : meth.locks = false)
    (hx : ∀ t : State, s.vm.Alike t.vm → H.size ≤ t.heap.size → (∀ q : Nat, q < H.size → t.heap[q]? = H[q]?) → XC cls s t)
    (hf : ∀ z ∈ locs, free z.base) (hc : cells + 1 ≤ mc) (hs : slots + 6 ≤ ms) :
    W p l e R s m args below meth c H locs cells slots (vx_MQ below Qc XC args s mc ms free) (F0 m pc ls rest) := by
  intro T hT X
  have htr : e.platform.stackTraces = false := (show e.platform.stackTraces = l.stackTraces by rw [X.admits.platform]).trans hl
  have Y := vx_rebase X (R' := { frames := R.frames, locals := R.locals, cells := 1, slots := 6 }) (Nat.le_refl _) (Nat.le_refl _) hRcells hRslots
  obtain ⟨s', hA⟩ : ∃ z, z = (T.setVm s.vm).setFrames (.invoking m args :: below) := ⟨_, rfl⟩
  rw [← hA] at Y
  have hvm : s'.vm = s.vm := by rw [hA]; rfl
  have hhp : s'.heap = H := by rw [hA]; exact hT
  have hW0 : s.WarmedH s'.vm := by rw [hvm]; exact State.WarmedH.refl s
  have hat' : ∀ w ∈ (ex_atF own ic cls ix rx y names).filter vx_no, w.before args s' = true := fun w hw => vx_ot_at hW0 hvm.symm (hgood w (List.mem_cons_of_mem _ (List.mem_cons_of_mem _ hw))) (hat w hw)
  have hk' : (Cond.classLink own ik cls).before args s' = true := vx_ot_at hW0 hvm.symm (hgood _ List.mem_cons_self) hk
  have hini' : (Cond.initialized cls).before args s' = true := vx_ot_at hW0 hvm.symm (hgood _ (List.mem_cons_of_mem _ List.mem_cons_self)) hini
  have hU' : vx_Zq Bundle.tN "UNASSIGNED_STACK" Bundle.steD A s' s'.heap := by rw [hhp]; exact vx_Zq.moved hW0.alike (hU.kept hS.2.1)
  have hN' : vx_Zq Bundle.tN "SUPPRESSED_SENTINEL" Bundle.listD A s' s'.heap := by rw [hhp]; exact vx_Zq.moved hW0.alike (hN.kept hS.2.1)
  have h : ∀ w ∈ ex_atF own ic cls ix rx y names, w.before args s' = true := vx_own hat' (vx_isRefq hU'.1) (vx_isRefq hN'.1) hU'.2.word hN'.2.word
  have hown' : s'.vm.findClass own = some m.cls := by rw [hvm]; exact hown
  have hins : (Cond.instantiable cls 6).before args s' = true := h _ (by simp [ex_atF])
  obtain ⟨vm₁, cX, kX, hfX, hkX, -, -, X₁, st1⟩ := Y.newCold hexec (own := own) (C := cls) (index := ik) (n := 6) hown' hk' hins hini'
    (g := F0 m pc ls rest) rfl (by rw [hb]; exact d0) (Nat.le_refl _) (Nat.le_refl _)
  generalize hT1 : (T.setVm vm₁).pushCell { cls := cX, slots := kX.instanceTypes.map defaultValue, vm := .none } = T1 at X₁ st1
  have hcat : (Value.ref T.heap.size).category = 1 := rfl
  have hcellA : T1.heap[T.heap.size]? = some (freshCell cX kX) := by rw [← hT1]; exact State.heap_pushCell_size _ _
  have d3' : decode c.code (pc + 3) = .ok (.dup, 1) := by rw [hb]; exact d3
  have d4' : decode c.code (pc + 4) = .ok (.ldc is, 2) := by rw [hb]; exact d4
  have hstr' : vk_R own is text sa s' := vk_R.warm hW0 hstr
  obtain ⟨U, hsteps, hrun, hend, hW, hsame, ce, hce, hcv, hcc⟩ := ex_ctorX X₁ hexec htr x0 x1 x2 x5 (own := own) (cls := cls) (y := y) (names := names) (ic := ic) hown' hcls hy hnames h (fun x hx => nomatch hx) hfX hkX hcellA (by rw [hhp, hT]; exact Nat.le_refl _) (msg := .ref sa) rfl
    (g := { method := m, pc := pc + 6, locals := ls, stack := .ref sa :: .ref T.heap.size :: .ref T.heap.size :: rest, locked := none }) rfl hsize rfl rfl (rest := rest) rfl
    (by rw [hb]; exact d6) (by rw [hb]; exact d9) hout hRframes (by simp only [List.map_cons, List.sum_cons, hcat]; show 2 * 0 + _ + _ ≤ R.locals; omega) hlocks
  obtain ⟨f1, f2⟩ := vx_frame hsame
  rw [hhp] at f1 f2
  have hWs : s.WarmedH U.vm := State.WarmedH.trans hW0 hW
  have hcl : s.vm.findClass cls = some ce.cls := by rw [hcc, ← hvm]; exact hfX
  have hall : s.sameButNew ({ U with vm := s.vm } : State) locs mc ms := by
    subst hA
    obtain ⟨e1, e2⟩ := hsame
    rw [State.setFrames_setFrames] at e1
    have h2 : (T.setVm s.vm).sameButNew ({ U with vm := s.vm } : State) [] (0 + 1) (0 + 6) := ⟨e1, e2⟩
    have h3 := X.same.trans h2
    rw [List.append_nil] at h3
    exact h3.mono hc hs
  refine ⟨U, ?_, .threw T.heap.size, hrun, hend, Or.inr ⟨T.heap.size, rfl, cls, ce, locs, hx U hWs.alike f1 (fun q hq => f2 q hq (fun z hz => nomatch hz)), hce, hcv, hcl, hWs, hall, hf⟩⟩
  refine st1 _ ?_
  show Steps p.tables e below (T1.setTop { method := m, pc := pc + 3, locals := ls, stack := .ref T.heap.size :: rest, locked := none }) _
  jvm_step X₁.here [X₁.here.top, hexec, d3', Value.category]
  exact X₁.ldcString hexec (own := own) (text := text) (index := is) (a := sa) hown' hstr'.1 hstr'.2
    (g := { method := m, pc := pc + 4, locals := ls, stack := .ref T.heap.size :: .ref T.heap.size :: rest, locked := none }) rfl d4' _ hsteps
end EXN
end
